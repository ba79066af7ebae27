def LPo (q : Int32 × sh × dt) : Prop := q.1 = 1 ∧ sN q.2.1 ≤ 600000 ∧ sZ q.2.1 ≤ 7302250
theorem law_end {xs : Nat → Int32} {n : Nat} {S : sh} {D : dt} (h : sN S ≤ 600000 ∧ sZ S ≤ 7302250) : wp (f_law_725 xs 6 (f_law_18 xs 6 (n + 1)) 0 28 0 S D) LPo := by
  unfold f_law_725
  refine wp_nm ?_
  rw [f_law_18.eq_2]
  exact wp_if (fun _ => wp_some ⟨rfl, h⟩) (fun q => absurd (by decide) q)
theorem SM_ok : sN SM ≤ 600000 ∧ sZ SM ≤ 7302250 := ⟨by rw [SM_n]; decide, Nat.le_trans SM_z (by decide)⟩
theorem two {p : Prop} {α : Type} {a b x y : α} (h : (p → a = x) ∧ (¬ p → a = y)) (h' : (p → b = x) ∧ (¬ p → b = y)) : a = b := by
  by_cases z : p
  · rw [h.1 z, h'.1 z]
  · rw [h.2 z, h'.2 z]
set_option maxHeartbeats 8000000 in
set_option maxRecDepth 100000 in
theorem law_one (xs : Nat → Int32) : wp (f_law_18 xs 6 LF 0 28 0 SM DM) LPo := by
  show wp (f_law_18 xs 6 (19998 + 1 + 1) 0 28 0 SM DM) LPo
  have j1 : vp_in ((0 : Int32) + 1) 6 := in_of rfl
  have j2 : vp_in ((0 : Int32) + 2) 6 := in_of rfl
  have j3 : vp_in ((0 : Int32) + 3) 6 := in_of rfl
  have j4 : vp_in ((0 : Int32) + 4) 6 := in_of rfl
  have j5 : vp_in ((0 : Int32) + 5) 6 := in_of rfl
  rw [f_law_18.eq_2]
  refine wp_if (fun q => absurd q (by decide)) (fun _ => wp_ix (in_of rfl) ?_)
  refine wp_if (fun _ => wp_ix j1 (wp_ix j2 (wp_ix j3 (wp_ix j4 (wp_cq (wp_mono (c_feed _ _ _ _) (fun q hq => wp_ix j1 (wp_ix j2 (wp_ix j3 (wp_ix j4 (wp_cq (wp_mono (m_feed _ _ _ _ hq.2) (fun q' hq' => wp_if (fun _ => law_end SM_ok) (fun ne => absurd (two hq.1 hq') ne)))))))))))))) (fun _ => ?_)
  refine wp_if (fun _ => wp_ix j1 (wp_ix j2 (wp_ix j3 (wp_ix j4 (wp_ix j5 (wp_cq (wp_mono (c_alter _ _ _ _ _) (fun q hq => wp_ix j1 (wp_ix j2 (wp_ix j3 (wp_ix j4 (wp_ix j5 (wp_cq (wp_mono (m_alter _ _ _ _ _ hq.2) (fun q' hq' => wp_if (fun _ => law_end SM_ok) (fun ne => absurd (hq.1.trans hq'.symm) ne)))))))))))))))) (fun _ => ?_)
  refine wp_if (fun _ => wp_ix j1 (wp_cq (wp_mono (c_cut _) (fun q hq => wp_ix j1 (wp_cq (wp_mono (m_cut _ hq.2) (fun q' hq' => wp_if (fun _ => law_end SM_ok) (fun ne => absurd (two hq.1 hq') ne)))))))) (fun _ => ?_)
  refine wp_if (fun _ => wp_ix j1 (wp_ix j2 (wp_ix j3 (wp_ix j4 (wp_c3 (wp_mono (c_table _ _ _ _) (fun q hq => ?_))))))) (fun _ => ?_)
  · obtain ⟨h1, h2, h3, h4, h5⟩ := hq
    unfold f_law_287
    exact wp_ix j1 (wp_ix j2 (wp_ix j3 (wp_ix j4 (wp_cq (wp_mono (m_table _ _ _ _ h3 h2) (fun q' hq' => wp_if (fun _ => law_end ⟨Nat.le_trans h4 (by decide), Nat.le_trans h5 (by have := SM_z; omega)⟩) (fun ne => absurd (two h1 hq') ne)))))))
  refine wp_if (fun _ => wp_ix j1 (wp_cq (wp_mono (c_context _) (fun q hq => wp_ix j1 (wp_cq (wp_mono (m_context _ hq.2) (fun q' hq' => wp_if (fun _ => law_end SM_ok) (fun ne => absurd (two hq.1 hq') ne)))))))) (fun _ => ?_)
  refine wp_if (fun _ => wp_ix j1 (wp_ix j2 (wp_cq (wp_mono (c_poke _ _) (fun q hq => wp_ix j1 (wp_ix j2 (wp_cq (wp_mono (m_poke _ _ hq.2) (fun q' hq' => wp_if (fun _ => law_end SM_ok) (fun ne => absurd (hq.1.trans hq'.symm) ne)))))))))) (fun _ => ?_)
  refine wp_if (fun _ => wp_ix j1 (wp_ix j2 (wp_cq (wp_mono (c_tick _) (fun q hq => wp_ix j1 (wp_ix j2 (wp_cq (wp_mono (m_tick _ hq.2) (fun q' hq' => wp_if (fun _ => law_end SM_ok) (fun ne => absurd ((lg_cmp_eq _ _).mpr (two hq.1 hq')) ne)))))))))) (fun _ => ?_)
  refine wp_if (fun _ => ?_) (fun _ => ?_)
  · refine wp_c3 (wp_mono c_judge (fun q hq => ?_))
    obtain ⟨h1, h2, h3⟩ := hq
    unfold f_law_430
    rw [h3]
    exact wp_cq (wp_mono (m_judge h2) (fun q' hq' => wp_if (fun _ => law_end SM_ok) (fun ne => absurd (h1.trans hq'.symm) ne)))
  refine wp_if (fun _ => wp_pq (wp_mono c_place (fun q hq => wp_pq (wp_mono m_place (fun q' hq' => wp_if (fun _ => law_end SM_ok) (fun ne => absurd (hq.trans hq'.symm) ne)))))) (fun _ => ?_)
  refine wp_if (fun _ => wp_ix j1 (wp_ix j2 (wp_ix j3 (wp_pq (wp_mono (c_may _ _ _) (fun q hq => wp_ix j1 (wp_ix j2 (wp_ix j3 (wp_pq (wp_mono (m_may _ _ _) (fun q' hq' => wp_if (fun _ => law_end SM_ok) (fun ne => absurd ((lg_cmp_eq _ _).mpr (hq.trans hq'.symm)) ne)))))))))))) (fun _ => ?_)
  refine wp_if (fun _ => wp_ix j1 (wp_ix j2 (wp_pq (wp_mono (c_cell _ _) (fun q hq => wp_ix j1 (wp_ix j2 (wp_pq (wp_mono (m_cell _ _) (fun q' hq' => wp_if (fun _ => law_end SM_ok) (fun ne => absurd (hq.trans hq'.symm) ne)))))))))) (fun _ => ?_)
  refine wp_if (fun _ => wp_cq (wp_mono c_start (fun q hq => wp_cq (wp_mono (m_start hq.2) (fun q' hq' => wp_if (fun _ => law_end SM_ok) (fun ne => absurd (hq.1.trans hq'.symm) ne)))))) (fun _ => ?_)
  refine wp_if (fun _ => wp_cq (wp_mono c_step (fun q hq => wp_cq (wp_mono (m_step hq.2) (fun q' hq' => wp_if (fun _ => law_end SM_ok) (fun ne => absurd (hq.1.trans hq'.symm) ne)))))) (fun _ => ?_)
  refine wp_if (fun _ => wp_ix j1 (wp_cq (wp_mono (c_run _) (fun q hq => wp_ix j1 (wp_cq (wp_mono (m_run _ hq.2) (fun q' hq' => wp_if (fun _ => law_end SM_ok) (fun ne => absurd (two hq.1 hq') ne)))))))) (fun _ => ?_)
  refine wp_if (fun _ => wp_ix j1 (wp_pq (wp_mono (c_told _) (fun q hq => wp_ix j1 (wp_pq (wp_mono (m_told _) (fun q' hq' => wp_if (fun _ => law_end SM_ok) (fun ne => absurd (two hq hq') ne)))))))) (fun _ => ?_)
  refine wp_if (fun _ => wp_ix j1 (wp_pq (wp_mono (c_register _) (fun q hq => wp_ix j1 (wp_pq (wp_mono (m_register _) (fun q' hq' => wp_if (fun _ => law_end SM_ok) (fun ne => absurd ((lg_cmp_eq _ _).mpr (hq.trans hq'.symm)) ne)))))))) (fun _ => ?_)
  refine wp_if (fun _ => wp_ix j1 (wp_ix j2 (wp_cq (wp_mono (c_octet _) (fun q hq => wp_ix j1 (wp_ix j2 (wp_pq (wp_mono (m_octet _ hq.2) (fun q' hq' => wp_if (fun _ => law_end SM_ok) (fun ne => absurd (two hq.1 hq') ne)))))))))) (fun _ => ?_)
  refine wp_if (fun _ => wp_ix j1 (wp_pq (wp_mono (c_putAt _) (fun q hq => wp_ix j1 (wp_pq (wp_mono (m_putAt _) (fun q' hq' => wp_if (fun _ => law_end SM_ok) (fun ne => absurd ((lg_cmp_eq _ _).mpr (hq.trans hq'.symm)) ne)))))))) (fun _ => ?_)
  refine wp_if (fun _ => wp_ix j1 (wp_pq (wp_mono (c_keys _) (fun q hq => wp_ix j1 (wp_pq (wp_mono (m_keys _) (fun q' hq' => wp_if (fun _ => law_end SM_ok) (fun ne => absurd (hq.trans hq'.symm) ne)))))))) (fun _ => ?_)
  exact law_end SM_ok
theorem p1_pure (xs : Nat → Int32) (L : Nat) (hL : L ≤ 6) : ∃ S' D', f_law xs L S00 D00 = some (1, S', D') ∧ sN S' ≤ 600000 ∧ sZ S' ≤ 7302250 := by
  rw [law_15]
  by_cases h : L = 6
  · subst h
    obtain ⟨⟨r, S, D⟩, e, h1, h2⟩ := law_one xs
    have h1 : r = 1 := h1
    subst h1
    exact ⟨S, D, e, h2⟩
  · refine ⟨SM, DM, ?_, SM_ok⟩
    show f_law_18 xs L (19999 + 1) 0 28 0 SM DM = _
    rw [f_law_18.eq_2, if_pos]
    have : L = 0 ∨ L = 1 ∨ L = 2 ∨ L = 3 ∨ L = 4 ∨ L = 5 := by omega
    rcases this with rfl | rfl | rfl | rfl | rfl | rfl <;> decide
