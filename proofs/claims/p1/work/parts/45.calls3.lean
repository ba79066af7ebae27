theorem c_told (w : Int32) : wp (f_X8_told SM DM 0 w) (fun r => ((w = 0 ∨ w = 1 ∨ w = 2 ∨ w = 3 ∨ w = 4 ∨ w = 5) → r = 0) ∧ (¬ (w = 0 ∨ w = 1 ∨ w = 2 ∨ w = 3 ∨ w = 4 ∨ w = 5) → r = -2)) := by
  unfold f_X8_told
  refine wp_if (fun h => wp_rq r0_2 (wp_some ⟨fun _ => i11_5, fun q => absurd (Or.inl h) q⟩)) (fun h0 => ?_)
  refine wp_if (fun h => wp_rq r0_2 (wp_some ⟨fun _ => i11_6, fun q => absurd (Or.inr (Or.inl h)) q⟩)) (fun h1 => ?_)
  refine wp_if (fun h => wp_rq r0_2 (wp_some ⟨fun _ => i11_7, fun q => absurd (Or.inr (Or.inr (Or.inl h))) q⟩)) (fun h2 => ?_)
  refine wp_if (fun h => wp_rq r0_0 (wp_some ⟨fun _ => i1_5, fun q => absurd (Or.inr (Or.inr (Or.inr (Or.inl h)))) q⟩)) (fun h3 => ?_)
  refine wp_if (fun h => wp_rq r0_1 (wp_some ⟨fun _ => i7_4, fun q => absurd (Or.inr (Or.inr (Or.inr (Or.inr (Or.inl h))))) q⟩)) (fun h4 => ?_)
  refine wp_if (fun h => wp_rq r0_2 (wp_some ⟨fun _ => i11_4, fun q => absurd (Or.inr (Or.inr (Or.inr (Or.inr (Or.inr h))))) q⟩)) (fun h5 => ?_)
  exact wp_some ⟨fun q => by rcases q with q | q | q | q | q | q <;> contradiction, fun _ => rfl⟩
theorem m_told (w : Int32) : wp (f_X9_told SM DM 28 w) (fun r => ((w = 0 ∨ w = 1 ∨ w = 2 ∨ w = 3 ∨ w = 4 ∨ w = 5) → r = 0) ∧ (¬ (w = 0 ∨ w = 1 ∨ w = 2 ∨ w = 3 ∨ w = 4 ∨ w = 5) → r = -2)) := by
  unfold f_X9_told
  refine wp_if (fun h => (wp_some ⟨fun _ => i28_18, fun q => absurd (Or.inl h) q⟩)) (fun h0 => ?_)
  refine wp_if (fun h => (wp_some ⟨fun _ => i28_19, fun q => absurd (Or.inr (Or.inl h)) q⟩)) (fun h1 => ?_)
  refine wp_if (fun h => (wp_some ⟨fun _ => i28_20, fun q => absurd (Or.inr (Or.inr (Or.inl h))) q⟩)) (fun h2 => ?_)
  refine wp_if (fun h => (wp_some ⟨fun _ => i28_0, fun q => absurd (Or.inr (Or.inr (Or.inr (Or.inl h)))) q⟩)) (fun h3 => ?_)
  refine wp_if (fun h => (wp_some ⟨fun _ => i28_9, fun q => absurd (Or.inr (Or.inr (Or.inr (Or.inr (Or.inl h))))) q⟩)) (fun h4 => ?_)
  refine wp_if (fun h => (wp_some ⟨fun _ => i28_22, fun q => absurd (Or.inr (Or.inr (Or.inr (Or.inr (Or.inr h))))) q⟩)) (fun h5 => ?_)
  exact wp_some ⟨fun q => by rcases q with q | q | q | q | q | q <;> contradiction, fun _ => rfl⟩
theorem c_register (i : Int32) : wp (f_X8_register SM DM 0 i) (fun r => r = 0) := by
  unfold f_X8_register f_X8_register_10
  refine wp_if (fun _ => wp_some rfl) (fun h => wp_if (fun h2 => wp_rq r0_2 (wp_rq r11_2 (wp_ix ?_ (wp_some (z_12 _))))) (fun _ => wp_some rfl))
  rw [l_12]
  have h3 := Int32.lt_iff_toInt_lt.mp h2
  have e : (11 : Int32).toInt = 11 := by decide
  exact in_lt h (by omega)
theorem m_register (i : Int32) : wp (f_X9_register SM DM 28 i) (fun r => r = 0) := by
  unfold f_X9_register
  rw [s_in]
  refine wp_pq (wp_some (wp_if (fun _ => wp_some rfl) (fun h => wp_rq r28_21 (wp_ix ?_ (wp_some (z_43 _))))))
  rw [l_43, vp_in_iff]
  have e0 : (0 : Int64).toInt = 0 := by decide
  have e1 : (10 : Int64).toInt = 10 := by decide
  by_cases q : (0 : Int64) ≤ i.toInt64 ∧ i.toInt64 ≤ 10
  · have h1 := Int64.le_iff_toInt_le.mp q.1
    have h2 := Int64.le_iff_toInt_le.mp q.2
    rw [i64] at h1 h2
    omega
  · rw [if_neg q] at h
    exact absurd rfl h
theorem c_putAt (i : Int32) : wp (f_X8_putAt SM DM 0 i) (fun r => r = 0) := by
  unfold f_X8_putAt
  refine wp_rq r0_2 (wp_pq ?_)
  unfold f_X1_keptPut f_X1_keptPut_19
  rw [i11_4]
  refine wp_nm (wp_if (fun _ => wp_some (wp_some rfl)) (fun h => wp_if (fun h2 => absurd ?_ h) (fun _ => wp_some (wp_some rfl))))
  rw [if_neg (by decide)] at h2
  exact h2
theorem m_putAt (i : Int32) : wp (f_X9_putAt SM DM 28 i) (fun r => r = 0) := by
  unfold f_X9_putAt
  rw [i28_22]
  refine wp_if (fun q => absurd q (by decide)) (fun _ => ?_)
  unfold f_X9_putAt_18
  rw [in_none]
  exact wp_pq (wp_some (wp_if (fun _ => wp_some rfl) (fun q => absurd rfl q)))
theorem c_keys (t : Int32) : wp (f_X8_keys SM DM 0 t) (fun r => r = -1) := by
  unfold f_X8_keys
  refine wp_rq r0_1 ?_
  have e : f_X2_tableNumbered SM DM 7 t = some none := by
    unfold f_X2_tableNumbered
    rw [i7_4]
    by_cases h : t < 0
    · rw [if_pos h]; rfl
    · rw [if_neg h, if_neg h]; rfl
  rw [e]
  exact wp_pq (wp_some (wp_oq (fun _ => wp_some rfl) (fun x q => by cases q)))
theorem m_keys (t : Int32) : wp (f_X9_keys SM DM 28 t) (fun r => r = -1) := by
  unfold f_X9_keys
  rw [i28_9, in_none]
  exact wp_pq (wp_some (wp_if (fun _ => wp_some rfl) (fun q => absurd rfl q)))
