set_option maxHeartbeats 4000000 in
theorem ctx_loop (x1 x2 : Int32) (h1 : x1.toInt ≤ 256) : ∀ (n : Nat) (x3 : Int32) (D : dt), 0 ≤ x3.toInt → (x1.toInt - x3.toInt).toNat < n → gR D 7 0 = some 8 → Ag D → wp (f_X2_resizeContext_7 SM n 7 x1 x2 x3 D) (fun q => q.1 = x2 ∧ Ag q.2) := by
  intro n
  induction n with
  | zero => intro x3 D _ h; exact absurd h (Nat.not_lt_zero _)
  | succ n ih =>
    intro x3 D h3 hn hr hD
    rw [f_X2_resizeContext_7.eq_2]
    refine wp_if (fun _ => wp_nm (wp_some ⟨rfl, hD.pI (by decide)⟩)) (fun h => wp_rq hr (wp_ix ?_ (wp_nm (wp_nm ?_))))
    · rw [l_8, vp_in_iff]
      have h4 : ¬ x1.toInt ≤ x3.toInt := fun q => h (Int32.le_iff_toInt_le.mpr q)
      omega
    · have h4 : ¬ x1.toInt ≤ x3.toInt := fun q => h (Int32.le_iff_toInt_le.mpr q)
      have e1 : (x3 + 1).toInt = x3.toInt + 1 := by
        rw [Int32.toInt_add]
        have e : (1 : Int32).toInt = 1 := by decide
        rw [e]
        unfold Int.bmod
        simp only
        split <;> omega
      exact ih (x3 + 1) _ (by omega) (by omega) (rI hr) (hD.pI (by decide))
theorem c_context (n : Int32) : wp (f_X8_context SM 0 n DM) (fun q => ((0 ≤ n.toInt ∧ n.toInt ≤ 256 → q.1 = 0) ∧ (¬ (0 ≤ n.toInt ∧ n.toInt ≤ 256) → q.1 = -2)) ∧ Ag q.2) := by
  unfold f_X8_context
  have e0 : (0 : Int32).toInt = 0 := by decide
  have e1 : (256 : Int32).toInt = 256 := by decide
  refine wp_if (fun h => wp_some ⟨⟨fun q => ?_, fun _ => rfl⟩, Ag.rf⟩) (fun h => wp_if (fun h2 => wp_rq r0_2 ?_) (fun h2 => wp_some ⟨⟨fun q => ?_, fun _ => rfl⟩, Ag.rf⟩))
  · have := Int32.lt_iff_toInt_lt.mp h; omega
  · have h3 := Int32.le_iff_toInt_le.mp h2
    have h4 : ¬ n.toInt < (0 : Int32).toInt := fun z => h (Int32.lt_iff_toInt_lt.mpr z)
    rw [i11_5]
    refine wp_if (fun q => absurd q (by decide)) (fun _ => wp_rq r0_1 (wp_cq ?_))
    unfold f_X2_resizeContext
    rw [i7_1]
    refine wp_nm (wp_mono (ctx_loop n 0 (by omega) LF 0 DM (by decide) ?_ r7_0 Ag.rf) (fun x hx => wp_some ⟨⟨fun _ => hx.1, fun q => absurd ⟨by omega, by omega⟩ q⟩, hx.2⟩))
    unfold LF
    omega
  · exact absurd (Int32.le_iff_toInt_le.mpr (by omega)) h2
set_option maxHeartbeats 4000000 in
theorem mctx_loop (x1 x2 : Int32) (h1 : x1.toInt ≤ 256) : ∀ (n : Nat) (x3 : Int32) (D : dt), 0 ≤ x3.toInt → (x1.toInt - x3.toInt).toNat < n → gR D 28 6 = some 34 → wp (f_X9_context_36 SM n 28 x1 x2 x3 D) (fun q => q.1 = x2) := by
  intro n
  induction n with
  | zero => intro x3 D _ h; exact absurd h (Nat.not_lt_zero _)
  | succ n ih =>
    intro x3 D h3 hn hr
    rw [f_X9_context_36.eq_2]
    refine wp_if (fun _ => wp_nm (wp_some rfl)) (fun h => wp_rq hr (wp_ix ?_ (wp_nm (wp_nm ?_))))
    · rw [l_34, vp_in_iff]
      have h4 : ¬ x1.toInt ≤ x3.toInt := fun q => h (Int32.le_iff_toInt_le.mpr q)
      omega
    · have h4 : ¬ x1.toInt ≤ x3.toInt := fun q => h (Int32.le_iff_toInt_le.mpr q)
      have e1 : (x3 + 1).toInt = x3.toInt + 1 := by
        rw [Int32.toInt_add]
        have e : (1 : Int32).toInt = 1 := by decide
        rw [e]
        unfold Int.bmod
        simp only
        split <;> omega
      exact ih (x3 + 1) _ (by omega) (by omega) (rI hr)
theorem m_context (n : Int32) {D : dt} (hD : Ag D) : wp (f_X9_context SM 28 n D) (fun q => (0 ≤ n.toInt ∧ n.toInt ≤ 256 → q.1 = 0) ∧ (¬ (0 ≤ n.toInt ∧ n.toInt ≤ 256) → q.1 = -2)) := by
  have e0 : (0 : Int64).toInt = 0 := by decide
  have e1 : (256 : Int64).toInt = 256 := by decide
  have e2 : (0 : Int32).toInt = 0 := by decide
  unfold f_X9_context
  by_cases h : 0 ≤ n.toInt ∧ n.toInt ≤ 256
  · rw [in_yes (by omega), hD.i i28_18, hD.i i28_7]
    refine wp_pq (wp_some (wp_if (fun q => absurd q (by decide)) (fun _ => wp_if (fun q => absurd q (by decide)) (fun _ => wp_nm (wp_nm ?_)))))
    refine wp_mono (mctx_loop n 0 (by omega) LF 0 D (by decide) ?_ (hD.r r28_6)) (fun x hx => ⟨fun _ => hx, fun q => absurd h q⟩)
    unfold LF
    omega
  · rw [in_no (by omega)]
    exact wp_pq (wp_some (wp_if (fun _ => wp_some ⟨fun q => absurd q h, fun _ => rfl⟩) (fun q => absurd rfl q)))
