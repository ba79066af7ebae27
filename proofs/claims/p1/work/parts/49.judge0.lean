theorem l_47 : sA SM 47 = 200 := by decide +kernel
theorem l_48 : sA SM 48 = 201 := by decide +kernel
set_option maxRecDepth 1000000 in
theorem n_15 : ∀ j, gR DM 15 j = none := fun _ => rfl
theorem inc1 {x : Int32} (h0 : 0 ≤ x.toInt) (h1 : x.toInt < 100000) : (x + 1).toInt = x.toInt + 1 := by
  rw [Int32.toInt_add]
  have e : (1 : Int32).toInt = 1 := by decide
  rw [e]
  unfold Int.bmod
  simp only
  split <;> omega
set_option maxHeartbeats 4000000 in
theorem forget_loop {D : dt} (hr : gR D 14 2 = some 15) (hz : ∀ j, gR D 15 j = none) : ∀ (n : Nat) (x : Int32), 0 ≤ x.toInt → x.toInt ≤ 200 → (200 - x.toInt).toNat < n → f_X0_forgetScenes_7 SM n 14 x D = some ((), D) := by
  have e2 : (200 : Int32).toInt = 200 := by decide
  intro n
  induction n with
  | zero => intro x _ _ h; exact absurd h (Nat.not_lt_zero _)
  | succ n ih =>
    intro x h0 h1 hn
    rw [f_X0_forgetScenes_7.eq_2]
    by_cases h : (200 : Int32) ≤ x
    · rw [if_pos h]
    · have h' : ¬ (200 : Int32).toInt ≤ x.toInt := fun q => h (Int32.le_iff_toInt_le.mpr q)
      have hx : ¬ (x < 0 ∨ 200 ≤ x.toNatClampNeg) := by
        have : vp_in x 200 := by rw [vp_in_iff]; omega
        exact this
      have e1 := inc1 h0 (by omega)
      rw [if_neg h, hr]
      show ix x (sA SM 15) _ = _
      rw [l_15]
      unfold ix
      rw [if_neg hx, hz]
      show f_X0_forgetScenes_33 SM (f_X0_forgetScenes_7 SM n) 14 x D = _
      unfold f_X0_forgetScenes_33
      rw [nm_eq]
      exact ih (x + 1) (by omega) (by omega) (by omega)
set_option maxHeartbeats 4000000 in
theorem c_judge : wp (f_X8_judge 0 SM DM) (fun q => q.1 = 6 ∧ Ag q.2.2 ∧ q.2.1 = SM) := by
  unfold f_X8_judge
  refine wp_rq r0_3 (wp_c3 ?_)
  unfold f_X0_follow f_X0_forgetScenes
  rw [nm_eq, nm_eq, forget_loop (D := pI DM 14 7 (-1)) (rI r14_2) (fun j => rI (n_15 j)) LF 0 (by decide) (by decide) (by decide)]
  refine wp_cq (wp_some (wp_rq (rI r14_0) (wp_if (fun _ => wp_nm (wp_some ?_)) (fun q => absurd ?_ q))))
  · unfold f_X8_judge_7
    exact wp_some ⟨rfl, (Ag.rf.pI (by decide)).pI (by decide), rfl⟩
  · rw [gI_pI, if_neg (fun z => absurd z.1 (by decide)), i1_5]
set_option maxHeartbeats 4000000 in
theorem mj_loop : ∀ (n : Nat) (x : Int32) (D : dt), 0 ≤ x.toInt → x.toInt ≤ 200 → (200 - x.toInt).toNat < n → gR D 28 27 = some 47 → gR D 28 28 = some 48 → gI D 28 0 = 0 → wp (f_X9_judge_7 SM n 28 x D) (fun q => q.1 = 6) := by
  have e2 : (200 : Int32).toInt = 200 := by decide
  intro n
  induction n with
  | zero => intro x D _ _ h; exact absurd h (Nat.not_lt_zero _)
  | succ n ih =>
    intro x D h0 h1 hn r1 r2 hi
    rw [f_X9_judge_7.eq_2]
    refine wp_if (fun _ => wp_if (fun _ => wp_nm (wp_some rfl)) (fun q => absurd hi q)) (fun h => ?_)
    have h' : ¬ (200 : Int32).toInt ≤ x.toInt := fun q => h (Int32.le_iff_toInt_le.mpr q)
    have e1 := inc1 h0 (by omega)
    refine wp_rq r1 (wp_ix (by rw [l_47, vp_in_iff]; omega) (wp_nm (wp_rq (rI r2) (wp_ix (by rw [l_48, vp_in_iff]; omega) (wp_nm (wp_nm ?_))))))
    refine ih (x + 1) _ (by omega) (by omega) (by omega) (rI (rI r1)) (rI (rI r2)) ?_
    rw [gI_pI, if_neg (fun z => absurd z.1 (by decide)), gI_pI, if_neg (fun z => absurd z.1 (by decide))]
    exact hi
theorem m_judge {D : dt} (hD : Ag D) : wp (f_X9_judge SM 28 D) (fun q => q.1 = 6) := by
  unfold f_X9_judge
  refine wp_nm (wp_nm (mj_loop LF 0 _ (by decide) (by decide) (by decide) (rI (hD.r r28_27)) (rI (hD.r r28_28)) ?_))
  rw [gI_pI, if_neg (fun z => absurd z.2 (by decide))]
  exact hD.i i28_0
