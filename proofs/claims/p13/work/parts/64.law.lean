theorem ixL {x3 c : Int32} {L : Nat} (h0 : 0 ≤ x3.toInt) (h1 : x3.toInt + 6 ≤ L) (hL : L ≤ 3072) (hc : Rg 0 5 c) : vp_in (x3 + c) L := by
  have e : (x3 + c).toInt = x3.toInt + c.toInt := i32_add (a := 0) (b := 3072) ⟨h0, by omega⟩ hc (by decide)
  obtain ⟨c0, c1⟩ := hc
  rw [vp_in_iff, e]
  omega
theorem law_loop {xs : Nat → Int32} {L : Nat} (hL : L ≤ 3072) : ∀ (n : Nat) (x3 : Int32) (S : sh) (D : dt) (k : Int), 0 ≤ x3.toInt → x3.toInt ≤ 3078 → 3078 - x3.toInt < (n : Int) → 6 * k ≤ 10000 * x3.toInt → St S D k → wp (f_law_18 xs L n 0 28 x3 S D) (fun q => q.1 = 1 ∧ sN q.2.1 ≤ 600000 ∧ sZ q.2.1 ≤ 7302250) := by
  intro n
  induction n with
  | zero =>
    intro x3 S D k h0 h1 hm
    omega
  | succ n ih =>
    intro x3 S D k h0 h1 hm hk h
    rw [f_law_18.eq_2]
    have l6 : (6 : Int32).toInt = 6 := rfl
    have eL : (Int32.ofNat L).toInt = L := Int32.toInt_ofNat_of_lt (by omega)
    have e6 : (Int32.ofNat L - 6).toInt = L - 6 := by rw [i32_sub (a := 0) (b := 3072) (c := 6) (d := 6) ⟨by omega, by omega⟩ (by decide) (by decide), eL, l6]
    refine wp_if (fun _ => ⟨_, rfl, rfl, h.room⟩) (fun c => ?_)
    have c := Int32.le_iff_toInt_le.mp (nlt32 c)
    have hl : x3.toInt + 6 ≤ L := by omega
    have I0 : vp_in x3 L := by rw [vp_in_iff]; omega
    have I1 : vp_in (x3 + 1) L := ixL h0 hl hL (by decide)
    have I2 : vp_in (x3 + 2) L := ixL h0 hl hL (by decide)
    have I3 : vp_in (x3 + 3) L := ixL h0 hl hL (by decide)
    have I4 : vp_in (x3 + 4) L := ixL h0 hl hL (by decide)
    have I5 : vp_in (x3 + 5) L := ixL h0 hl hL (by decide)
    have ey : (x3 + 6).toInt = x3.toInt + 6 := by rw [i32_add (a := 0) (b := 3078) (c := 6) (d := 6) ⟨h0, h1⟩ (by decide) (by decide), l6]
    have hk0 : 6 * k ≤ 10000 * (x3.toInt + 6) := by omega
    have hk1 : 6 * (k + 10000) ≤ 10000 * (x3.toInt + 6) := by omega
    have hb : k + 10000 < 1073741824 := by omega
    have nx : ∀ {S' : sh} {D' : dt} {k' : Int}, St S' D' k' → 6 * k' ≤ 10000 * (x3.toInt + 6) → wp (f_law_721 xs L (f_law_18 xs L n) 0 28 x3 S' D') (fun q => q.1 = 1 ∧ sN q.2.1 ≤ 600000 ∧ sZ q.2.1 ≤ 7302250) := by
      intro S' D' k' h' hk'
      unfold f_law_721
      refine wp_nmI (fun y e => ?_)
      subst e
      exact ih _ S' D' k' (by omega) (by omega) (by omega) (by omega) h'
    refine wp_ix I0 ?_
    refine wp_if (fun _ => ?_) (fun _ => ?_)
    · refine wp_ix I1 (wp_ix I2 (wp_ix I3 (wp_ix I4 (wp_cqs (b_feed h) (fun r D1 p => wp_ix I1 (wp_ix I2 (wp_ix I3 (wp_ix I4 (wp_cqs p (fun r2 D2 p2 => ?_))))))))))
      first
        | with_reducible exact nx p2.2 hk0
        | with_reducible exact wp_if (fun _ => nx p2.2 hk0) (fun n => absurd p2.1 n)
        | with_reducible exact wp_if (fun _ => nx p2.2 hk0) (fun n => absurd ((lg_cmp_eq _ _).mpr p2.1) n)
    refine wp_if (fun _ => ?_) (fun _ => ?_)
    · refine wp_ix I1 (wp_ix I2 (wp_ix I3 (wp_ix I4 (wp_ix I5 (wp_cqs (b_alter h) (fun r D1 p => wp_ix I1 (wp_ix I2 (wp_ix I3 (wp_ix I4 (wp_ix I5 (wp_cqs p (fun r2 D2 p2 => ?_))))))))))))
      first
        | with_reducible exact nx p2.2 hk0
        | with_reducible exact wp_if (fun _ => nx p2.2 hk0) (fun n => absurd p2.1 n)
        | with_reducible exact wp_if (fun _ => nx p2.2 hk0) (fun n => absurd ((lg_cmp_eq _ _).mpr p2.1) n)
    refine wp_if (fun _ => ?_) (fun _ => ?_)
    · refine wp_ix I1 (wp_cqs (b_cut h) (fun r D1 p => wp_ix I1 (wp_cqs p (fun r2 D2 p2 => ?_))))
      first
        | with_reducible exact nx p2.2 hk0
        | with_reducible exact wp_if (fun _ => nx p2.2 hk0) (fun n => absurd p2.1 n)
        | with_reducible exact wp_if (fun _ => nx p2.2 hk0) (fun n => absurd ((lg_cmp_eq _ _).mpr p2.1) n)
    refine wp_if (fun _ => ?_) (fun _ => ?_)
    · refine wp_ix I1 (wp_ix I2 (wp_ix I3 (wp_ix I4 (wp_c3s (b_table h) (fun r S1 D1 p => ?_)))))
      unfold f_law_287
      refine wp_ix I1 (wp_ix I2 (wp_ix I3 (wp_ix I4 (wp_cqs p (fun r2 D2 p2 => ?_)))))
      first
        | with_reducible exact nx p2.2 hk0
        | with_reducible exact wp_if (fun _ => nx p2.2 hk0) (fun n => absurd p2.1 n)
        | with_reducible exact wp_if (fun _ => nx p2.2 hk0) (fun n => absurd ((lg_cmp_eq _ _).mpr p2.1) n)
    refine wp_if (fun _ => ?_) (fun _ => ?_)
    · exact wp_ix I1 (wp_cqs (b_context h) (fun r D1 p => wp_ix I1 (wp_cqs p (fun r2 D2 p2 => nx p2 hk0))))
    refine wp_if (fun _ => ?_) (fun _ => ?_)
    · exact wp_ix I1 (wp_ix I2 (wp_cqs (b_poke h) (fun r D1 p => wp_ix I1 (wp_ix I2 (wp_cqs p (fun r2 D2 p2 => nx p2 hk0))))))
    refine wp_if (fun _ => ?_) (fun _ => ?_)
    · refine wp_ix I1 (wp_ix I2 (wp_cqs (b_tick h) (fun r D1 p => wp_ix I1 (wp_ix I2 (wp_cqs p (fun r2 D2 p2 => ?_))))))
      first
        | with_reducible exact nx p2.2 hk0
        | with_reducible exact wp_if (fun _ => nx p2.2 hk0) (fun n => absurd p2.1 n)
        | with_reducible exact wp_if (fun _ => nx p2.2 hk0) (fun n => absurd ((lg_cmp_eq _ _).mpr p2.1) n)
    refine wp_if (fun _ => ?_) (fun _ => ?_)
    · refine wp_c3s (b_judge h) (fun r S1 D1 p => ?_)
      unfold f_law_429
      exact wp_cqs p (fun r2 D2 p2 => nx p2 hk0)
    refine wp_if (fun _ => ?_) (fun _ => ?_)
    · exact wp_pqs (o8_place h) (fun _ _ => wp_pqs (o9_place h) (fun _ _ => nx h hk0))
    refine wp_if (fun _ => ?_) (fun _ => ?_)
    · exact wp_ix I1 (wp_ix I2 (wp_ix I3 (wp_pqs (o8_may h) (fun _ _ => wp_ix I1 (wp_ix I2 (wp_ix I3 (wp_pqs (o9_may h) (fun _ _ => nx h hk0))))))))
    refine wp_if (fun _ => ?_) (fun _ => ?_)
    · exact wp_ix I1 (wp_ix I2 (wp_pqs (o8_cell h) (fun _ _ => wp_ix I1 (wp_ix I2 (wp_pqs (o9_cell h) (fun _ _ => nx h hk0))))))
    refine wp_if (fun _ => ?_) (fun _ => ?_)
    · refine wp_cqs (b_start h) (fun r D1 p => wp_cqs p (fun r2 D2 p2 => ?_))
      first
        | with_reducible exact nx p2.2 hk0
        | with_reducible exact wp_if (fun _ => nx p2.2 hk0) (fun n => absurd p2.1 n)
        | with_reducible exact wp_if (fun _ => nx p2.2 hk0) (fun n => absurd ((lg_cmp_eq _ _).mpr p2.1) n)
    refine wp_if (fun _ => ?_) (fun _ => ?_)
    · exact wp_cqs (b_step hb h) (fun r D1 p => wp_cqs p (fun r2 D2 p2 => nx p2 hk1))
    refine wp_if (fun _ => ?_) (fun _ => ?_)
    · exact wp_ix I1 (wp_cqs (b_run hb h) (fun r D1 p => wp_ix I1 (wp_cqs p (fun r2 D2 p2 => nx p2 hk1))))
    refine wp_if (fun _ => ?_) (fun _ => ?_)
    · exact wp_ix I1 (wp_pqs (o8_told h) (fun _ _ => wp_ix I1 (wp_pqs (o9_told h) (fun _ _ => nx h hk0))))
    refine wp_if (fun _ => ?_) (fun _ => ?_)
    · exact wp_ix I1 (wp_pqs (o8_register h) (fun _ _ => wp_ix I1 (wp_pqs (o9_register h) (fun _ _ => nx h hk0))))
    refine wp_if (fun _ => ?_) (fun _ => ?_)
    · exact wp_ix I1 (wp_ix I2 (wp_cqs (b_octet h) (fun r D1 p => wp_ix I1 (wp_ix I2 (wp_pqs p (fun r2 p2 => nx p2 hk0))))))
    refine wp_if (fun _ => ?_) (fun _ => ?_)
    · exact wp_ix I1 (wp_pqs (o8_putAt h) (fun _ _ => wp_ix I1 (wp_pqs (o9_putAt h) (fun _ _ => nx h hk0))))
    refine wp_if (fun _ => ?_) (fun _ => ?_)
    · exact wp_ix I1 (wp_pqs (o8_keys h) (fun _ _ => wp_ix I1 (wp_pqs (o9_keys h) (fun _ _ => nx h hk0))))
    exact nx h hk0
theorem law_pure (xs : Nat → Int32) (L : Nat) (hL : L ≤ 3072) : ∃ S' D', f_law xs L S00 D00 = some (1, S', D') ∧ sN S' ≤ 600000 ∧ sZ S' ≤ 7302250 := by
  rw [law_15]
  obtain ⟨⟨v, S', D'⟩, e, h1, h2, h3⟩ := law_loop (xs := xs) hL LF 0 SM DM 0 (by decide) (by decide) (by decide) (by decide) st0
  have h1 : v = 1 := h1
  subst h1
  exact ⟨S', D', e, h2, h3⟩
