set_option maxRecDepth 100000 in
theorem s_X9_putKind {g : gh} {S : sh} {D : dt}  {x1 : Int32} (hx1 : Rg 0 199 x1) (h : Inv g S D) : wp (f_X9_putKind S D 28 x1) (fun q => Rg 0 10 q ∧ (q ≠ 0 → Rg 0 10 (g.2 30 x1.toNatClampNeg) ∧ Rg 0 10 (g.2 31 x1.toNatClampNeg))) := by
  unfold f_X9_putKind
  refine wp_rq (iR_28_2 h) ?_
  refine wp_ix (in_rg hx1 (iA_30 h) (by decide)) ?_
  refine wp_if (fun c_1 => ?_) (fun c_1 => ?_)
  ·
    have h_2 : Rg 11 15 _ := rg_le2 rc_11 (iI_30 h _) c_1 (by decide)
    exact ⟨_, rfl, (rg_w rc_0 (by decide)), (fun ne => absurd rfl ne)⟩
  ·
    have h_3 : Rg 0 10 _ := rg_lt1 (iI_30 h _) rc_11 (nle32 c_1) (by decide)
    refine wp_rq (iR_28_3 h) ?_
    refine wp_ix (in_rg hx1 (iA_31 h) (by decide)) ?_
    refine wp_if (fun c_4 => ?_) (fun c_4 => ?_)
    ·
      have h_5 : Rg 0 10 _ := rg_lt1 (iI_31 h _) rc_11 c_4 (by decide)
      refine wp_rq (iR_28_1 h) ?_
      refine wp_ix (in_rg hx1 (iA_29 h) (by decide)) ?_
      refine wp_if (fun c_6 => ?_) (fun c_6 => ?_)
      ·
        have h_7 : Rg 99 99 _ := rg_eq1 (rg_top _) rc_99 c_6 (by decide)
        refine wp_rq (iR_28_5 h) ?_
        refine wp_ix (in_rg hx1 (iA_33 h) (by decide)) ?_
        refine wp_if (fun c_8 => ?_) (fun c_8 => ?_)
        ·
          have h_9 : Rg 0 0 _ := rg_eq1 (rg_top _) rc_0 c_8 (by decide)
          exact ⟨_, rfl, (rg_w rc_9 (by decide)), (fun _ => ⟨(rg_eq (h.p 30 _ rfl).symm h_3), (rg_eq (h.p 31 _ rfl).symm h_5)⟩)⟩
        ·
          exact ⟨_, rfl, (rg_w rc_0 (by decide)), (fun ne => absurd rfl ne)⟩
      ·
        refine wp_rq (iR_28_1 h) ?_
        refine wp_ix (in_rg hx1 (iA_29 h) (by decide)) ?_
        refine wp_if (fun c_10 => ?_) (fun c_10 => ?_)
        ·
          have h_11 : Rg 195 195 _ := rg_eq1 (iI_29 h _) rc_195 c_10 (by decide)
          exact s_X9_putKind_80 hx1 (rg_eq (h.p 30 _ rfl).symm h_3) (rg_eq (h.p 31 _ rfl).symm h_5) h
        ·
          refine wp_rq (iR_28_1 h) ?_
          refine wp_ix (in_rg hx1 (iA_29 h) (by decide)) ?_
          refine wp_if (fun c_12 => ?_) (fun c_12 => ?_)
          ·
            have h_13 : Rg 219 219 _ := rg_eq1 (iI_29 h _) rc_219 c_12 (by decide)
            exact s_X9_putKind_80 hx1 (rg_eq (h.p 30 _ rfl).symm h_3) (rg_eq (h.p 31 _ rfl).symm h_5) h
          ·
            exact ⟨_, rfl, (rg_w rc_0 (by decide)), (fun ne => absurd rfl ne)⟩
    ·
      have h_14 : Rg 11 15 _ := rg_le2 rc_11 (iI_31 h _) (nlt32 c_4) (by decide)
      exact ⟨_, rfl, (rg_w rc_0 (by decide)), (fun ne => absurd rfl ne)⟩
set_option maxRecDepth 100000 in
theorem s0_X9_kindOf_52 {g : gh} {S : sh} {D : dt}  {x1 : Int32} {x2 : Int32} (hx1 : Rg 0 199 x1) (hx2 : Rg 4 7 x2) (h : Inv g S D) : wp (f_X9_kindOf_52 S D 28 x1 x2) (fun q => Rg 0 11 q ∧ (q ≠ 0 → Rg 0 10 (g.2 30 x1.toNatClampNeg) ∧ Rg 0 10 (g.2 31 x1.toNatClampNeg))) := by
  unfold f_X9_kindOf_52
  refine wp_if (fun c_1 => ?_) (fun c_1 => ?_)
  ·
    have h_2 : Rg 7 7 _ := rg_eq1 hx2 rc_7 c_1 (by decide)
    unfold f_X9_kindOf_65
    refine wp_pqs (s_X9_isRegister hx1 (rg_w rc_1 (by decide)) h) (fun r68 q_r68 => ?_)
    obtain ⟨h_r68, x_r68⟩ := q_r68
    refine wp_if (fun c_3 => ?_) (fun c_3 => ?_)
    ·
      have h_4 : Rg 0 0 _ := rg_eq1 h_r68 rc_0 c_3 (by decide)
      exact ⟨_, rfl, (rg_w rc_0 (by decide)), (fun ne => absurd rfl ne)⟩
    ·
      have h_5 := x_r68 c_3
      have h_6 : Rg 1 1 _ := rg_ne1 h_r68 rc_0 c_3 (by decide)
      exact ⟨_, rfl, (rg_w rc_1 (by decide)), (fun _ => ⟨h_5.1, h_5.2⟩)⟩
  ·
    have h_7 : Rg 4 6 _ := rg_ne1 hx2 rc_7 c_1 (by decide)
    unfold f_X9_kindOf_65
    refine wp_pqs (s_X9_isRegister hx1 (rg_w rc_0 (by decide)) h) (fun r68 q_r68 => ?_)
    obtain ⟨h_r68, x_r68⟩ := q_r68
    refine wp_if (fun c_8 => ?_) (fun c_8 => ?_)
    ·
      have h_9 : Rg 0 0 _ := rg_eq1 h_r68 rc_0 c_8 (by decide)
      exact ⟨_, rfl, (rg_w rc_0 (by decide)), (fun ne => absurd rfl ne)⟩
    ·
      have h_10 := x_r68 c_8
      have h_11 : Rg 1 1 _ := rg_ne1 h_r68 rc_0 c_8 (by decide)
      exact ⟨_, rfl, (rg_w rc_1 (by decide)), (fun _ => ⟨h_10.1, h_10.2⟩)⟩
set_option maxRecDepth 100000 in
theorem s0_X9_kindOf_77 {g : gh} {S : sh} {D : dt}  {x1 : Int32} {x2 : Int32} (hx1 : Rg 0 199 x1) (hx2 : Rg 5 6 x2) (h : Inv g S D) : wp (f_X9_kindOf_77 S D 28 x1 x2) (fun q => Rg 0 11 q ∧ (q ≠ 0 → Rg 0 10 (g.2 30 x1.toNatClampNeg) ∧ Rg 0 10 (g.2 31 x1.toNatClampNeg))) := by
  unfold f_X9_kindOf_77
  refine wp_if (fun c_1 => ?_) (fun c_1 => ?_)
  ·
    have h_2 : Rg 5 5 _ := rg_eq1 hx2 rc_5 c_1 (by decide)
    unfold f_X9_kindOf_89
    refine wp_pqs (s_X9_jumpKind hx1 (rg_w rc_1 (by decide)) h) (fun r72 q_r72 => ?_)
    obtain ⟨h_r72, x_r72⟩ := q_r72
    exact ⟨_, rfl, (rg_w h_r72 (by decide)), x_r72⟩
  ·
    have h_3 : Rg 6 6 _ := rg_ne1 hx2 rc_5 c_1 (by decide)
    unfold f_X9_kindOf_89
    refine wp_pqs (s_X9_jumpKind hx1 (rg_w rc_0 (by decide)) h) (fun r72 q_r72 => ?_)
    obtain ⟨h_r72, x_r72⟩ := q_r72
    exact ⟨_, rfl, (rg_w h_r72 (by decide)), x_r72⟩
set_option maxRecDepth 100000 in
theorem s0_X9_kindOf {g : gh} {S : sh} {D : dt}  {x1 : Int32} (hx1 : Rg 0 199 x1) (h : Inv g S D) : wp (f_X9_kindOf S D 28 x1) (fun q => Rg 0 11 q ∧ (q ≠ 0 → Rg 0 10 (g.2 30 x1.toNatClampNeg) ∧ Rg 0 10 (g.2 31 x1.toNatClampNeg))) := by
  unfold f_X9_kindOf
  refine wp_rq (iR_28_1 h) ?_
  refine wp_ix (in_rg hx1 (iA_29 h) (by decide)) ?_
  refine wp_nmI (fun y79 e_y79 => ?_)
  have h_y79 : Rg 0 7 y79 := rg_eq e_y79 (rg_andr _ (by decide) : Rg 0 7 _)
  refine wp_if (fun c_1 => ?_) (fun c_1 => ?_)
  ·
    have h_2 : Rg 1 1 _ := rg_eq1 h_y79 rc_1 c_1 (by decide)
    refine wp_pqs (s_X9_loadKind hx1 h) (fun r82 q_r82 => ?_)
    obtain ⟨h_r82, x_r82⟩ := q_r82
    exact ⟨_, rfl, (rg_w h_r82 (by decide)), x_r82⟩
  ·
    refine wp_if (fun c_3 => ?_) (fun c_3 => ?_)
    ·
      have h_4 : Rg 2 2 _ := rg_eq1 h_y79 rc_2 c_3 (by decide)
      refine wp_rq (iR_28_1 h) ?_
      refine wp_ix (in_rg hx1 (iA_29 h) (by decide)) ?_
      refine wp_if (fun c_5 => ?_) (fun c_5 => ?_)
      ·
        have h_6 : Rg 98 98 _ := rg_eq1 (rg_top _) rc_98 c_5 (by decide)
        refine wp_rq (iR_28_3 h) ?_
        refine wp_ix (in_rg hx1 (iA_31 h) (by decide)) ?_
        refine wp_if (fun c_7 => ?_) (fun c_7 => ?_)
        ·
          have h_8 : Rg 0 0 _ := rg_eq1 (iI_31 h _) rc_0 c_7 (by decide)
          refine wp_rq (iR_28_2 h) ?_
          refine wp_ix (in_rg hx1 (iA_30 h) (by decide)) ?_
          refine wp_if (fun c_9 => ?_) (fun c_9 => ?_)
          ·
            have h_10 : Rg 11 15 _ := rg_le2 rc_11 (iI_30 h _) c_9 (by decide)
            exact ⟨_, rfl, (rg_w rc_0 (by decide)), (fun ne => absurd rfl ne)⟩
          ·
            have h_11 : Rg 0 10 _ := rg_lt1 (iI_30 h _) rc_11 (nle32 c_9) (by decide)
            exact ⟨_, rfl, (rg_w rc_8 (by decide)), (fun _ => ⟨(rg_eq (h.p 30 _ rfl).symm h_11), (rg_w (rg_eq (h.p 31 _ rfl).symm h_8) (by decide))⟩)⟩
        ·
          have h_12 : Rg 1 15 _ := rg_ne1 (iI_31 h _) rc_0 c_7 (by decide)
          exact ⟨_, rfl, (rg_w rc_0 (by decide)), (fun ne => absurd rfl ne)⟩
      ·
        exact ⟨_, rfl, (rg_w rc_0 (by decide)), (fun ne => absurd rfl ne)⟩
    ·
      refine wp_if (fun c_13 => ?_) (fun c_13 => ?_)
      ·
        have h_14 : Rg 3 3 _ := rg_eq1 h_y79 rc_3 c_13 (by decide)
        refine wp_pqs (s_X9_putKind hx1 h) (fun r104 q_r104 => ?_)
        obtain ⟨h_r104, x_r104⟩ := q_r104
        exact ⟨_, rfl, (rg_w h_r104 (by decide)), x_r104⟩
      ·
        refine wp_if (fun c_15 => ?_) (fun c_15 => ?_)
        ·
          have h_16 : Rg 4 4 _ := rg_eq1 h_y79 rc_4 c_15 (by decide)
          exact s0_X9_kindOf_52 hx1 (rg_w h_16 (by decide)) h
        ·
          refine wp_if (fun c_17 => ?_) (fun c_17 => ?_)
          ·
            have h_18 : Rg 5 5 _ := rg_eq1 h_y79 rc_5 c_17 (by decide)
            exact s0_X9_kindOf_77 hx1 (rg_w h_18 (by decide)) h
          ·
            refine wp_if (fun c_19 => ?_) (fun c_19 => ?_)
            ·
              have h_20 : Rg 6 6 _ := rg_eq1 h_y79 rc_6 c_19 (by decide)
              exact s0_X9_kindOf_77 hx1 (rg_w h_20 (by decide)) h
            ·
              refine wp_if (fun c_21 => ?_) (fun c_21 => ?_)
              ·
                have h_22 : Rg 7 7 _ := rg_eq1 h_y79 rc_7 c_21 (by decide)
                exact s0_X9_kindOf_52 hx1 (rg_w h_22 (by decide)) h
              ·
                have h_23 : Rg 0 6 _ := rg_ne1 h_y79 rc_7 c_21 (by decide)
                refine wp_rq (iR_28_1 h) ?_
                refine wp_ix (in_rg hx1 (iA_29 h) (by decide)) ?_
                refine wp_if (fun c_24 => ?_) (fun c_24 => ?_)
                ·
                  have h_25 : Rg 24 24 _ := rg_eq1 (iI_29 h _) rc_24 c_24 (by decide)
                  refine wp_rq (iR_28_3 h) ?_
                  refine wp_ix (in_rg hx1 (iA_31 h) (by decide)) ?_
                  refine wp_if (fun c_26 => ?_) (fun c_26 => ?_)
                  ·
                    have h_27 : Rg 2 15 _ := rg_le2 rc_2 (iI_31 h _) c_26 (by decide)
                    exact ⟨_, rfl, (rg_w rc_0 (by decide)), (fun ne => absurd rfl ne)⟩
                  ·
                    have h_28 : Rg 0 1 _ := rg_lt1 (iI_31 h _) rc_2 (nle32 c_26) (by decide)
                    refine wp_rq (iR_28_2 h) ?_
                    refine wp_ix (in_rg hx1 (iA_30 h) (by decide)) ?_
                    refine wp_if (fun c_29 => ?_) (fun c_29 => ?_)
                    ·
                      have h_30 : Rg 10 15 _ := rg_le2 rc_10 (iI_30 h _) c_29 (by decide)
                      exact ⟨_, rfl, (rg_w rc_0 (by decide)), (fun ne => absurd rfl ne)⟩
                    ·
                      have h_31 : Rg 0 9 _ := rg_lt1 (iI_30 h _) rc_10 (nle32 c_29) (by decide)
                      refine wp_rq (iR_28_4 h) ?_
                      refine wp_ix (in_rg hx1 (iA_32 h) (by decide)) ?_
                      refine wp_if (fun c_32 => ?_) (fun c_32 => ?_)
                      ·
                        have h_33 : Rg 0 0 _ := rg_eq1 (iI_32 h _) rc_0 c_32 (by decide)
                        exact ⟨_, rfl, (rg_w rc_11 (by decide)), (fun _ => ⟨(rg_w (rg_eq (h.p 30 _ rfl).symm h_31) (by decide)), (rg_w (rg_eq (h.p 31 _ rfl).symm h_28) (by decide))⟩)⟩
                      ·
                        exact ⟨_, rfl, (rg_w rc_0 (by decide)), (fun ne => absurd rfl ne)⟩
                ·
                  exact ⟨_, rfl, (rg_w rc_0 (by decide)), (fun ne => absurd rfl ne)⟩
theorem q_reg13 {g : gh} {S : sh} {D : dt} {x1 x2 : Int32} (hx1 : Rg 0 199 x1) (hx2 : Rg 0 1 x2) (h : Inv g S D) : wp (f_X9_isRegister S D 28 x1 x2) (fun q => q ≠ 0 → (g.2 29 x1.toNatClampNeg >>> ((4 : Int32) &&& 31) = 13 → Rg 0 64 (g.2 33 x1.toNatClampNeg))) := by
  by_cases e : g.2 29 x1.toNatClampNeg >>> ((4 : Int32) &&& 31) = 13
  · have i : ∀ {o : Nat}, sA S o = 200 → vp_in x1 (sA S o) := fun e => in_rg hx1 e (by decide)
    unfold f_X9_isRegister
    refine wp_rq (iR_28_1 h) (wp_ix (i (iA_29 h)) (wp_nmI (fun y ey => wp_rq (iR_28_1 h) (wp_ix (i (iA_29 h)) ?_))))
    have y13 : y = 13 := by rw [ey, h.p 29 _ rfl]; exact e
    have no : wp (some (0 : Int32)) (fun q => q ≠ 0 → (g.2 29 x1.toNatClampNeg >>> ((4 : Int32) &&& 31) = 13 → Rg 0 64 (g.2 33 x1.toNatClampNeg))) := ⟨_, rfl, fun n => absurd rfl n⟩
    have W : ∀ xs0, wp (f_X9_isRegister_26 S D 28 x1 x2 y xs0) (fun q => q ≠ 0 → (g.2 29 x1.toNatClampNeg >>> ((4 : Int32) &&& 31) = 13 → Rg 0 64 (g.2 33 x1.toNatClampNeg))) := by
      intro xs0
      unfold f_X9_isRegister_26
      have V : ∀ {v : Int32}, gI D 33 x1.toNatClampNeg = v → Rg 0 64 v → wp (f_X9_isRegister_104 S D x2 xs0) (fun q => q ≠ 0 → (g.2 29 x1.toNatClampNeg >>> ((4 : Int32) &&& 31) = 13 → Rg 0 64 (g.2 33 x1.toNatClampNeg))) := by
        intro v ev rv
        have R : Rg 0 64 (g.2 33 x1.toNatClampNeg) := by rw [← h.p 33 _ rfl, ev]; exact rv
        unfold f_X9_isRegister_104 f_X9_isRegister_113
        exact wp_if (fun _ => ⟨_, rfl, fun _ _ => R⟩) (fun _ => wp_if (fun _ => ⟨_, rfl, fun _ _ => R⟩) (fun _ => no))
      refine wp_if (fun _ => no) (fun _ => wp_rq (iR_28_2 h) (wp_ix (i (iA_30 h)) (wp_if (fun _ => wp_if (fun _ => ?_) (fun n => absurd y13 n)) (fun _ => no))))
      exact wp_rq (iR_28_3 h) (wp_ix (i (iA_31 h)) (wp_if (fun _ => wp_rq (iR_28_4 h) (wp_ix (i (iA_32 h)) (wp_if (fun _ => wp_rq (iR_28_5 h) (wp_ix (i (iA_33 h)) (wp_if (fun c => V c (by decide)) (fun _ => wp_rq (iR_28_5 h) (wp_ix (i (iA_33 h)) (wp_if (fun c => V c (by decide)) (fun _ => wp_rq (iR_28_5 h) (wp_ix (i (iA_33 h)) (wp_if (fun c => V c (by decide)) (fun _ => no)))))))))) (fun _ => no)))) (fun _ => no)))
    exact wp_if (fun _ => W _) (fun _ => W _)
  · exact wp_mono (s_X9_isRegister hx1 hx2 h) (fun q _ _ z => absurd z e)
theorem q_load1 {g : gh} {S : sh} {D : dt} {x1 : Int32} (hx1 : Rg 0 199 x1) (h : Inv g S D) : wp (f_X9_loadKind S D 28 x1) (fun q => q ≠ 1) := by
  have i : ∀ {o : Nat}, sA S o = 200 → vp_in x1 (sA S o) := fun e => in_rg hx1 e (by decide)
  unfold f_X9_loadKind
  repeat' first
    | with_reducible exact wp_some (fun e => absurd e (by decide))
    | with_reducible refine wp_rq (iR_28_1 h) (wp_ix (i (iA_29 h)) ?_)
    | with_reducible refine wp_rq (iR_28_2 h) (wp_ix (i (iA_30 h)) ?_)
    | with_reducible refine wp_rq (iR_28_3 h) (wp_ix (i (iA_31 h)) ?_)
    | with_reducible refine wp_rq (iR_28_5 h) (wp_ix (i (iA_33 h)) ?_)
    | with_reducible refine wp_if (fun _ => ?_) (fun _ => ?_)
theorem q_put1 {g : gh} {S : sh} {D : dt} {x1 : Int32} (hx1 : Rg 0 199 x1) (h : Inv g S D) : wp (f_X9_putKind S D 28 x1) (fun q => q ≠ 1) := by
  have i : ∀ {o : Nat}, sA S o = 200 → vp_in x1 (sA S o) := fun e => in_rg hx1 e (by decide)
  unfold f_X9_putKind f_X9_putKind_80 f_X9_putKind_151
  repeat' first
    | with_reducible exact wp_some (fun e => absurd e (by decide))
    | with_reducible refine wp_rq (iR_28_1 h) (wp_ix (i (iA_29 h)) ?_)
    | with_reducible refine wp_rq (iR_28_2 h) (wp_ix (i (iA_30 h)) ?_)
    | with_reducible refine wp_rq (iR_28_3 h) (wp_ix (i (iA_31 h)) ?_)
    | with_reducible refine wp_rq (iR_28_5 h) (wp_ix (i (iA_33 h)) ?_)
    | with_reducible refine wp_nmI (fun _ _ => ?_)
    | with_reducible refine wp_if (fun _ => ?_) (fun _ => ?_)
theorem q_jump1 {g : gh} {S : sh} {D : dt} {x1 x2 : Int32} (hx1 : Rg 0 199 x1) (h : Inv g S D) : wp (f_X9_jumpKind S D 28 x1 x2) (fun q => q ≠ 1) := by
  have i : ∀ {o : Nat}, sA S o = 200 → vp_in x1 (sA S o) := fun e => in_rg hx1 e (by decide)
  unfold f_X9_jumpKind f_X9_jumpKind_26 f_X9_jumpKind_44 f_X9_jumpKind_77 f_X9_jumpKind_106 f_X9_jumpKind_220
  repeat' first
    | with_reducible exact wp_some (fun e => absurd e (by decide))
    | with_reducible refine wp_rq (iR_28_1 h) (wp_ix (i (iA_29 h)) ?_)
    | with_reducible refine wp_rq (iR_28_2 h) (wp_ix (i (iA_30 h)) ?_)
    | with_reducible refine wp_rq (iR_28_3 h) (wp_ix (i (iA_31 h)) ?_)
    | with_reducible refine wp_rq (iR_28_4 h) (wp_ix (i (iA_32 h)) ?_)
    | with_reducible refine wp_rq (iR_28_5 h) (wp_ix (i (iA_33 h)) ?_)
    | with_reducible refine wp_nmI (fun _ _ => ?_)
    | with_reducible refine wp_pqs s_X9_isHelper (fun _ _ => ?_)
    | with_reducible refine wp_if (fun _ => ?_) (fun _ => ?_)
theorem q_kind13 {g : gh} {S : sh} {D : dt} {x1 : Int32} (hx1 : Rg 0 199 x1) (h : Inv g S D) : wp (f_X9_kindOf S D 28 x1) (fun q => q = 1 → (g.2 29 x1.toNatClampNeg >>> ((4 : Int32) &&& 31) = 13 → Rg 0 64 (g.2 33 x1.toNatClampNeg))) := by
  have i : ∀ {o : Nat}, sA S o = 200 → vp_in x1 (sA S o) := fun e => in_rg hx1 e (by decide)
  unfold f_X9_kindOf f_X9_kindOf_52 f_X9_kindOf_65 f_X9_kindOf_77 f_X9_kindOf_89
  repeat' first
    | with_reducible exact wp_some (fun e => absurd e (by decide))
    | with_reducible exact wp_pqs (q_load1 hx1 h) (fun r p => wp_some (fun e => absurd e p))
    | with_reducible exact wp_pqs (q_put1 hx1 h) (fun r p => wp_some (fun e => absurd e p))
    | with_reducible exact wp_pqs (q_jump1 hx1 h) (fun r p => wp_some (fun e => absurd e p))
    | with_reducible exact wp_pqs (q_reg13 hx1 (by decide) h) (fun r p => wp_if (fun _ => wp_some (fun e => absurd e (by decide))) (fun c => wp_some (fun _ => p c)))
    | with_reducible refine wp_rq (iR_28_1 h) (wp_ix (i (iA_29 h)) ?_)
    | with_reducible refine wp_rq (iR_28_2 h) (wp_ix (i (iA_30 h)) ?_)
    | with_reducible refine wp_rq (iR_28_3 h) (wp_ix (i (iA_31 h)) ?_)
    | with_reducible refine wp_rq (iR_28_4 h) (wp_ix (i (iA_32 h)) ?_)
    | with_reducible refine wp_nmI (fun _ _ => ?_)
    | with_reducible refine wp_if (fun _ => ?_) (fun _ => ?_)
theorem s_X9_kindOf {g : gh} {S : sh} {D : dt} {x1 : Int32} (hx1 : Rg 0 199 x1) (h : Inv g S D) : wp (f_X9_kindOf S D 28 x1) (fun q => Rg 0 11 q ∧ (q ≠ 0 → Rg 0 10 (g.2 30 x1.toNatClampNeg) ∧ Rg 0 10 (g.2 31 x1.toNatClampNeg)) ∧ (q = 1 → (g.2 29 x1.toNatClampNeg >>> ((4 : Int32) &&& 31) = 13 → Rg 0 64 (g.2 33 x1.toNatClampNeg)))) := wp_mono (wp_and (s0_X9_kindOf hx1 h) (q_kind13 hx1 h)) (fun q p => ⟨p.1.1, p.1.2, p.2⟩)
set_option maxRecDepth 100000 in
theorem s_X9_widthOf {g : gh} {S : sh} {D : dt}  {x1 : Int32} (hx1 : Rg 0 199 x1) (h : Inv g S D) : wp (f_X9_widthOf S D 28 x1) (fun q => Rg 1 8 q) := by
  unfold f_X9_widthOf
  refine wp_rq (iR_28_1 h) ?_
  refine wp_ix (in_rg hx1 (iA_29 h) (by decide)) ?_
  refine wp_nmI (fun y15 e_y15 => ?_)
  refine wp_if (fun c_1 => ?_) (fun c_1 => ?_)
  ·
    have h_2 : Rg 0 0 _ := rg_eq1 (rg_top _) rc_0 c_1 (by decide)
    exact ⟨_, rfl, (rg_w rc_4 (by decide))⟩
  ·
    refine wp_if (fun c_3 => ?_) (fun c_3 => ?_)
    ·
      have h_4 : Rg 8 8 _ := rg_eq1 (rg_top _) rc_8 c_3 (by decide)
      exact ⟨_, rfl, (rg_w rc_2 (by decide))⟩
    ·
      refine wp_if (fun c_5 => ?_) (fun c_5 => ?_)
      ·
        have h_6 : Rg 16 16 _ := rg_eq1 (rg_top _) rc_16 c_5 (by decide)
        exact ⟨_, rfl, (rg_w rc_1 (by decide))⟩
      ·
        exact ⟨_, rfl, (rg_w rc_8 (by decide))⟩
set_option maxRecDepth 100000 in
theorem s_X9_isSecond_56 {g : gh} {S : sh} {D : dt}    (h : Inv g S D) : wp (f_X9_isSecond_56 S D) (fun q => Rg 0 1 q) := by
  unfold f_X9_isSecond_56
  exact ⟨_, rfl, (rg_w rc_1 (by decide))⟩
set_option maxRecDepth 100000 in
theorem s_X9_isSecond {g : gh} {S : sh} {D : dt}  {x1 : Int32} (hx1 : Rg 1 199 x1) (h : Inv g S D) : wp (f_X9_isSecond S D 28 x1) (fun q => Rg 0 1 q) := by
  unfold f_X9_isSecond
  refine wp_rq (iR_28_1 h) ?_
  refine wp_ix (in_rg hx1 (iA_29 h) (by decide)) ?_
  refine wp_if (fun c_1 => ?_) (fun c_1 => ?_)
  ·
    have h_2 : Rg 0 0 _ := rg_eq1 (iI_29 h _) rc_0 c_1 (by decide)
    refine wp_rq (iR_28_2 h) ?_
    refine wp_ix (in_rg hx1 (iA_30 h) (by decide)) ?_
    refine wp_if (fun c_3 => ?_) (fun c_3 => ?_)
    ·
      have h_4 : Rg 0 0 _ := rg_eq1 (iI_30 h _) rc_0 c_3 (by decide)
      refine wp_rq (iR_28_3 h) ?_
      refine wp_ix (in_rg hx1 (iA_31 h) (by decide)) ?_
      refine wp_if (fun c_5 => ?_) (fun c_5 => ?_)
      ·
        have h_6 : Rg 0 0 _ := rg_eq1 (iI_31 h _) rc_0 c_5 (by decide)
        refine wp_rq (iR_28_4 h) ?_
        refine wp_ix (in_rg hx1 (iA_32 h) (by decide)) ?_
        refine wp_if (fun c_7 => ?_) (fun c_7 => ?_)
        ·
          have h_8 : Rg 0 0 _ := rg_eq1 (iI_32 h _) rc_0 c_7 (by decide)
          refine wp_rq (iR_28_3 h) ?_
          refine wp_ix (in_rg (rg_sub hx1 rc_1 (by decide) : Rg 0 198 _) (iA_31 h) (by decide)) ?_
          refine wp_if (fun c_9 => ?_) (fun c_9 => ?_)
          ·
            have h_10 : Rg 0 0 _ := rg_eq1 (iI_31 h _) rc_0 c_9 (by decide)
            exact s_X9_isSecond_56 h
          ·
            have h_11 : Rg 1 15 _ := rg_ne1 (iI_31 h _) rc_0 c_9 (by decide)
            refine wp_rq (iR_28_5 h) ?_
            refine wp_ix (in_rg hx1 (iA_33 h) (by decide)) ?_
            refine wp_if (fun c_12 => ?_) (fun c_12 => ?_)
            ·
              have h_13 : Rg 0 0 _ := rg_eq1 (rg_top _) rc_0 c_12 (by decide)
              exact s_X9_isSecond_56 h
            ·
              exact ⟨_, rfl, (rg_w rc_0 (by decide))⟩
        ·
          exact ⟨_, rfl, (rg_w rc_0 (by decide))⟩
      ·
        have h_14 : Rg 1 15 _ := rg_ne1 (iI_31 h _) rc_0 c_5 (by decide)
        exact ⟨_, rfl, (rg_w rc_0 (by decide))⟩
    ·
      have h_15 : Rg 1 15 _ := rg_ne1 (iI_30 h _) rc_0 c_3 (by decide)
      exact ⟨_, rfl, (rg_w rc_0 (by decide))⟩
  ·
    have h_16 : Rg 1 255 _ := rg_ne1 (iI_29 h _) rc_0 c_1 (by decide)
    exact ⟨_, rfl, (rg_w rc_0 (by decide))⟩
set_option maxRecDepth 100000 in
theorem s_X9_over  {x0 : Int64} {x2 : Int64} (hnz : ¬ x2 = 0) : wp (f_X9_over x0 x2) (fun q => True) := by
  unfold f_X9_over
  refine wp_if (fun c_1 => ?_) (fun c_1 => ?_)
  ·
    have h_2 : RgL 0 9223372036854775807 _ := rgl_le2 rcl_0 (rgl_top _) ((lg_cmp_ge _ _).mp c_1) (by decide)
    refine wp_ck hnz ?_
    refine wp_nmI (fun y12 e_y12 => ?_)
    refine wp_pqs (s_X9_isBelow ) (fun r14 h_r14 => ?_)
    refine wp_if (fun c_3 => ?_) (fun c_3 => ?_)
    ·
      have h_4 : Rg 0 0 _ := rg_eq1 h_r14 rc_0 c_3 (by decide)
      exact ⟨_, rfl, trivial⟩
    ·
      have h_5 : Rg 1 1 _ := rg_ne1 h_r14 rc_0 c_3 (by decide)
      exact ⟨_, rfl, trivial⟩
  ·
    have h_6 : RgL (-9223372036854775808) (-1) _ := rgl_lt1 (rgl_top _) rcl_0 (nle64 (fun q => c_1 ((lg_cmp_ge _ _).mpr q))) (by decide)
    refine wp_pqs (s_X9_isBelow ) (fun r17 h_r17 => ?_)
    refine wp_if (fun c_7 => ?_) (fun c_7 => ?_)
    ·
      have h_8 : Rg 0 0 _ := rg_eq1 h_r17 rc_0 c_7 (by decide)
      exact ⟨_, rfl, trivial⟩
    ·
      have h_9 : Rg 1 1 _ := rg_ne1 h_r17 rc_0 c_7 (by decide)
      exact ⟨_, rfl, trivial⟩
set_option maxRecDepth 100000 in
theorem s_X9_signed  {x0 : Int64} {x2 : Int32} (hx2 : Rg (-32768) 32767 x2) : wp (f_X9_signed x0 x2) (fun q => True) := by
  unfold f_X9_signed
  exact ⟨_, rfl, trivial⟩
set_option maxRecDepth 100000 in
theorem s_X9_turned_5  : ∀ (n : Nat) (x0 : Int64) (x2 : Int32) (x3 : Int64) (x5 : Int32), Rg 0 64 x2 → Rg 0 71 x5 → 71 - x5.toInt < (n : Int) → wp (f_X9_turned_5 n x0 x2 x3 x5) (fun q => True) := by
  intro n
  induction n with
  | zero =>
    intro x0 x2 x3 x5 hx2 hx5 hm
    exact (ms_0 hx5 (by decide) hm).elim
  | succ n ih =>
    intro x0 x2 x3 x5 hx2 hx5 hm
    rw [f_X9_turned_5.eq_2]
    refine wp_if (fun c_1 => ?_) (fun c_1 => ?_)
    ·
      exact ⟨_, rfl, trivial⟩
    ·
      have h_2 : Rg 0 63 _ := rg_lt1 hx5 hx2 (nle32 c_1) (by decide)
      have h_3 : Rg 1 64 _ := rg_lt2 hx5 hx2 (nle32 c_1) (by decide)
      refine wp_nmI (fun y7 e_y7 => ?_)
      refine wp_nmI (fun y8 e_y8 => ?_)
      have h_y8 : Rg 8 71 y8 := rg_eq e_y8 (rg_add h_2 rc_8 (by decide) : Rg 8 71 _)
      exact ih _ _ _ _ (rg_w h_3 (by decide)) (rg_w h_y8 (by decide)) (by rw [e_y8]; exact ms_up h_2 (by decide) hm)
set_option maxRecDepth 100000 in
theorem s_X9_turned  {x0 : Int64} {x2 : Int32} (hx2 : Rg 0 64 x2) : wp (f_X9_turned x0 x2) (fun q => True) := by
  unfold f_X9_turned
  refine wp_nmI (fun y9 e_y9 => ?_)
  have h_y9 : RgL 0 0 y9 := rgl_eq e_y9 rcl_0
  refine wp_nmI (fun y10 e_y10 => ?_)
  have h_y10 : Rg 0 0 y10 := rg_eq e_y10 rc_0
  exact s_X9_turned_5  LF _ _ _ _ hx2 (rg_w h_y10 (by decide)) (ms_in h_y10 (by decide))
theorem lshr32 (x : Int64) : (j_lshr x ((64 : Int32) - 32)).toInt = x.toInt / 4294967296 := by
  have e : (j_lshr x ((64 : Int32) - 32)).toInt = (x.toBitVec.sshiftRight 32).toInt := rfl
  rw [e, BitVec.toInt_sshiftRight, Int.shiftRight_eq_div_pow]
  rfl
theorem lshl32 (x : Int64) : (j_lshl x ((64 : Int32) - 32)).toInt = (x.toInt * 4294967296).bmod (2 ^ 64) := by
  have e : (j_lshl x ((64 : Int32) - 32)).toInt = (x.toBitVec <<< 32).toInt := rfl
  have e2 : x.toBitVec <<< 32 = x.toBitVec * (BitVec.twoPow 64 32) := by rw [BitVec.mul_twoPow_eq_shiftLeft]
  rw [e, e2, BitVec.toInt_mul]
  rfl
theorem sg_nz {b : Int64} (hb : RgL 0 4294967295 b) (nz : ¬ b = 0) : ¬ j_lshr (j_lshl b ((64 : Int32) - 32)) ((64 : Int32) - 32) = 0 := by
  intro e
  have e := congrArg Int64.toInt e
  rw [lshr32, lshl32] at e
  have e0 : (0 : Int64).toInt = 0 := rfl
  rw [e0] at e
  have n : b.toInt ≠ 0 := fun q => nz (Int64.toInt_inj.mp q)
  have h1 := hb.1
  have h2 := hb.2
  rw [Int.bmod_def] at e
  split at e
  · omega
  · omega
theorem q_divided_77 {x6 : Int32} {x7 xs0 : Int64} (nz : ¬ xs0 = 0) : wp (f_X9_divided_77 x6 x7 xs0) (fun _ => True) := by
  unfold f_X9_divided_77
  exact wp_if (fun _ => wp_if (fun _ => ⟨_, rfl, trivial⟩) (fun _ => ⟨_, rfl, trivial⟩)) (fun _ => wp_if (fun _ => wp_ck nz ⟨_, rfl, trivial⟩) (fun _ => wp_ck nz ⟨_, rfl, trivial⟩))
theorem q_divided_60 {x2 xs0 : Int64} {x4 x6 : Int32} (nz : ¬ x2 = 0) (hw : x4 = 0 → RgL 0 4294967295 x2) : wp (f_X9_divided_60 x2 x4 x6 xs0) (fun _ => True) := by
  unfold f_X9_divided_60 f_X9_signed
  exact wp_if (fun c => wp_pqs (Q := fun r => r = j_lshr (j_lshl x2 ((64 : Int32) - 32)) ((64 : Int32) - 32)) ⟨_, rfl, rfl⟩ (fun r e => q_divided_77 (by rw [e]; exact sg_nz (hw c) nz))) (fun _ => q_divided_77 nz)
theorem s_X9_divided {x0 x2 : Int64} {x4 x5 x6 : Int32} (hx4 : Rg 0 1 x4) (hx5 : Rg 0 1 x5) (hx6 : Rg 0 1 x6) (hw : x4 = 0 → RgL 0 4294967295 x2) : wp (f_X9_divided x0 x2 x4 x5 x6) (fun q => True) := by
  unfold f_X9_divided
  refine wp_if (fun _ => wp_if (fun _ => ⟨_, rfl, trivial⟩) (fun _ => ⟨_, rfl, trivial⟩)) (fun c => ?_)
  have nz : ¬ x2 = 0 := fun e => c ((lg_cmp_eq _ _).mpr e)
  refine wp_if (fun _ => wp_if (fun _ => wp_pqs (s_X9_over nz) (fun _ _ => ⟨_, rfl, trivial⟩)) (fun _ => wp_pqs (s_X9_over nz) (fun _ _ => ⟨_, rfl, trivial⟩))) (fun _ => wp_if (fun _ => ?_) (fun _ => q_divided_60 nz hw))
  unfold f_X9_signed
  exact wp_pqs (Q := fun _ => True) ⟨_, rfl, trivial⟩ (fun _ _ => q_divided_60 nz hw)
set_option maxRecDepth 100000 in
theorem s_X9_made_122 {g : gh} {S : sh} {D : dt}  {xs0 : Int64} {xs1 : Int64} {xs2 : Int32} {xs3 : Int32} (hxs2 : Rg 0 1 xs2) (hxs3 : Rg 0 1 xs3) (hw : (xs2 = 0 → RgL 0 4294967295 xs1)) (h : Inv g S D) : wp (f_X9_made_122 S D xs0 xs1 xs2 xs3) (fun q => True) := by
  unfold f_X9_made_122
  refine wp_pqs (s_X9_divided hxs2 hxs3 (rg_w rc_0 (by decide)) (by first | exact hw | exact (fun ne => absurd rfl ne))) (fun r49 _ => ?_)
  exact ⟨_, rfl, trivial⟩
set_option maxRecDepth 100000 in
theorem s_X9_made_147 {g : gh} {S : sh} {D : dt}  {xs0 : Int64} {xs1 : Int64} {xs2 : Int32} {xs3 : Int32} (hxs2 : Rg 0 1 xs2) (hxs3 : Rg 0 1 xs3) (hw : (xs2 = 0 → RgL 0 4294967295 xs1)) (h : Inv g S D) : wp (f_X9_made_147 S D xs0 xs1 xs2 xs3) (fun q => True) := by
  unfold f_X9_made_147
  refine wp_pqs (s_X9_divided hxs2 hxs3 (rg_w rc_1 (by decide)) (by first | exact hw | exact (fun ne => absurd rfl ne))) (fun r51 _ => ?_)
  exact ⟨_, rfl, trivial⟩
set_option maxRecDepth 100000 in
theorem s_X9_made_206 {g : gh} {S : sh} {D : dt}  {x1 : Int32} {x6 : Int64} (hx1 : Rg 0 199 x1) (h30_x1 : Rg 0 10 (g.2 30 x1.toNatClampNeg)) (h31_x1 : Rg 0 10 (g.2 31 x1.toNatClampNeg)) (h : Inv g S D) : wp (f_X9_made_206 S D 28 x1 x6) (fun q => True) := by
  unfold f_X9_made_206
  refine wp_rq (iR_28_4 h) ?_
  refine wp_ix (in_rg hx1 (iA_32 h) (by decide)) ?_
  refine wp_if (fun c_1 => ?_) (fun c_1 => ?_)
  ·
    have h_2 : Rg 0 0 _ := rg_eq1 (iI_32 h _) rc_0 c_1 (by decide)
    exact ⟨_, rfl, trivial⟩
  ·
    refine wp_rq (iR_28_4 h) ?_
    refine wp_ix (in_rg hx1 (iA_32 h) (by decide)) ?_
    refine wp_pqs (s_X9_signed (iI_32 h _)) (fun r64 _ => ?_)
    exact ⟨_, rfl, trivial⟩
set_option maxRecDepth 100000 in
theorem s_X9_made_198 {g : gh} {S : sh} {D : dt}  {x8 : Int32} {xs0 : Int64}  (h : Inv g S D) : wp (f_X9_made_198 S D x8 xs0) (fun q => True) := by
  unfold f_X9_made_198
  exact ⟨_, rfl, trivial⟩
set_option maxRecDepth 100000 in
theorem s_X9_made_14 {g : gh} {S : sh} {D : dt}  {x1 : Int32} {x2 : Int32} {x3 : Int32} {x4 : Int64} {x6 : Int64} {xs0 : Int32} {xs1 : Int32} (hx1 : Rg 0 199 x1) (hx2 : Rg 0 15 x2) (hx3 : Rg 0 1 x3) (hxs1 : Rg 31 63 xs1) (h30_x1 : Rg 0 10 (g.2 30 x1.toNatClampNeg)) (h31_x1 : Rg 0 10 (g.2 31 x1.toNatClampNeg)) (hw : (x3 = 0 → RgL 0 4294967295 x6)) (h : Inv g S D) : wp (f_X9_made_14 S D 28 x1 x2 x3 x4 x6 xs0 xs1) (fun q => True) := by
  unfold f_X9_made_14
  refine wp_nmI (fun y65 e_y65 => ?_)
  refine wp_if (fun c_1 => ?_) (fun c_1 => ?_)
  ·
    have h_2 : Rg 0 0 _ := rg_eq1 hx2 rc_0 c_1 (by decide)
    exact ⟨_, rfl, trivial⟩
  ·
    have h_3 : Rg 1 15 _ := rg_ne1 hx2 rc_0 c_1 (by decide)
    refine wp_if (fun c_4 => ?_) (fun c_4 => ?_)
    ·
      have h_5 : Rg 1 1 _ := rg_eq1 h_3 rc_1 c_4 (by decide)
      exact ⟨_, rfl, trivial⟩
    ·
      have h_6 : Rg 2 15 _ := rg_ne1 h_3 rc_1 c_4 (by decide)
      refine wp_if (fun c_7 => ?_) (fun c_7 => ?_)
      ·
        have h_8 : Rg 2 2 _ := rg_eq1 h_6 rc_2 c_7 (by decide)
        exact ⟨_, rfl, trivial⟩
      ·
        have h_9 : Rg 3 15 _ := rg_ne1 h_6 rc_2 c_7 (by decide)
        refine wp_if (fun c_10 => ?_) (fun c_10 => ?_)
        ·
          have h_11 : Rg 3 3 _ := rg_eq1 h_9 rc_3 c_10 (by decide)
          refine wp_rq (iR_28_4 h) ?_
          refine wp_ix (in_rg hx1 (iA_32 h) (by decide)) ?_
          refine wp_if (fun c_12 => ?_) (fun c_12 => ?_)
          ·
            have h_13 : Rg 1 1 _ := rg_eq1 (iI_32 h _) rc_1 c_12 (by decide)
            exact s_X9_made_122 hx3 (rg_w rc_1 (by decide)) (by first | exact hw | exact (fun ne => absurd rfl ne)) h
          ·
            exact s_X9_made_122 hx3 (rg_w rc_0 (by decide)) (by first | exact hw | exact (fun ne => absurd rfl ne)) h
        ·
          have h_14 : Rg 4 15 _ := rg_ne1 h_9 rc_3 c_10 (by decide)
          refine wp_if (fun c_15 => ?_) (fun c_15 => ?_)
          ·
            have h_16 : Rg 4 4 _ := rg_eq1 h_14 rc_4 c_15 (by decide)
            exact ⟨_, rfl, trivial⟩
          ·
            have h_17 : Rg 5 15 _ := rg_ne1 h_14 rc_4 c_15 (by decide)
            refine wp_if (fun c_18 => ?_) (fun c_18 => ?_)
            ·
              have h_19 : Rg 5 5 _ := rg_eq1 h_17 rc_5 c_18 (by decide)
              exact ⟨_, rfl, trivial⟩
            ·
              have h_20 : Rg 6 15 _ := rg_ne1 h_17 rc_5 c_18 (by decide)
              refine wp_if (fun c_21 => ?_) (fun c_21 => ?_)
              ·
                have h_22 : Rg 6 6 _ := rg_eq1 h_20 rc_6 c_21 (by decide)
                exact ⟨_, rfl, trivial⟩
              ·
                have h_23 : Rg 7 15 _ := rg_ne1 h_20 rc_6 c_21 (by decide)
                refine wp_if (fun c_24 => ?_) (fun c_24 => ?_)
                ·
                  have h_25 : Rg 7 7 _ := rg_eq1 h_23 rc_7 c_24 (by decide)
                  exact ⟨_, rfl, trivial⟩
                ·
                  have h_26 : Rg 8 15 _ := rg_ne1 h_23 rc_7 c_24 (by decide)
                  refine wp_if (fun c_27 => ?_) (fun c_27 => ?_)
                  ·
                    have h_28 : Rg 8 8 _ := rg_eq1 h_26 rc_8 c_27 (by decide)
                    exact ⟨_, rfl, trivial⟩
                  ·
                    have h_29 : Rg 9 15 _ := rg_ne1 h_26 rc_8 c_27 (by decide)
                    refine wp_if (fun c_30 => ?_) (fun c_30 => ?_)
                    ·
                      have h_31 : Rg 9 9 _ := rg_eq1 h_29 rc_9 c_30 (by decide)
                      refine wp_rq (iR_28_4 h) ?_
                      refine wp_ix (in_rg hx1 (iA_32 h) (by decide)) ?_
                      refine wp_if (fun c_32 => ?_) (fun c_32 => ?_)
                      ·
                        have h_33 : Rg 1 1 _ := rg_eq1 (iI_32 h _) rc_1 c_32 (by decide)
                        exact s_X9_made_147 hx3 (rg_w rc_1 (by decide)) (by first | exact hw | exact (fun ne => absurd rfl ne)) h
                      ·
                        exact s_X9_made_147 hx3 (rg_w rc_0 (by decide)) (by first | exact hw | exact (fun ne => absurd rfl ne)) h
                    ·
                      have h_34 : Rg 10 15 _ := rg_ne1 h_29 rc_9 c_30 (by decide)
                      refine wp_if (fun c_35 => ?_) (fun c_35 => ?_)
                      ·
                        have h_36 : Rg 10 10 _ := rg_eq1 h_34 rc_10 c_35 (by decide)
                        exact ⟨_, rfl, trivial⟩
                      ·
                        have h_37 : Rg 11 15 _ := rg_ne1 h_34 rc_10 c_35 (by decide)
                        refine wp_if (fun c_38 => ?_) (fun c_38 => ?_)
                        ·
                          have h_39 : Rg 11 11 _ := rg_eq1 h_37 rc_11 c_38 (by decide)
                          exact s_X9_made_206 hx1 h30_x1 h31_x1 h
                        ·
                          have h_40 : Rg 12 15 _ := rg_ne1 h_37 rc_11 c_38 (by decide)
                          refine wp_if (fun c_41 => ?_) (fun c_41 => ?_)
                          ·
                            have h_42 : Rg 12 12 _ := rg_eq1 h_40 rc_12 c_41 (by decide)
                            refine wp_if (fun c_43 => ?_) (fun c_43 => ?_)
                            ·
                              have h_44 : Rg 0 0 _ := rg_eq1 hx3 rc_0 c_43 (by decide)
                              refine wp_pqs (s_X9_signed (rg_w rc_32 (by decide))) (fun r93 _ => ?_)
                              exact s_X9_made_198 h
                            ·
                              have h_45 : Rg 1 1 _ := rg_ne1 hx3 rc_0 c_43 (by decide)
                              exact s_X9_made_198 h
                          ·
                            have h_46 : Rg 13 15 _ := rg_ne1 h_40 rc_12 c_41 (by decide)
                            exact s_X9_made_206 hx1 h30_x1 h31_x1 h
set_option maxRecDepth 100000 in
theorem s_X9_made {g : gh} {S : sh} {D : dt}  {x1 : Int32} {x2 : Int32} {x3 : Int32} {x4 : Int64} {x6 : Int64} (hx1 : Rg 0 199 x1) (hx2 : Rg 0 15 x2) (hx3 : Rg 0 1 x3) (h30_x1 : Rg 0 10 (g.2 30 x1.toNatClampNeg)) (h31_x1 : Rg 0 10 (g.2 31 x1.toNatClampNeg)) (hw : (x3 = 0 → RgL 0 4294967295 x6)) (h : Inv g S D) : wp (f_X9_made S D 28 x1 x2 x3 x4 x6) (fun q => True) := by
  unfold f_X9_made
  refine wp_if (fun c_1 => ?_) (fun c_1 => ?_)
  ·
    have h_2 : Rg 0 0 _ := rg_eq1 hx3 rc_0 c_1 (by decide)
    exact s_X9_made_14 hx1 hx2 (rg_w h_2 (by decide)) (rg_w rc_31 (by decide)) h30_x1 h31_x1 (by first | exact hw | exact (fun ne => absurd rfl ne)) h
  ·
    have h_3 : Rg 1 1 _ := rg_ne1 hx3 rc_0 c_1 (by decide)
    exact s_X9_made_14 hx1 hx2 (rg_w h_3 (by decide)) (rg_w rc_63 (by decide)) h30_x1 h31_x1 (by first | exact hw | exact (fun ne => absurd rfl ne)) h
set_option maxRecDepth 100000 in
theorem s_X9_reckon_89 {g : gh} {S : sh} {D : dt}  {x1 : Int32} {x8 : Int64} (hx1 : Rg 0 199 x1) (h30_x1 : Rg 0 10 (g.2 30 x1.toNatClampNeg)) (h31_x1 : Rg 0 10 (g.2 31 x1.toNatClampNeg)) (h64 : Rg 0 64 (g.2 33 x1.toNatClampNeg)) (h : Inv g S D) : wp (f_X9_reckon_89 S D 28 x1 x8) (fun q => True) := by
  unfold f_X9_reckon_89
  refine wp_rq (iR_28_5 h) ?_
  refine wp_ix (in_rg hx1 (iA_33 h) (by decide)) ?_
  refine wp_pqs (s_X9_turned (rg_eq (h.p 33 _ rfl) h64)) (fun r50 _ => ?_)
  exact ⟨_, rfl, trivial⟩
set_option maxRecDepth 100000 in
theorem s_X9_reckon_65 {g : gh} {S : sh} {D : dt}  {x1 : Int32} {x6 : Int32} {xs0 : Int64} (hx1 : Rg 0 199 x1) (hx6 : Rg 0 1 x6) (h30_x1 : Rg 0 10 (g.2 30 x1.toNatClampNeg)) (h31_x1 : Rg 0 10 (g.2 31 x1.toNatClampNeg)) (h64 : Rg 0 64 (g.2 33 x1.toNatClampNeg)) (h : Inv g S D) : wp (f_X9_reckon_65 S D 28 x1 x6 xs0) (fun q => True) := by
  unfold f_X9_reckon_65
  refine wp_if (fun c_1 => ?_) (fun c_1 => ?_)
  ·
    have h_2 : Rg 0 0 _ := rg_eq1 hx6 rc_0 c_1 (by decide)
    refine wp_rq (iR_28_1 h) ?_
    refine wp_ix (in_rg hx1 (iA_29 h) (by decide)) ?_
    refine wp_if (fun c_3 => ?_) (fun c_3 => ?_)
    ·
      have h_4 : Rg 0 0 _ := rg_eq1 (rg_top _) rc_0 c_3 (by decide)
      exact ⟨_, rfl, trivial⟩
    ·
      exact s_X9_reckon_89 hx1 h30_x1 h31_x1 (by first | exact h64 | exact (fun ne => absurd rfl ne)) h
  ·
    have h_5 : Rg 1 1 _ := rg_ne1 hx6 rc_0 c_1 (by decide)
    exact s_X9_reckon_89 hx1 h30_x1 h31_x1 (by first | exact h64 | exact (fun ne => absurd rfl ne)) h
set_option maxRecDepth 100000 in
theorem s_X9_reckon_133 {g : gh} {S : sh} {D : dt}  {x1 : Int32} {x6 : Int32} {x7 : Int32} {x8 : Int64} {xs0 : Int64} (hx1 : Rg 0 199 x1) (hx6 : Rg 0 1 x6) (hx7 : Rg 0 15 x7) (h30_x1 : Rg 0 10 (g.2 30 x1.toNatClampNeg)) (h31_x1 : Rg 0 10 (g.2 31 x1.toNatClampNeg)) (hw : (x6 = 0 → RgL 0 4294967295 xs0)) (h : Inv g S D) : wp (f_X9_reckon_133 S D 28 x1 x6 x7 x8 xs0) (fun q => True) := by
  unfold f_X9_reckon_133
  refine wp_pqs (s_X9_made hx1 hx7 hx6 h30_x1 h31_x1 (by first | exact hw | exact (fun ne => absurd rfl ne)) h) (fun r59 _ => ?_)
  refine wp_if (fun c_1 => ?_) (fun c_1 => ?_)
  ·
    have h_2 : Rg 0 0 _ := rg_eq1 hx6 rc_0 c_1 (by decide)
    exact ⟨_, rfl, trivial⟩
  ·
    have h_3 : Rg 1 1 _ := rg_ne1 hx6 rc_0 c_1 (by decide)
    exact ⟨_, rfl, trivial⟩
set_option maxRecDepth 100000 in
theorem s_X9_reckon_115 {g : gh} {S : sh} {D : dt}  {x1 : Int32} {x4 : Int64} {x6 : Int32} {x7 : Int32} {xs0 : Int64} (hx1 : Rg 0 199 x1) (hx6 : Rg 0 1 x6) (hx7 : Rg 0 15 x7) (h30_x1 : Rg 0 10 (g.2 30 x1.toNatClampNeg)) (h31_x1 : Rg 0 10 (g.2 31 x1.toNatClampNeg)) (h : Inv g S D) : wp (f_X9_reckon_115 S D 28 x1 x4 x6 x7 xs0) (fun q => True) := by
  unfold f_X9_reckon_115
  refine wp_if (fun c_1 => ?_) (fun c_1 => ?_)
  ·
    have h_2 : Rg 0 0 _ := rg_eq1 hx6 rc_0 c_1 (by decide)
    exact s_X9_reckon_133 hx1 (rg_w h_2 (by decide)) hx7 h30_x1 h31_x1 (fun _ => rgl_andr _ (by decide)) h
  ·
    have h_3 : Rg 1 1 _ := rg_ne1 hx6 rc_0 c_1 (by decide)
    exact s_X9_reckon_133 hx1 (rg_w h_3 (by decide)) hx7 h30_x1 h31_x1 (fun e => absurd e c_1) h
set_option maxRecDepth 100000 in
theorem s_X9_reckon_19 {g : gh} {S : sh} {D : dt}  {x1 : Int32} {x2 : Int64} {x4 : Int64} {xs0 : Int32} (hx1 : Rg 0 199 x1) (hxs0 : Rg 0 1 xs0) (h30_x1 : Rg 0 10 (g.2 30 x1.toNatClampNeg)) (h31_x1 : Rg 0 10 (g.2 31 x1.toNatClampNeg)) (h13 : (g.2 29 x1.toNatClampNeg >>> ((4 : Int32) &&& 31) = 13 → Rg 0 64 (g.2 33 x1.toNatClampNeg))) (h : Inv g S D) : wp (f_X9_reckon_19 S D 28 x1 x2 x4 xs0) (fun q => True) := by
  unfold f_X9_reckon_19
  refine wp_rq (iR_28_1 h) ?_
  refine wp_ix (in_rg hx1 (iA_29 h) (by decide)) ?_
  refine wp_nmI (fun y67 e_y67 => ?_)
  have h_y67 : Rg 0 15 y67 := rg_eq e_y67 (rg_shr (iI_29 h _) (by decide) : Rg 0 15 _)
  refine wp_if (fun c_1 => ?_) (fun c_1 => ?_)
  ·
    have h_2 : Rg 13 13 _ := rg_eq1 h_y67 rc_13 c_1 (by decide)
    refine wp_rq (iR_28_5 h) ?_
    refine wp_ix (in_rg hx1 (iA_33 h) (by decide)) ?_
    refine wp_if (fun c_3 => ?_) (fun c_3 => ?_)
    ·
      have h_4 : Rg 64 64 _ := rg_eq1 (rg_top _) rc_64 c_3 (by decide)
      exact s_X9_reckon_65 hx1 hxs0 h30_x1 h31_x1 (h13 (((congrArg (fun z => z >>> ((4 : Int32) &&& 31)) (h.p 29 _ rfl)).symm.trans e_y67.symm).trans c_1)) h
    ·
      refine wp_rq (iR_28_5 h) ?_
      refine wp_ix (in_rg hx1 (iA_33 h) (by decide)) ?_
      exact s_X9_reckon_65 hx1 hxs0 h30_x1 h31_x1 (h13 (((congrArg (fun z => z >>> ((4 : Int32) &&& 31)) (h.p 29 _ rfl)).symm.trans e_y67.symm).trans c_1)) h
  ·
    refine wp_if (fun c_5 => ?_) (fun c_5 => ?_)
    ·
      have h_6 : Rg 0 0 _ := rg_eq1 hxs0 rc_0 c_5 (by decide)
      exact s_X9_reckon_115 hx1 (rg_w h_6 (by decide)) h_y67 h30_x1 h31_x1 h
    ·
      have h_7 : Rg 1 1 _ := rg_ne1 hxs0 rc_0 c_5 (by decide)
      exact s_X9_reckon_115 hx1 (rg_w h_7 (by decide)) h_y67 h30_x1 h31_x1 h
set_option maxRecDepth 100000 in
theorem s_X9_reckon {g : gh} {S : sh} {D : dt}  {x1 : Int32} {x2 : Int64} {x4 : Int64} (hx1 : Rg 0 199 x1) (h30_x1 : Rg 0 10 (g.2 30 x1.toNatClampNeg)) (h31_x1 : Rg 0 10 (g.2 31 x1.toNatClampNeg)) (h13 : (g.2 29 x1.toNatClampNeg >>> ((4 : Int32) &&& 31) = 13 → Rg 0 64 (g.2 33 x1.toNatClampNeg))) (h : Inv g S D) : wp (f_X9_reckon S D 28 x1 x2 x4) (fun q => True) := by
  unfold f_X9_reckon
  refine wp_rq (iR_28_1 h) ?_
  refine wp_ix (in_rg hx1 (iA_29 h) (by decide)) ?_
  refine wp_if (fun c_1 => ?_) (fun c_1 => ?_)
  ·
    have h_2 : Rg 7 7 _ := rg_eq1 (rg_andr _ (by decide) : Rg 0 7 _) rc_7 c_1 (by decide)
    exact s_X9_reckon_19 hx1 (rg_w rc_1 (by decide)) h30_x1 h31_x1 (by first | exact h13 | exact (fun ne => absurd rfl ne)) h
  ·
    have h_3 : Rg 0 6 _ := rg_ne1 (rg_andr _ (by decide) : Rg 0 7 _) rc_7 c_1 (by decide)
    exact s_X9_reckon_19 hx1 (rg_w rc_0 (by decide)) h30_x1 h31_x1 (by first | exact h13 | exact (fun ne => absurd rfl ne)) h
set_option maxRecDepth 100000 in
theorem s_X9_second {g : gh} {S : sh} {D : dt}  {x1 : Int32} (hx1 : Rg 0 199 x1) (h30_x1 : Rg 0 10 (g.2 30 x1.toNatClampNeg)) (h31_x1 : Rg 0 10 (g.2 31 x1.toNatClampNeg)) (h : Inv g S D) : wp (f_X9_second S D 28 x1) (fun q => True) := by
  unfold f_X9_second
  refine wp_rq (iR_28_1 h) ?_
  refine wp_ix (in_rg hx1 (iA_29 h) (by decide)) ?_
  refine wp_if (fun c_1 => ?_) (fun c_1 => ?_)
  ·
    have h_2 : Rg 0 0 _ := rg_eq1 (rg_top _) rc_0 c_1 (by decide)
    refine wp_rq (iR_28_5 h) ?_
    refine wp_ix (in_rg hx1 (iA_33 h) (by decide)) ?_
    exact ⟨_, rfl, trivial⟩
  ·
    refine wp_rq (iR_28_21 h) ?_
    refine wp_rq (iR_28_3 h) ?_
    refine wp_ix (in_rg hx1 (iA_31 h) (by decide)) ?_
    refine wp_ix (in_rg (rg_eq (h.p 31 _ rfl) h31_x1) (iA_43 h) (by decide)) ?_
    exact ⟨_, rfl, trivial⟩
set_option maxRecDepth 100000 in
theorem s_X9_jumps_296 {g : gh} {S : sh} {D : dt}  {x7 : Int64} {x9 : Int64}  (h : Inv g S D) : wp (f_X9_jumps_296 S D x7 x9) (fun q => Rg 0 1 q) := by
  unfold f_X9_jumps_296
  refine wp_if (fun c_1 => ?_) (fun c_1 => ?_)
  ·
    have h_2 : RgL 0 0 _ := rgl_eq1 (rgl_top _) rcl_0 ((lg_cmp_eq _ _).mp c_1) (by decide)
    exact ⟨_, rfl, (rg_w rc_0 (by decide))⟩
  ·
    exact ⟨_, rfl, (rg_w rc_1 (by decide))⟩
set_option maxRecDepth 100000 in
theorem s_X9_jumps_88 {g : gh} {S : sh} {D : dt}  {x1 : Int32} {x7 : Int64} {x9 : Int64} {x11 : Int64} {xs0 : Int64} (hx1 : Rg 0 199 x1) (h30_x1 : Rg 0 10 (g.2 30 x1.toNatClampNeg)) (h31_x1 : Rg 0 10 (g.2 31 x1.toNatClampNeg)) (h : Inv g S D) : wp (f_X9_jumps_88 S D 28 x1 x7 x9 x11 xs0) (fun q => Rg 0 1 q) := by
  unfold f_X9_jumps_88
  refine wp_rq (iR_28_1 h) ?_
  refine wp_ix (in_rg hx1 (iA_29 h) (by decide)) ?_
  refine wp_if (fun c_1 => ?_) (fun c_1 => ?_)
  ·
    have h_2 : Rg 1 1 _ := rg_eq1 (rg_shr (iI_29 h _) (by decide) : Rg 0 15 _) rc_1 c_1 (by decide)
    refine wp_if (fun c_3 => ?_) (fun c_3 => ?_)
    ·
      exact ⟨_, rfl, (rg_w rc_1 (by decide))⟩
    ·
      exact ⟨_, rfl, (rg_w rc_0 (by decide))⟩
  ·
    refine wp_if (fun c_4 => ?_) (fun c_4 => ?_)
    ·
      have h_5 : Rg 2 2 _ := rg_eq1 (rg_shr (iI_29 h _) (by decide) : Rg 0 15 _) rc_2 c_4 (by decide)
      refine wp_pqs (s_X9_isBelow ) (fun r62 h_r62 => ?_)
      refine wp_ck (rg_01 h_r62 (by decide)) ?_
      exact ⟨_, rfl, h_r62⟩
    ·
      refine wp_if (fun c_6 => ?_) (fun c_6 => ?_)
      ·
        have h_7 : Rg 3 3 _ := rg_eq1 (rg_shr (iI_29 h _) (by decide) : Rg 0 15 _) rc_3 c_6 (by decide)
        refine wp_pqs (s_X9_isBelow ) (fun r66 h_r66 => ?_)
        refine wp_if (fun c_8 => ?_) (fun c_8 => ?_)
        ·
          have h_9 : Rg 0 0 _ := rg_eq1 h_r66 rc_0 c_8 (by decide)
          exact ⟨_, rfl, (rg_w rc_1 (by decide))⟩
        ·
          have h_10 : Rg 1 1 _ := rg_ne1 h_r66 rc_0 c_8 (by decide)
          exact ⟨_, rfl, (rg_w rc_0 (by decide))⟩
      ·
        refine wp_if (fun c_11 => ?_) (fun c_11 => ?_)
        ·
          have h_12 : Rg 4 4 _ := rg_eq1 (rg_shr (iI_29 h _) (by decide) : Rg 0 15 _) rc_4 c_11 (by decide)
          exact s_X9_jumps_296 h
        ·
          refine wp_if (fun c_13 => ?_) (fun c_13 => ?_)
          ·
            have h_14 : Rg 5 5 _ := rg_eq1 (rg_shr (iI_29 h _) (by decide) : Rg 0 15 _) rc_5 c_13 (by decide)
            refine wp_if (fun c_15 => ?_) (fun c_15 => ?_)
            ·
              exact ⟨_, rfl, (rg_w rc_0 (by decide))⟩
            ·
              exact ⟨_, rfl, (rg_w rc_1 (by decide))⟩
          ·
            refine wp_if (fun c_16 => ?_) (fun c_16 => ?_)
            ·
              have h_17 : Rg 6 6 _ := rg_eq1 (rg_shr (iI_29 h _) (by decide) : Rg 0 15 _) rc_6 c_16 (by decide)
              refine wp_if (fun c_18 => ?_) (fun c_18 => ?_)
              ·
                exact ⟨_, rfl, (rg_w rc_0 (by decide))⟩
              ·
                have h_19 : RgL (-9223372036854775808) 9223372036854775806 _ := rgl_lt1 (rgl_top _) (rgl_top _) (nle64 (fun q => c_18 ((lg_cmp_le _ _).mpr q))) (by decide)
                have h_20 : RgL (-9223372036854775807) 9223372036854775807 _ := rgl_lt2 (rgl_top _) (rgl_top _) (nle64 (fun q => c_18 ((lg_cmp_le _ _).mpr q))) (by decide)
                exact ⟨_, rfl, (rg_w rc_1 (by decide))⟩
            ·
              refine wp_if (fun c_21 => ?_) (fun c_21 => ?_)
              ·
                have h_22 : Rg 7 7 _ := rg_eq1 (rg_shr (iI_29 h _) (by decide) : Rg 0 15 _) rc_7 c_21 (by decide)
                refine wp_if (fun c_23 => ?_) (fun c_23 => ?_)
                ·
                  have h_24 : RgL (-9223372036854775808) 9223372036854775806 _ := rgl_lt1 (rgl_top _) (rgl_top _) ((lg_cmp_lt _ _).mp c_23) (by decide)
                  have h_25 : RgL (-9223372036854775807) 9223372036854775807 _ := rgl_lt2 (rgl_top _) (rgl_top _) ((lg_cmp_lt _ _).mp c_23) (by decide)
                  exact ⟨_, rfl, (rg_w rc_0 (by decide))⟩
                ·
                  exact ⟨_, rfl, (rg_w rc_1 (by decide))⟩
              ·
                refine wp_if (fun c_26 => ?_) (fun c_26 => ?_)
                ·
                  have h_27 : Rg 8 8 _ := rg_eq1 (rg_shr (iI_29 h _) (by decide) : Rg 0 15 _) rc_8 c_26 (by decide)
                  exact s_X9_jumps_296 h
                ·
                  refine wp_if (fun c_28 => ?_) (fun c_28 => ?_)
                  ·
                    have h_29 : Rg 9 9 _ := rg_eq1 (rg_shr (iI_29 h _) (by decide) : Rg 0 15 _) rc_9 c_28 (by decide)
                    exact s_X9_jumps_296 h
                  ·
                    refine wp_if (fun c_30 => ?_) (fun c_30 => ?_)
                    ·
                      have h_31 : Rg 10 10 _ := rg_eq1 (rg_shr (iI_29 h _) (by decide) : Rg 0 15 _) rc_10 c_30 (by decide)
                      refine wp_pqs (s_X9_isBelow ) (fun r79 h_r79 => ?_)
                      refine wp_ck (rg_01 h_r79 (by decide)) ?_
                      exact ⟨_, rfl, h_r79⟩
                    ·
                      refine wp_if (fun c_32 => ?_) (fun c_32 => ?_)
                      ·
                        have h_33 : Rg 11 11 _ := rg_eq1 (rg_shr (iI_29 h _) (by decide) : Rg 0 15 _) rc_11 c_32 (by decide)
                        refine wp_pqs (s_X9_isBelow ) (fun r83 h_r83 => ?_)
                        refine wp_if (fun c_34 => ?_) (fun c_34 => ?_)
                        ·
                          have h_35 : Rg 0 0 _ := rg_eq1 h_r83 rc_0 c_34 (by decide)
                          exact ⟨_, rfl, (rg_w rc_1 (by decide))⟩
                        ·
                          have h_36 : Rg 1 1 _ := rg_ne1 h_r83 rc_0 c_34 (by decide)
                          exact ⟨_, rfl, (rg_w rc_0 (by decide))⟩
                      ·
                        refine wp_if (fun c_37 => ?_) (fun c_37 => ?_)
                        ·
                          have h_38 : Rg 12 12 _ := rg_eq1 (rg_shr (iI_29 h _) (by decide) : Rg 0 15 _) rc_12 c_37 (by decide)
                          refine wp_if (fun c_39 => ?_) (fun c_39 => ?_)
                          ·
                            exact ⟨_, rfl, (rg_w rc_0 (by decide))⟩
                          ·
                            have h_40 : RgL (-9223372036854775808) 9223372036854775806 _ := rgl_lt1 (rgl_top _) (rgl_top _) (nle64 (fun q => c_39 ((lg_cmp_ge _ _).mpr q))) (by decide)
                            have h_41 : RgL (-9223372036854775807) 9223372036854775807 _ := rgl_lt2 (rgl_top _) (rgl_top _) (nle64 (fun q => c_39 ((lg_cmp_ge _ _).mpr q))) (by decide)
                            exact ⟨_, rfl, (rg_w rc_1 (by decide))⟩
                        ·
                          refine wp_if (fun c_42 => ?_) (fun c_42 => ?_)
                          ·
                            have h_43 : Rg 13 13 _ := rg_eq1 (rg_shr (iI_29 h _) (by decide) : Rg 0 15 _) rc_13 c_42 (by decide)
                            refine wp_if (fun c_44 => ?_) (fun c_44 => ?_)
                            ·
                              have h_45 : RgL (-9223372036854775808) 9223372036854775806 _ := rgl_lt1 (rgl_top _) (rgl_top _) ((lg_cmp_gt _ _).mp c_44) (by decide)
                              have h_46 : RgL (-9223372036854775807) 9223372036854775807 _ := rgl_lt2 (rgl_top _) (rgl_top _) ((lg_cmp_gt _ _).mp c_44) (by decide)
                              exact ⟨_, rfl, (rg_w rc_0 (by decide))⟩
                            ·
                              exact ⟨_, rfl, (rg_w rc_1 (by decide))⟩
                          ·
                            exact s_X9_jumps_296 h
set_option maxRecDepth 100000 in
theorem s_X9_jumps_69 {g : gh} {S : sh} {D : dt}  {x1 : Int32} {x4 : Int64} {x6 : Int32} {x7 : Int64} {x9 : Int64} {xs0 : Int64} (hx1 : Rg 0 199 x1) (hx6 : Rg 0 1 x6) (h30_x1 : Rg 0 10 (g.2 30 x1.toNatClampNeg)) (h31_x1 : Rg 0 10 (g.2 31 x1.toNatClampNeg)) (h : Inv g S D) : wp (f_X9_jumps_69 S D 28 x1 x4 x6 x7 x9 xs0) (fun q => Rg 0 1 q) := by
  unfold f_X9_jumps_69
  refine wp_if (fun c_1 => ?_) (fun c_1 => ?_)
  ·
    have h_2 : Rg 0 0 _ := rg_eq1 hx6 rc_0 c_1 (by decide)
    refine wp_pqs (s_X9_signed (rg_w rc_32 (by decide))) (fun r91 _ => ?_)
    exact s_X9_jumps_88 hx1 h30_x1 h31_x1 h
  ·
    have h_3 : Rg 1 1 _ := rg_ne1 hx6 rc_0 c_1 (by decide)
    exact s_X9_jumps_88 hx1 h30_x1 h31_x1 h
set_option maxRecDepth 100000 in
theorem s_X9_jumps_52 {g : gh} {S : sh} {D : dt}  {x1 : Int32} {x2 : Int64} {x4 : Int64} {x6 : Int32} {x7 : Int64} {xs0 : Int64} (hx1 : Rg 0 199 x1) (hx6 : Rg 0 1 x6) (h30_x1 : Rg 0 10 (g.2 30 x1.toNatClampNeg)) (h31_x1 : Rg 0 10 (g.2 31 x1.toNatClampNeg)) (h : Inv g S D) : wp (f_X9_jumps_52 S D 28 x1 x2 x4 x6 x7 xs0) (fun q => Rg 0 1 q) := by
  unfold f_X9_jumps_52
  refine wp_if (fun c_1 => ?_) (fun c_1 => ?_)
  ·
    have h_2 : Rg 0 0 _ := rg_eq1 hx6 rc_0 c_1 (by decide)
    refine wp_pqs (s_X9_signed (rg_w rc_32 (by decide))) (fun r94 _ => ?_)
    exact s_X9_jumps_69 hx1 (rg_w h_2 (by decide)) h30_x1 h31_x1 h
  ·
    have h_3 : Rg 1 1 _ := rg_ne1 hx6 rc_0 c_1 (by decide)
    exact s_X9_jumps_69 hx1 (rg_w h_3 (by decide)) h30_x1 h31_x1 h
set_option maxRecDepth 100000 in
theorem s_X9_jumps_34 {g : gh} {S : sh} {D : dt}  {x1 : Int32} {x2 : Int64} {x4 : Int64} {x6 : Int32} {xs0 : Int64} (hx1 : Rg 0 199 x1) (hx6 : Rg 0 1 x6) (h30_x1 : Rg 0 10 (g.2 30 x1.toNatClampNeg)) (h31_x1 : Rg 0 10 (g.2 31 x1.toNatClampNeg)) (h : Inv g S D) : wp (f_X9_jumps_34 S D 28 x1 x2 x4 x6 xs0) (fun q => Rg 0 1 q) := by
  unfold f_X9_jumps_34
  refine wp_if (fun c_1 => ?_) (fun c_1 => ?_)
  ·
    have h_2 : Rg 0 0 _ := rg_eq1 hx6 rc_0 c_1 (by decide)
    exact s_X9_jumps_52 hx1 (rg_w h_2 (by decide)) h30_x1 h31_x1 h
  ·
    have h_3 : Rg 1 1 _ := rg_ne1 hx6 rc_0 c_1 (by decide)
    exact s_X9_jumps_52 hx1 (rg_w h_3 (by decide)) h30_x1 h31_x1 h
set_option maxRecDepth 100000 in
theorem s_X9_jumps_18 {g : gh} {S : sh} {D : dt}  {x1 : Int32} {x2 : Int64} {x4 : Int64} {xs0 : Int32} (hx1 : Rg 0 199 x1) (hxs0 : Rg 0 1 xs0) (h30_x1 : Rg 0 10 (g.2 30 x1.toNatClampNeg)) (h31_x1 : Rg 0 10 (g.2 31 x1.toNatClampNeg)) (h : Inv g S D) : wp (f_X9_jumps_18 S D 28 x1 x2 x4 xs0) (fun q => Rg 0 1 q) := by
  unfold f_X9_jumps_18
  refine wp_if (fun c_1 => ?_) (fun c_1 => ?_)
  ·
    have h_2 : Rg 0 0 _ := rg_eq1 hxs0 rc_0 c_1 (by decide)
    exact s_X9_jumps_34 hx1 (rg_w h_2 (by decide)) h30_x1 h31_x1 h
  ·
    have h_3 : Rg 1 1 _ := rg_ne1 hxs0 rc_0 c_1 (by decide)
    exact s_X9_jumps_34 hx1 (rg_w h_3 (by decide)) h30_x1 h31_x1 h
set_option maxRecDepth 100000 in
theorem s_X9_jumps {g : gh} {S : sh} {D : dt}  {x1 : Int32} {x2 : Int64} {x4 : Int64} (hx1 : Rg 0 199 x1) (h30_x1 : Rg 0 10 (g.2 30 x1.toNatClampNeg)) (h31_x1 : Rg 0 10 (g.2 31 x1.toNatClampNeg)) (h : Inv g S D) : wp (f_X9_jumps S D 28 x1 x2 x4) (fun q => Rg 0 1 q) := by
  unfold f_X9_jumps
  refine wp_rq (iR_28_1 h) ?_
  refine wp_ix (in_rg hx1 (iA_29 h) (by decide)) ?_
  refine wp_if (fun c_1 => ?_) (fun c_1 => ?_)
  ·
    have h_2 : Rg 5 5 _ := rg_eq1 (rg_andr _ (by decide) : Rg 0 7 _) rc_5 c_1 (by decide)
    exact s_X9_jumps_18 hx1 (rg_w rc_1 (by decide)) h30_x1 h31_x1 h
  ·
    exact s_X9_jumps_18 hx1 (rg_w rc_0 (by decide)) h30_x1 h31_x1 h
theorem lshr24 (x : Int64) : (j_lshr x (24 : Int32)).toInt = x.toInt / 16777216 := by
  have e : (j_lshr x (24 : Int32)).toInt = (x.toBitVec.sshiftRight 24).toInt := rfl
  rw [e, BitVec.toInt_sshiftRight, Int.shiftRight_eq_div_pow]
  rfl
theorem lshr12 (x : Int64) : (j_lshr x (12 : Int32)).toInt = x.toInt / 4096 := by
  have e : (j_lshr x (12 : Int32)).toInt = (x.toBitVec.sshiftRight 12).toInt := rfl
  rw [e, BitVec.toInt_sshiftRight, Int.shiftRight_eq_div_pow]
  rfl
theorem land12 (x : Int64) (h : 0 ≤ x.toInt) : (x &&& (4095 : Int64)).toInt = x.toInt % 4096 := by
  have q := bv_and_lo (x := x.toBitVec) (m := (4095 : Int64).toBitVec) (by decide)
  have e : (x &&& (4095 : Int64)).toInt = (x.toBitVec &&& (4095 : Int64).toBitVec).toInt := rfl
  have en : x.toInt = x.toBitVec.toNat := by
    show x.toBitVec.toInt = _
    have h : 0 ≤ x.toBitVec.toInt := h
    rw [BitVec.toInt_eq_toNat_cond] at h ⊢
    split
    · rfl
    · rename_i w
      rw [if_neg w] at h
      have := x.toBitVec.isLt
      omega
  rw [e, q.1, en]
  have : (4095 : Int64).toBitVec.toNat = 2 ^ 12 - 1 := rfl
  rw [this, Nat.and_two_pow_sub_one_eq_mod]
  omega
/-- where an address of a VALUE stands: table, number, octet -/
def Vat (D : dt) (a t e i : Int) : Prop := a = 34359738368 + t * 16777216 + e * 4096 + i ∧ 0 ≤ t ∧ t < (gI D 28 9).toInt ∧ 0 ≤ e ∧ e < 32 ∧ 0 ≤ i ∧ i < 4096
theorem q_tableOf {g : gh} {S : sh} {D : dt} {x1 : Int64} (h : Inv g S D) : wp (f_X9_tableOf S D 28 x1) (fun q => Rg (-1) 3 q ∧ (0 ≤ q.toInt → 34359738368 ≤ x1.toInt ∧ q.toInt = (x1.toInt - 34359738368) / 16777216 ∧ q.toInt < (gI D 28 9).toInt) ∧ (∀ t e i, Vat D x1.toInt t e i → q.toInt = t)) := by
  unfold f_X9_tableOf
  have tb := iF_28_9 h
  refine wp_nmI (fun y ey => wp_if (fun c => ⟨_, rfl, (show Rg (-1) 3 (-1 : Int32) by decide), nonn rfl, fun t e i v => ?_⟩) (fun c => wp_if (fun c2 => ⟨_, rfl, (show Rg (-1) 3 (-1 : Int32) by decide), nonn rfl, fun t e i v => ?_⟩) (fun c2 => ?_)))
  · have c := Int64.lt_iff_toInt_lt.mp ((lg_cmp_lt _ _).mp c)
    have l : (34359738368 : Int64).toInt = 34359738368 := rfl
    obtain ⟨v1, v2, v3, v4, v5, v6, v7⟩ := v
    omega
  · have c := Int64.le_iff_toInt_le.mp (nlt64 (fun q => c ((lg_cmp_lt _ _).mpr q)))
    have c2 := Int64.le_iff_toInt_le.mp ((lg_cmp_ge _ _).mp c2)
    have l : (34359738368 : Int64).toInt = 34359738368 := rfl
    have b := i64_hi x1
    have s : (x1 - 34359738368).toInt = x1.toInt - 34359738368 := by
      rw [Int64.toInt_sub, l]
      exact bm64 (by omega) (by omega)
    rw [Int32.toInt_toInt64, ey, lshr24, s] at c2
    obtain ⟨v1, v2, v3, v4, v5, v6, v7⟩ := v
    omega
  · have c := Int64.le_iff_toInt_le.mp (nlt64 (fun q => c ((lg_cmp_lt _ _).mpr q)))
    have c2 := Int64.lt_iff_toInt_lt.mp (nle64 (fun q => c2 ((lg_cmp_ge _ _).mpr q)))
    have l : (34359738368 : Int64).toInt = 34359738368 := rfl
    have b := i64_hi x1
    have s : (x1 - 34359738368).toInt = x1.toInt - 34359738368 := by
      rw [Int64.toInt_sub, l]
      exact bm64 (by omega) (by omega)
    have ye : y.toInt = (x1.toInt - 34359738368) / 16777216 := by rw [ey, lshr24, s]
    rw [Int32.toInt_toInt64] at c2
    have t4 := tb.2
    have z : y.toInt32.toInt = y.toInt := by
      rw [Int64.toInt_toInt32]
      exact bm32 (by omega) (by omega)
    refine ⟨_, rfl, (show Rg (-1) 3 y.toInt32 from ⟨by omega, by omega⟩), (show 0 ≤ y.toInt32.toInt → 34359738368 ≤ x1.toInt ∧ y.toInt32.toInt = (x1.toInt - 34359738368) / 16777216 ∧ y.toInt32.toInt < (gI D 28 9).toInt from fun _ => ⟨by omega, by omega, by omega⟩), fun t e i v => ?_⟩
    obtain ⟨v1, v2, v3, v4, v5, v6, v7⟩ := v
    show y.toInt32.toInt = t
    omega
/-- n octets at a may be read; may be written -/
def ThW (D : dt) (a n : Int) : Prop := (8589934080 ≤ a ∧ a + n ≤ 8589934592) ∨ (∃ t e i, Vat D a t e i ∧ i + n ≤ 32)
def ThR (D : dt) (a n : Int) : Prop := (4294967296 ≤ a ∧ a + n ≤ 4294967552) ∨ ThW D a n
theorem ThW.sub {D : dt} {a n k : Int} (h : ThW D a n) (h0 : 0 ≤ k) (h1 : k < n) : ThW D (a + k) 1 := by
  rcases h with h | ⟨t, e, i, ⟨v1, v2, v3, v4, v5, v6, v7⟩, w⟩
  · exact Or.inl ⟨by omega, by omega⟩
  · exact Or.inr ⟨t, e, i + k, ⟨by omega, v2, v3, v4, v5, by omega, by omega⟩, by omega⟩
theorem ThR.sub {D : dt} {a n k : Int} (h : ThR D a n) (h0 : 0 ≤ k) (h1 : k < n) : ThR D (a + k) 1 := by
  rcases h with h | h
  · exact Or.inl ⟨by omega, by omega⟩
  · exact Or.inr (h.sub h0 h1)
theorem Vat.same {D D' : dt} {a t e i : Int} (q : gI D' 28 9 = gI D 28 9) (h : Vat D a t e i) : Vat D' a t e i := by
  unfold Vat at h ⊢
  rw [q]
  exact h
theorem ThW.same {D D' : dt} {a n : Int} (q : gI D' 28 9 = gI D 28 9) (h : ThW D a n) : ThW D' a n := by
  rcases h with h | ⟨t, e, i, v, w⟩
  · exact Or.inl h
  · exact Or.inr ⟨t, e, i, v.same q, w⟩
theorem ThR.same {D D' : dt} {a n : Int} (q : gI D' 28 9 = gI D 28 9) (h : ThR D a n) : ThR D' a n := by
  rcases h with h | h
  · exact Or.inl h
  · exact Or.inr (h.same q)
theorem s_X9_isThere {g : gh} {S : sh} {D : dt} {x1 : Int64} {x3 x4 : Int32} (hx3 : Rg 0 32 x3) (hx4 : Rg 0 1 x4) (h : Inv g S D) : wp (f_X9_isThere S D 28 x1 x3 x4) (fun q => Rg 0 1 q ∧ (q ≠ 0 → ThR D x1.toInt x3.toInt ∧ (x4 ≠ 0 → ThW D x1.toInt x3.toInt))) := by
  unfold f_X9_isThere
  have cs := iF_28_7 h
  have n0 := hx3.1
  have n1 := hx3.2
  have c0 := cs.1
  have c1 := cs.2
  have no : wp (some (0 : Int32)) (fun q => Rg 0 1 q ∧ (q ≠ 0 → ThR D x1.toInt x3.toInt ∧ (x4 ≠ 0 → ThW D x1.toInt x3.toInt))) := ⟨_, rfl, r01_0, fun ne => absurd rfl ne⟩
  have l1 : (4294967296 : Int64).toInt = 4294967296 := rfl
  have ecs : ((4294967296 : Int64) + (gI D 28 7).toInt64).toInt = 4294967296 + (gI D 28 7).toInt := by
    rw [Int64.toInt_add, Int32.toInt_toInt64, l1]
    exact bm64 (by omega) (by omega)
  have ecs1 : ((4294967296 : Int64) + (gI D 28 7).toInt64 - 1).toInt = 4294967296 + (gI D 28 7).toInt - 1 := by
    rw [Int64.toInt_sub, ecs, show (1 : Int64).toInt = 1 from rfl]
    exact bm64 (by omega) (by omega)
  have sum : x1.toInt ≤ 100000000000 → 0 ≤ x1.toInt → (x1 + x3.toInt64).toInt = x1.toInt + x3.toInt := fun u v => by
    rw [Int64.toInt_add, Int32.toInt_toInt64]
    exact bm64 (by omega) (by omega)
  refine wp_pqs s_X9_in (fun r p => wp_if (fun _ => wp_pqs s_X9_in (fun r2 p2 => wp_if (fun _ => ?_) (fun c2 => ?_))) (fun c => ?_))
  · refine wp_pqs (q_tableOf h) (fun t pt => wp_if (fun ct => ?_) (fun _ => no))
    have ct := Int32.le_iff_toInt_le.mp ct
    have e0 : (0 : Int32).toInt = 0 := rfl
    obtain ⟨t1, t2, t3⟩ := pt.2.1 (by omega)
    have rt : Rg 0 3 t := ⟨by omega, pt.1.2⟩
    refine wp_nmI (fun y ey => wp_rq (iR_28_13 h) (wp_ix (in_rg rt (iA_39 h) (by decide)) (wp_if (fun _ => no) (fun ce => wp_rq (iR_28_12 h) (wp_ix (in_rg rt (iA_38 h) (by decide)) (wp_if (fun _ => no) (fun ci => ⟨_, rfl, r01_1, fun _ => ?_⟩)))))))
    have ce := Int64.lt_iff_toInt_lt.mp (nle64 (fun q => ce ((lg_cmp_ge _ _).mpr q)))
    have ci := Int64.le_iff_toInt_le.mp (nlt64 (fun q => ci ((lg_cmp_gt _ _).mpr q)))
    have m1 := (iI_39 h t.toNatClampNeg).2
    have m2 := (iI_38 h t.toNatClampNeg).2
    have t3' := rt.2
    have hs : (j_lshr x1 (12 : Int32)).toInt = x1.toInt / 4096 := lshr12 x1
    have ye : y.toInt = x1.toInt / 4096 % 4096 := by
      rw [ey, land12 _ (by omega), hs]
    have ie := land12 x1 (by omega)
    rw [Int32.toInt_toInt64] at ce
    have su : ((x1 &&& (4095 : Int64)) + x3.toInt64).toInt = x1.toInt % 4096 + x3.toInt := by
      rw [Int64.toInt_add, ie, Int32.toInt_toInt64]
      exact bm64 (by omega) (by omega)
    rw [Int32.toInt_toInt64, su] at ci
    have w : ThW D x1.toInt x3.toInt := by
      refine Or.inr ⟨t.toInt, x1.toInt / 4096 % 4096, x1.toInt % 4096, ⟨by omega, by omega, t3, by omega, by omega, by omega, by omega⟩, by omega⟩
    exact ⟨Or.inr w, fun _ => w⟩
  · have q := p2.2 c2
    have l2 : (8589934080 : Int64).toInt = 8589934080 := rfl
    have l3 : (8589934591 : Int64).toInt = 8589934591 := rfl
    have l4 : (8589934592 : Int64).toInt = 8589934592 := rfl
    refine wp_if (fun _ => no) (fun c3 => ⟨_, rfl, r01_1, fun _ => ?_⟩)
    have c3 := Int64.le_iff_toInt_le.mp (nlt64 (fun q => c3 ((lg_cmp_gt _ _).mpr q)))
    rw [sum (by omega) (by omega), l4] at c3
    have w : ThW D x1.toInt x3.toInt := Or.inl ⟨by omega, c3⟩
    exact ⟨Or.inr w, fun _ => w⟩
  · have q := p.2 c
    rw [ecs1, l1] at q
    refine wp_if (fun c4 => wp_if (fun _ => no) (fun c3 => ⟨_, rfl, r01_1, fun _ => ⟨Or.inl ?_, fun e => absurd c4 e⟩⟩)) (fun _ => no)
    have c3 := Int64.le_iff_toInt_le.mp (nlt64 (fun q => c3 ((lg_cmp_gt _ _).mpr q)))
    rw [sum (by omega) (by omega), ecs] at c3
    exact ⟨q.1, by omega⟩
theorem q_placeOf {g : gh} {S : sh} {D : dt} {x1 : Int64} {t e i : Int} (hv : Vat D x1.toInt t e i) (hi : i + 1 ≤ 32) (h : Inv g S D) : wp (f_X9_placeOf S D 28 x1) (fun q => Rg 0 4095 q) := by
  unfold f_X9_placeOf
  have tb := (iF_28_9 h).2
  refine wp_pqs (q_tableOf h) (fun r p => ⟨_, rfl, ?_⟩)
  have er := p.2.2 t e i hv
  obtain ⟨v1, v2, v3, v4, v5, v6, v7⟩ := hv
  have hr : Rg 0 3 r := ⟨by omega, by omega⟩
  have ha : ((j_lshr x1 (12 : Int32)) &&& (4095 : Int64)).toInt = x1.toInt / 4096 % 4096 := by rw [land12 _ (by rw [lshr12]; omega), lshr12]
  have hb : (x1 &&& (4095 : Int64)).toInt = x1.toInt % 4096 := land12 x1 (by omega)
  have ra : Rg 0 31 ((j_lshr x1 (12 : Int32)) &&& (4095 : Int64)).toInt32 := rg_of (a := 0) (b := 31) ⟨by omega, by omega⟩ (by decide)
  have rb : Rg 0 31 (x1 &&& (4095 : Int64)).toInt32 := rg_of (a := 0) (b := 31) ⟨by omega, by omega⟩ (by decide)
  have r1 : Rg 0 96 ((32 : Int32) * r) := rg_mul (by decide : Rg 32 32 (32 : Int32)) hr (by decide)
  have r2 : Rg 0 127 ((32 : Int32) * r + ((j_lshr x1 (12 : Int32)) &&& (4095 : Int64)).toInt32) := rg_add r1 ra (by decide)
  have r3 : Rg 0 4064 ((32 : Int32) * ((32 : Int32) * r + ((j_lshr x1 (12 : Int32)) &&& (4095 : Int64)).toInt32)) := rg_mul (by decide : Rg 32 32 (32 : Int32)) r2 (by decide)
  exact rg_add r3 rb (by decide)
theorem st_ix {x1 : Int64} (h1 : 8589934080 ≤ x1.toInt) (h2 : x1.toInt < 8589934592) : Rg 0 511 ((x1 - (8589934592 : Int64)).toInt32 + (512 : Int32)) := by
  have l : (8589934592 : Int64).toInt = 8589934592 := rfl
  have e : (x1 - (8589934592 : Int64)).toInt = x1.toInt - 8589934592 := by
    rw [Int64.toInt_sub, l]
    exact bm64 (by omega) (by omega)
  have r : Rg (-512) (-1) (x1 - (8589934592 : Int64)).toInt32 := rg_of (a := -512) (b := -1) ⟨by omega, by omega⟩ (by decide)
  exact rg_add r (by decide : Rg 512 512 (512 : Int32)) (by decide)
theorem s_X9_octetAt {g : gh} {S : sh} {D : dt} {x1 : Int64} (hth : ThR D x1.toInt 1) (h : Inv g S D) : wp (f_X9_octetAt S D 28 x1) (fun q => Rg 0 255 q) := by
  unfold f_X9_octetAt
  have l1 : (4294967296 : Int64).toInt = 4294967296 := rfl
  have l2 : (8589934080 : Int64).toInt = 8589934080 := rfl
  have l4 : (8589934592 : Int64).toInt = 8589934592 := rfl
  refine wp_if (fun c => wp_if (fun c2 => ?_) (fun c2 => ?_)) (fun c => ?_)
  · have c2 := Int64.le_iff_toInt_le.mp ((lg_cmp_ge _ _).mp c2)
    rcases hth with q | q | ⟨t, e, i, v, w⟩
    · omega
    · omega
    · exact wp_rq (iR_28_14 h) (wp_pqs (q_placeOf v w h) (fun r p => wp_ix (in_rg p (iA_40 h) (by decide)) ⟨_, rfl, iI_40 h _⟩))
  · have c := Int64.le_iff_toInt_le.mp ((lg_cmp_ge _ _).mp c)
    have c2 := Int64.lt_iff_toInt_lt.mp (nle64 (fun q => c2 ((lg_cmp_ge _ _).mpr q)))
    exact wp_rq (iR_28_8 h) (wp_ix (in_rg (st_ix (by omega) (by omega)) (iA_35 h) (by decide)) ⟨_, rfl, iI_35 h _⟩)
  · have c := Int64.lt_iff_toInt_lt.mp (nle64 (fun q => c ((lg_cmp_ge _ _).mpr q)))
    rcases hth with q | q | ⟨t, e, i, ⟨v1, v2, v3, v4, v5, v6, v7⟩, w⟩
    · have e : (x1 - (4294967296 : Int64)).toInt = x1.toInt - 4294967296 := by
        rw [Int64.toInt_sub, l1]
        exact bm64 (by omega) (by omega)
      have r : Rg 0 255 (x1 - (4294967296 : Int64)).toInt32 := rg_of (a := 0) (b := 255) ⟨by omega, by omega⟩ (by decide)
      exact wp_rq (iR_28_6 h) (wp_ix (in_rg r (iA_34 h) (by decide)) ⟨_, rfl, iI_34 h _⟩)
    · omega
    · omega
theorem q_setOctet {g : gh} {S : sh} {D : dt} {x1 : Int64} {x3 : Int32} (hx3 : Rg 0 255 x3) (hth : ThW D x1.toInt 1) (h : Inv g S D) : wp (f_X9_setOctet S 28 x1 x3 D) (fun q => gI q.2 28 9 = gI D 28 9 ∧ Inv g S q.2) := by
  unfold f_X9_setOctet
  have l4 : (8589934592 : Int64).toInt = 8589934592 := rfl
  refine wp_if (fun c => ?_) (fun c => ?_)
  · have c := Int64.le_iff_toInt_le.mp ((lg_cmp_ge _ _).mp c)
    rcases hth with q | ⟨t, e, i, v, w⟩
    · omega
    · refine wp_rq (iR_28_14 h) (wp_pqs (q_placeOf v w h) (fun r p => wp_ix (in_rg p (iA_40 h) (by decide)) (wp_nmI (fun D1 e1 => ⟨_, rfl, ?_, ?_⟩))))
      · show gI D1 28 9 = _
        rw [e1, gI_pI, if_neg (fun q => by omega)]
      · show Inv g S D1
        rw [e1]
        exact inv_i40 h hx3
  · have c := Int64.lt_iff_toInt_lt.mp (nle64 (fun q => c ((lg_cmp_ge _ _).mpr q)))
    rcases hth with q | ⟨t, e, i, ⟨v1, v2, v3, v4, v5, v6, v7⟩, w⟩
    · refine wp_rq (iR_28_8 h) (wp_ix (in_rg (st_ix (by omega) (by omega)) (iA_35 h) (by decide)) (wp_nmI (fun D1 e1 => ⟨_, rfl, ?_, ?_⟩)))
      · show gI D1 28 9 = _
        rw [e1, gI_pI, if_neg (fun q => by omega)]
      · show Inv g S D1
        rw [e1]
        exact inv_i35 h hx3
    · omega
theorem ad_k {x1 : Int64} {x6 : Int32} {n : Int} {D : dt} (hb : (gI D 28 9).toInt ≤ 4) (hth : ThR D x1.toInt n) (h0 : 0 ≤ x6.toInt) (h1 : x6.toInt < n) (hn : n ≤ 32) : (x1 + x6.toInt64).toInt = x1.toInt + x6.toInt := by
  rw [Int64.toInt_add, Int32.toInt_toInt64]
  have : 0 ≤ x1.toInt ∧ x1.toInt ≤ 100000000000000 := by
    rcases hth with q | q | ⟨t, e, i, ⟨v1, v2, v3, v4, v5, v6, v7⟩, w⟩
    · omega
    · omega
    · have := i32_hi (gI D 28 9)
      omega
  exact bm64 (by omega) (by omega)
theorem q_numberAt_8 {g : gh} {S : sh} {D : dt} {x1 : Int64} {m : Int} (hm : m ≤ 32) (hth : ThR D x1.toInt m) (h : Inv g S D) : ∀ (n : Nat) (x4 : Int64) (x6 : Int32), Rg (-1) 31 x6 → x6.toInt < m → x6.toInt - (-1) < n → wp (f_X9_numberAt_8 S D n 28 x1 x4 x6) (fun _ => True) := by
  intro n
  induction n with
  | zero =>
    intro x4 x6 hx hl hn
    exact (ms_d0 hx (by decide) hn).elim
  | succ n ih =>
    intro x4 x6 hx hl hn
    rw [f_X9_numberAt_8.eq_2]
    refine wp_if (fun _ => ⟨_, rfl, trivial⟩) (fun c => ?_)
    have hx' : Rg 0 31 x6 := rg_le2 (by decide : Rg 0 0 (0 : Int32)) hx (nlt32 c) (by decide)
    have e := ad_k (iF_28_9 h).2 hth hx'.1 hl hm
    refine wp_pqs (s_X9_octetAt (by rw [e]; exact hth.sub hx'.1 hl) h) (fun r _ => wp_nmI (fun y _ => wp_nmI (fun z ez => ?_)))
    have ez1 : z.toInt = x6.toInt + -1 := by
      rw [ez]
      exact i32_add hx' (by decide : Rg (-1) (-1) (-1 : Int32)) (by decide)
    exact ih y z ⟨by have := hx'.1; omega, by have := hx'.2; omega⟩ (by omega) (by omega)
theorem s_X9_numberAt {g : gh} {S : sh} {D : dt} {x1 : Int64} {x3 : Int32} (hx3 : Rg 1 8 x3) (hth : ThR D x1.toInt x3.toInt) (h : Inv g S D) : wp (f_X9_numberAt S D 28 x1 x3) (fun q => True) := by
  unfold f_X9_numberAt
  refine wp_nmI (fun y _ => wp_nmI (fun z ez => ?_))
  have e : z.toInt = x3.toInt - 1 := by
    rw [ez]
    exact i32_sub hx3 (by decide : Rg 1 1 (1 : Int32)) (by decide)
  have a := hx3.1
  have b := hx3.2
  refine q_numberAt_8 (by omega) hth h LF y z ⟨by omega, by omega⟩ (by omega) ?_
  show z.toInt - -1 < 20000
  omega
theorem q_setNumber_3 {g : gh} {S : sh} {x1 x4 : Int64} {x3 : Int32} (hx3 : Rg 1 8 x3) : ∀ (n : Nat) (x6 : Int32) (D : dt), Rg 0 8 x6 → 8 - x6.toInt < n → ThW D x1.toInt x3.toInt → Inv g S D → wp (f_X9_setNumber_3 S n 28 x1 x3 x4 x6 D) (fun q => Inv g S q.2) := by
  intro n
  induction n with
  | zero =>
    intro x6 D hx hn ht h
    exact (ms_0 hx (by decide) hn).elim
  | succ n ih =>
    intro x6 D hx hn ht h
    rw [f_X9_setNumber_3.eq_2]
    refine wp_if (fun _ => ⟨_, rfl, h⟩) (fun c => ?_)
    have lt := Int32.lt_iff_toInt_lt.mp (nle32 c)
    have b := hx3.2
    have hx' : Rg 0 7 x6 := ⟨hx.1, by omega⟩
    have e := ad_k (iF_28_9 h).2 (Or.inr ht) hx'.1 lt (by omega)
    refine wp_cqs (q_setOctet (rg_of (rgl_andr (l := 0) (h := 255) _ (by decide)) (by decide)) (by rw [e]; exact ht.sub hx'.1 lt) h) (fun _ D1 p => wp_nmI (fun y ey => ?_))
    exact ih y D1 (rg_eq ey (rg_add hx' (by decide : Rg 1 1 (1 : Int32)) (by decide))) (by rw [ey]; exact ms_up hx' (by decide) hn) (ht.same p.1) p.2
theorem s_X9_setNumber {g : gh} {S : sh} {x1 : Int64} {x3 : Int32} {x4 : Int64} {D : dt} (hx3 : Rg 1 8 x3) (hth : ThW D x1.toInt x3.toInt) (h : Inv g S D) : wp (f_X9_setNumber S 28 x1 x3 x4 D) (fun q => Inv g S q.2) := by
  unfold f_X9_setNumber
  refine wp_nmI (fun y ey => ?_)
  subst ey
  exact q_setNumber_3 hx3 LF 0 D (by decide) (by decide) hth h
set_option maxRecDepth 100000 in
theorem s_X9_octet {g : gh} {S : sh} {D : dt}  {x1 : Int64}  (h : Inv g S D) : wp (f_X9_octet S D 28 x1) (fun q => Rg (-1) 255 q) := by
  unfold f_X9_octet
  refine wp_pqs (s_X9_isThere (rg_w rc_1 (by decide)) (rg_w rc_0 (by decide)) h) (fun r7 q_r7 => ?_)
  obtain ⟨h_r7, p_r7⟩ := q_r7
  refine wp_if (fun c_1 => ?_) (fun c_1 => ?_)
  ·
    have h_2 : Rg 0 0 _ := rg_eq1 h_r7 rc_0 c_1 (by decide)
    exact ⟨_, rfl, (rg_w rc_m1 (by decide))⟩
  ·
    have h_3 : Rg 1 1 _ := rg_ne1 h_r7 rc_0 c_1 (by decide)
    refine wp_pqs (s_X9_octetAt (p_r7 c_1).1 h) (fun r10 h_r10 => ?_)
    exact ⟨_, rfl, (rg_w h_r10 (by decide))⟩
/-- the reference's table -/
def taQ (g : gh) (S : sh) (x1 x2 x3 x4 : Int32) (q : Int32 × dt) : Prop := ∃ g', Inv g' S q.2 ∧ Gx g g' 3 ∧ taT (g.1 3) x1 x2 x3 x4 q.1.toInt (g'.1 3)
theorem ta_no9 {g : gh} {S : sh} {D : dt} {x1 x2 x3 x4 : Int32} (h : Inv g S D) (n : ¬ tft x1 x2 x3 x4) : wp (some ((-2 : Int32), D)) (taQ g S x1 x2 x3 x4) := ⟨_, rfl, g, h, fun _ _ => rfl, fun f => absurd f n, fun f => absurd f n, fun _ => ⟨rfl, rfl⟩⟩
theorem q_table9_34 {g : gh} {S : sh} {D : dt} {x1 x2 x3 x4 : Int32} (h1 : x1 = 0 ∨ x1 = 1) (h2 : Rg 1 8 x2) (h5 : x1 = 0 → x2 = 4) (h : Inv g S D) : wp (f_X9_table_34 S 28 x1 x2 x3 x4 D) (taQ g S x1 x2 x3 x4) := by
  unfold f_X9_table_34
  have ec := iG_28_9 h
  have hc := iF_28_9 h
  have l4 : (4 : Int32).toInt = 4 := rfl
  have w1 : Rg 0 1 x1 := by rcases h1 with rfl | rfl <;> decide
  refine wp_pqs in_iff32 (fun r p => wp_if (fun c => ta_no9 h (fun f => p.1 c f.2.1)) (fun c => wp_pqs in_iff32 (fun r2 p2 => wp_if (fun c2 => ta_no9 h (fun f => p2.1 c2 f.2.2.1)) (fun c2 => ?_))))
  have h3 : Rg 1 32 x3 := p.2 c
  have h4 : Rg 1 32 x4 := p2.2 c2
  have f : tft x1 x2 x3 x4 := ⟨h1, h3, h4, h2, h5⟩
  refine wp_if (fun c3 => ⟨_, rfl, g, h, fun _ _ => rfl, ?_⟩) (fun c3 => ?_)
  · rw [c3] at ec
    exact ⟨fun _ q => by omega, fun _ _ => ⟨rfl, rfl⟩, fun n => absurd f n⟩
  · have ne : (gI D 28 9).toInt ≠ 4 := fun e => c3 (Int32.toInt_inj.mp (by omega))
    have hy : Rg 0 3 (gI D 28 9) := ⟨hc.1, by have := hc.2; omega⟩
    have ix4 : ∀ {D' : dt} {o : Nat}, gI D' 28 9 = gI D 28 9 → sA S o = 4 → vp_in (gI D' 28 9) (sA S o) := fun {D' o} e a => by rw [e]; exact in_rg hy a (by decide)
    refine wp_rq (iR_28_10 h) (wp_ix (ix4 rfl (iA_36 h)) (wp_nmI (fun D1 e1 => ?_)))
    have k1 : Inv g S D1 := by rw [e1]; exact inv_i36 h w1
    have y1 : gI D1 28 9 = gI D 28 9 := by rw [e1, gI_pI, if_neg (fun q => by omega)]
    refine wp_rq (iR_28_11 k1) (wp_ix (ix4 y1 (iA_37 h)) (wp_nmI (fun D2 e2 => ?_)))
    have k2 : Inv g S D2 := by rw [e2]; exact inv_i37 k1 (show Rg 0 8 _ from rg_w h2 (by decide))
    have y2 : gI D2 28 9 = gI D 28 9 := by rw [e2, gI_pI, if_neg (fun q => by omega), y1]
    refine wp_rq (iR_28_12 k2) (wp_ix (ix4 y2 (iA_38 h)) (wp_nmI (fun D3 e3 => ?_)))
    have k3 : Inv g S D3 := by rw [e3]; exact inv_i38 k2 (show Rg 0 32 _ from rg_w h3 (by decide))
    have y3 : gI D3 28 9 = gI D 28 9 := by rw [e3, gI_pI, if_neg (fun q => by omega), y2]
    refine wp_rq (iR_28_13 k3) (wp_ix (ix4 y3 (iA_39 h)) (wp_nmI (fun D4 e4 => ?_)))
    have k4 : Inv g S D4 := by rw [e4]; exact inv_i39 k3 (show Rg 0 32 _ from rg_w h4 (by decide))
    have y4 : gI D4 28 9 = gI D 28 9 := by rw [e4, gI_pI, if_neg (fun q => by omega), y3]
    have ea : (gI D4 28 9 + 1).toInt = g.1 3 + 1 := by rw [y4, i32_add hy (by decide : Rg 1 1 (1 : Int32)) (by decide), ec]; rfl
    have a1 : Rg 0 4 (gI D4 28 9 + 1) := ⟨by have := hc.1; omega, by have := hy.2; omega⟩
    refine wp_nmI (fun D5 e5 => ⟨_, rfl, upN g 3 (gI D4 28 9 + 1).toInt, ?_, fun m hm => ?_, ?_⟩)
    · show Inv _ S D5
      rw [e5]
      exact inv_tbs28 k4 a1
    · show (if m = 3 then _ else g.1 m) = g.1 m
      rw [if_neg hm]
    · show taT (g.1 3) x1 x2 x3 x4 (gI D5 28 9 - 1).toInt (gI D4 28 9 + 1).toInt
      have e6 : gI D5 28 9 = gI D4 28 9 + 1 := by rw [e5, gI_pI, if_pos ⟨rfl, rfl⟩]
      have e7 : (gI D5 28 9 - 1).toInt = g.1 3 := by
        rw [i32_sub (x := gI D5 28 9) (a := 0) (b := 4) (by rw [e6]; exact a1) (by decide : Rg 1 1 (1 : Int32)) (by decide), e6, ea]
        have l1 : (1 : Int32).toInt = 1 := rfl
        omega
      rw [e7, ea]
      have := hy.2
      exact ⟨fun _ _ => ⟨rfl, rfl⟩, fun _ n => absurd (by omega) n, fun n => absurd f n⟩
theorem q_table9 {g : gh} {S : sh} {D : dt} {x1 x2 x3 x4 : Int32} (h : Inv g S D) : wp (f_X9_table S 28 x1 x2 x3 x4 D) (taQ g S x1 x2 x3 x4) := by
  unfold f_X9_table
  have l0 : (0 : Int64).toInt = 0 := rfl
  have l1 : (1 : Int64).toInt = 1 := rfl
  have m0 : (0 : Int32).toInt = 0 := rfl
  have m1 : (1 : Int32).toInt = 1 := rfl
  refine wp_pqs in_iff32 (fun r p => wp_if (fun c => ta_no9 h (fun f => p.1 c ?_)) (fun c => wp_if (fun e => wp_if (fun e4 => q_table9_34 (Or.inl e) ?_ (fun _ => e4) h) (fun n => ta_no9 h (fun f => n (f.2.2.2.2 e)))) (fun n => wp_pqs in_iff32 (fun r2 p2 => wp_if (fun c2 => ta_no9 h (fun f => p2.1 c2 f.2.2.2.1)) (fun c2 => q_table9_34 (Or.inr ?_) (p2.2 c2) (fun e => absurd e n) h)))))
  · rcases f.1 with e | e
    · rw [e]
      decide
    · rw [e]
      decide
  · rw [e4]
    decide
  · have := p.2 c
    have ne : x1.toInt ≠ 0 := fun e => n (Int32.toInt_inj.mp (by omega))
    exact Int32.toInt_inj.mp (by omega)
set_option maxRecDepth 100000 in
theorem s_X9_find_139 {g : gh} {S : sh} {D : dt} {k60 : Nat → Int32 → Int32 → Option Int32} {n60 : Nat} (hk60 : ∀ (x1 : Int32) (x2 : Int32), Rg 0 3 x1 → Rg 0 32 x2 → 32 - x2.toInt < (n60 : Int) → wp (k60 28 x1 x2) (fun q => Rg (-1) 31 q)) {x1 : Int32} {x2 : Int32} {x4 : Int32} (hx1 : Rg 0 3 x1) (hx2 : Rg 0 31 x2) (hm60 : 32 - x2.toInt < ((n60 + 1 : Nat) : Int)) (h : Inv g S D) : wp (f_X9_find_139 S D k60 28 x1 x2 x4) (fun q => Rg (-1) 31 q) := by
  unfold f_X9_find_139
  refine wp_if (fun c_1 => ?_) (fun c_1 => ?_)
  ·
    have h_2 : Rg 0 0 _ := rg_eq1 (rg_top _) rc_0 c_1 (by decide)
    refine wp_nmI (fun y60 e_y60 => ?_)
    have h_y60 : Rg 1 32 y60 := rg_eq e_y60 (rg_add hx2 rc_1 (by decide) : Rg 1 32 _)
    exact hk60 _ _ hx1 (rg_w h_y60 (by decide)) (by rw [e_y60]; exact ms_up hx2 (by decide) hm60)
  ·
    exact ⟨_, rfl, (rg_w hx2 (by decide))⟩
set_option maxRecDepth 100000 in
theorem s_X9_find_131 {g : gh} {S : sh} {D : dt} {k60 : Nat → Int32 → Int32 → Option Int32} {n60 : Nat} (hk60 : ∀ (x1 : Int32) (x2 : Int32), Rg 0 3 x1 → Rg 0 32 x2 → 32 - x2.toInt < (n60 : Int) → wp (k60 28 x1 x2) (fun q => Rg (-1) 31 q)) {k88 : Nat → Int32 → Int32 → Int32 → Int32 → Int32 → Option Int32} {n88 : Nat} (hk88 : ∀ (x1 : Int32) (x2 : Int32) (x3 : Int32) (x4 : Int32) (x5 : Int32), Rg 0 3 x1 → Rg 0 31 x2 → Rg 0 127 x3 → Rg 0 8 x5 → 32 - x2.toInt < ((n60 + 1 : Nat) : Int) → 8 - x5.toInt < (n88 : Int) → wp (k88 28 x1 x2 x3 x4 x5) (fun q => Rg (-1) 31 q)) {x1 : Int32} {x2 : Int32} {x3 : Int32} {x5 : Int32} {xs0 : Int32} (hx1 : Rg 0 3 x1) (hx2 : Rg 0 31 x2) (hx3 : Rg 0 127 x3) (hx5 : Rg 0 7 x5) (hxs0 : Rg 0 1 xs0) (hm60 : 32 - x2.toInt < ((n60 + 1 : Nat) : Int)) (hm88 : 8 - x5.toInt < ((n88 + 1 : Nat) : Int)) (h : Inv g S D) : wp (f_X9_find_131 S D k60 k88 28 x1 x2 x3 x5 xs0) (fun q => Rg (-1) 31 q) := by
  unfold f_X9_find_131
  refine wp_nmI (fun y61 e_y61 => ?_)
  have h_y61 : Rg 1 8 y61 := rg_eq e_y61 (rg_add hx5 rc_1 (by decide) : Rg 1 8 _)
  exact hk88 _ _ _ _ _ hx1 hx2 hx3 (rg_w h_y61 (by decide)) hm60 (by rw [e_y61]; exact ms_up hx5 (by decide) hm88)
set_option maxRecDepth 100000 in
theorem s_X9_find_88 {g : gh} {S : sh} {D : dt} {k60 : Nat → Int32 → Int32 → Option Int32} {n60 : Nat} (hk60 : ∀ (x1 : Int32) (x2 : Int32), Rg 0 3 x1 → Rg 0 32 x2 → 32 - x2.toInt < (n60 : Int) → wp (k60 28 x1 x2) (fun q => Rg (-1) 31 q)) (h : Inv g S D) : ∀ (n : Nat) (x1 : Int32) (x2 : Int32) (x3 : Int32) (x4 : Int32) (x5 : Int32), Rg 0 3 x1 → Rg 0 31 x2 → Rg 0 127 x3 → Rg 0 8 x5 → 32 - x2.toInt < ((n60 + 1 : Nat) : Int) → 8 - x5.toInt < (n : Int) → wp (f_X9_find_88 S D k60 n 28 x1 x2 x3 x4 x5) (fun q => Rg (-1) 31 q) := by
  intro n
  induction n with
  | zero =>
    intro x1 x2 x3 x4 x5 hx1 hx2 hx3 hx5 hm60 hm
    exact (ms_0 hx5 (by decide) hm).elim
  | succ n ih =>
    intro x1 x2 x3 x4 x5 hx1 hx2 hx3 hx5 hm60 hm
    rw [f_X9_find_88.eq_2]
    refine wp_rq (iR_28_11 h) ?_
    refine wp_ix (in_rg hx1 (iA_37 h) (by decide)) ?_
    refine wp_if (fun c_1 => ?_) (fun c_1 => ?_)
    ·
      exact s_X9_find_139 hk60 hx1 hx2 hm60 h
    ·
      have h_2 : Rg 0 7 _ := rg_lt1 hx5 (iI_37 h _) (nle32 c_1) (by decide)
      have h_3 : Rg 1 8 _ := rg_lt2 hx5 (iI_37 h _) (nle32 c_1) (by decide)
      refine wp_if (fun c_4 => ?_) (fun c_4 => ?_)
      ·
        have h_5 : Rg 0 0 _ := rg_eq1 (rg_top _) rc_0 c_4 (by decide)
        exact s_X9_find_139 hk60 hx1 hx2 hm60 h
      ·
        refine wp_rq (iR_28_16 h) ?_
        refine wp_ix (in_rg (rg_add (rg_mul rc_8 hx3 (by decide) : Rg 0 1016 _) h_2 (by decide) : Rg 0 1023 _) (iA_42 h) (by decide)) ?_
        refine wp_rq (iR_28_25 h) ?_
        refine wp_ix (in_rg h_2 (iA_46 h) (by decide)) ?_
        refine wp_if (fun c_6 => ?_) (fun c_6 => ?_)
        ·
          have h_7 : Rg 0 255 _ := rg_eq1 (rg_top _) (iI_46 h _) c_6 (by decide)
          exact s_X9_find_131 hk60 ih hx1 hx2 hx3 h_2 (rg_w rc_1 (by decide)) hm60 hm h
        ·
          exact s_X9_find_131 hk60 ih hx1 hx2 hx3 h_2 (rg_w rc_0 (by decide)) hm60 hm h
set_option maxRecDepth 100000 in
theorem s_X9_find_60 {g : gh} {S : sh} {D : dt}  (h : Inv g S D) : ∀ (n : Nat) (x1 : Int32) (x2 : Int32), Rg 0 3 x1 → Rg 0 32 x2 → 32 - x2.toInt < (n : Int) → wp (f_X9_find_60 S D n 28 x1 x2) (fun q => Rg (-1) 31 q) := by
  intro n
  induction n with
  | zero =>
    intro x1 x2 hx1 hx2 hm
    exact (ms_0 hx2 (by decide) hm).elim
  | succ n ih =>
    intro x1 x2 hx1 hx2 hm
    rw [f_X9_find_60.eq_2]
    refine wp_rq (iR_28_13 h) ?_
    refine wp_ix (in_rg hx1 (iA_39 h) (by decide)) ?_
    refine wp_if (fun c_1 => ?_) (fun c_1 => ?_)
    ·
      exact ⟨_, rfl, (rg_w rc_m1 (by decide))⟩
    ·
      have h_2 : Rg 0 31 _ := rg_lt1 hx2 (iI_39 h _) (nle32 c_1) (by decide)
      have h_3 : Rg 1 32 _ := rg_lt2 hx2 (iI_39 h _) (nle32 c_1) (by decide)
      refine wp_nmI (fun y86 e_y86 => ?_)
      have h_y86 : Rg 0 127 y86 := rg_eq e_y86 (rg_add (rg_mul rc_32 hx1 (by decide) : Rg 0 96 _) h_2 (by decide) : Rg 0 127 _)
      refine wp_rq (iR_28_15 h) ?_
      refine wp_ix (in_rg h_y86 (iA_41 h) (by decide)) ?_
      refine wp_nmI (fun y92 e_y92 => ?_)
      refine wp_nmI (fun y93 e_y93 => ?_)
      have h_y93 : Rg 0 0 y93 := rg_eq e_y93 rc_0
      exact s_X9_find_88 ih h LF _ _ _ _ _ hx1 h_2 h_y86 (rg_w h_y93 (by decide)) hm (ms_in h_y93 (by decide))
theorem shl8 (x : Int64) : (j_lshl x (8 : Int32)).toInt = (x.toInt * 256).bmod (2 ^ 64) := by
  have e : (j_lshl x (8 : Int32)).toInt = (x.toBitVec <<< 8).toInt := rfl
  have e2 : x.toBitVec <<< 8 = x.toBitVec * (BitVec.twoPow 64 8) := by rw [BitVec.mul_twoPow_eq_shiftLeft]
  rw [e, e2, BitVec.toInt_mul]
  rfl
theorem or_nn {x y : Int64} (hx : 0 ≤ x.toInt) (hy : 0 ≤ y.toInt) {k : Nat} (bx : x.toInt < 2 ^ k) (by_ : y.toInt < 2 ^ k) (hk : k ≤ 62) : 0 ≤ (x ||| y).toInt ∧ (x ||| y).toInt < 2 ^ k := by
  have en : ∀ z : Int64, 0 ≤ z.toInt → z.toInt = z.toBitVec.toNat := by
    intro z h
    show z.toBitVec.toInt = _
    have h : 0 ≤ z.toBitVec.toInt := h
    rw [BitVec.toInt_eq_toNat_cond] at h ⊢
    split
    · rfl
    · rename_i w
      rw [if_neg w] at h
      have := z.toBitVec.isLt
      omega
  have ex := en x hx
  have ey := en y hy
  have pk : (2 : Int) ^ k = ((2 ^ k : Nat) : Int) := by simp
  have p62 : 2 ^ k ≤ 2 ^ 62 := Nat.pow_le_pow_right (by decide) hk
  have o : x.toBitVec.toNat ||| y.toBitVec.toNat < 2 ^ k := Nat.or_lt_two_pow (by omega) (by omega)
  have e : (x ||| y).toInt = (x.toBitVec ||| y.toBitVec).toInt := rfl
  rw [e, BitVec.toInt_eq_toNat_of_lt (by rw [BitVec.toNat_or]; omega), BitVec.toNat_or]
  omega
theorem q_find_14 {g : gh} {S : sh} {D : dt} {x1 : Int32} (hx1 : Rg 0 3 x1) (h : Inv g S D) : ∀ (n : Nat) (x2 : Int64) (x4 : Int32), Rg (-1) 3 x4 → 0 ≤ x2.toInt → x2.toInt < 2 ^ (8 * (3 - x4.toInt).toNat) → x4.toInt - (-1) < n → wp (f_X9_find_14 S D n 28 x1 x2 x4) (fun q => Rg (-1) 31 q) := by
  intro n
  induction n with
  | zero =>
    intro x2 x4 hx hl hb hn
    exact (ms_d0 hx (by decide) hn).elim
  | succ n ih =>
    intro x2 x4 hx hl hb hn
    rw [f_X9_find_14.eq_2]
    have i1 := in_rg hx1 (iA_39 h) (by decide)
    refine wp_if (fun c => wp_rq (iR_28_13 h) (wp_ix i1 (wp_if (fun _ => ⟨_, rfl, rm31⟩) (fun c2 => ?_)))) (fun c => ?_)
    · have c2 := Int64.lt_iff_toInt_lt.mp (nle64 (fun q => c2 ((lg_cmp_ge _ _).mpr q)))
      rw [Int32.toInt_toInt64] at c2
      have m := (iI_39 h x1.toNatClampNeg).2
      exact ⟨_, rfl, rg_of (a := 0) (b := 31) ⟨hl, by omega⟩ (by decide)⟩
    · have hx' : Rg 0 3 x4 := rg_le2 (by decide : Rg 0 0 (0 : Int32)) hx (nlt32 c) (by decide)
      refine wp_rq (iR_28_25 h) (wp_ix (in_rg hx' (iA_46 h) (by decide)) (wp_nmI (fun y ey => wp_nmI (fun z ez => ?_))))
      have ez1 : z.toInt = x4.toInt + -1 := by
        rw [ez]
        exact i32_add hx' (by decide : Rg (-1) (-1) (-1 : Int32)) (by decide)
      have kk := iI_46 h x4.toNatClampNeg
      have a := hx'.1
      have b := hx'.2
      obtain ⟨k, hk⟩ : ∃ k : Nat, (3 - x4.toInt).toNat = k := ⟨_, rfl⟩
      have hk3 : k ≤ 3 := by omega
      rw [hk] at hb
      have p1 : (2 : Int) ^ (8 * (k + 1)) = 2 ^ (8 * k) * 256 := by rw [Nat.mul_add, Int.pow_add]; rfl
      have p2 : (2 : Int) ^ (8 * k) ≤ 16777216 := by
        have : k = 0 ∨ k = 1 ∨ k = 2 ∨ k = 3 := by omega
        rcases this with rfl | rfl | rfl | rfl <;> decide
      have p3 : (1 : Int) ≤ 2 ^ (8 * k) := by
        have : k = 0 ∨ k = 1 ∨ k = 2 ∨ k = 3 := by omega
        rcases this with rfl | rfl | rfl | rfl <;> decide
      have sh : (j_lshl x2 (8 : Int32)).toInt = x2.toInt * 256 := by
        rw [shl8]
        exact bm64 (by omega) (by omega)
      have ke : ((gI D 46 x4.toNatClampNeg).toInt64).toInt = (gI D 46 x4.toNatClampNeg).toInt := Int32.toInt_toInt64 _
      have o := or_nn (x := j_lshl x2 (8 : Int32)) (y := (gI D 46 x4.toNatClampNeg).toInt64) (k := 8 * (k + 1)) (by omega) (by rw [ke]; exact kk.1) (by rw [sh, p1]; omega) (by rw [ke, p1]; have := kk.2; omega) (by omega)
      rw [← ey] at o
      have e4 : (3 - z.toInt).toNat = k + 1 := by omega
      exact ih y z ⟨by omega, by omega⟩ o.1 (by rw [e4]; exact o.2) (by omega)
theorem s_X9_find {g : gh} {S : sh} {D : dt} {x1 : Int32} (hx1 : Rg 0 3 x1) (h : Inv g S D) : wp (f_X9_find S D 28 x1) (fun q => Rg (-1) 31 q) := by
  unfold f_X9_find
  refine wp_rq (iR_28_10 h) (wp_ix (in_rg hx1 (iA_36 h) (by decide)) (wp_if (fun _ => wp_nmI (fun y ey => wp_nmI (fun z ez => ?_))) (fun _ => wp_nmI (fun y ey => ?_))))
  · subst ey
    subst ez
    exact q_find_14 hx1 h LF 0 3 (by decide) (by decide) (by decide) (by decide)
  · subst ey
    exact s_X9_find_60 h LF _ _ hx1 (by decide) (by decide)
set_option maxRecDepth 100000 in
theorem s_X9_keys_62 {g : gh} {S : sh} {D : dt} {k22 : Nat → Int32 → Int32 → Int32 → Option Int32} {n22 : Nat} (hk22 : ∀ (x1 : Int32) (x2 : Int32) (x3 : Int32), Rg 0 3 x1 → Rg 0 32 x3 → 32 - x3.toInt < (n22 : Int) → wp (k22 28 x1 x2 x3) (fun q => True)) {x1 : Int32} {x3 : Int32} {xs0 : Int32} (hx1 : Rg 0 3 x1) (hx3 : Rg 0 31 x3) (hm22 : 32 - x3.toInt < ((n22 + 1 : Nat) : Int)) (h : Inv g S D) : wp (f_X9_keys_62 S D k22 28 x1 x3 xs0) (fun q => True) := by
  unfold f_X9_keys_62
  refine wp_nmI (fun y25 e_y25 => ?_)
  have h_y25 : Rg 1 32 y25 := rg_eq e_y25 (rg_add hx3 rc_1 (by decide) : Rg 1 32 _)
  exact hk22 _ _ _ hx1 (rg_w h_y25 (by decide)) (by rw [e_y25]; exact ms_up hx3 (by decide) hm22)
set_option maxRecDepth 100000 in
theorem s_X9_keys_55 {g : gh} {S : sh} {D : dt} {k22 : Nat → Int32 → Int32 → Int32 → Option Int32} {n22 : Nat} (hk22 : ∀ (x1 : Int32) (x2 : Int32) (x3 : Int32), Rg 0 3 x1 → Rg 0 32 x3 → 32 - x3.toInt < (n22 : Int) → wp (k22 28 x1 x2 x3) (fun q => True)) {x1 : Int32} {x2 : Int32} {x3 : Int32} (hx1 : Rg 0 3 x1) (hx3 : Rg 0 31 x3) (hm22 : 32 - x3.toInt < ((n22 + 1 : Nat) : Int)) (h : Inv g S D) : wp (f_X9_keys_55 S D k22 28 x1 x2 x3) (fun q => True) := by
  unfold f_X9_keys_55
  exact s_X9_keys_62 hk22 hx1 hx3 hm22 h
set_option maxRecDepth 100000 in
theorem s_X9_keys_22 {g : gh} {S : sh} {D : dt}  (h : Inv g S D) : ∀ (n : Nat) (x1 : Int32) (x2 : Int32) (x3 : Int32), Rg 0 3 x1 → Rg 0 32 x3 → 32 - x3.toInt < (n : Int) → wp (f_X9_keys_22 S D n 28 x1 x2 x3) (fun q => True) := by
  intro n
  induction n with
  | zero =>
    intro x1 x2 x3 hx1 hx3 hm
    exact (ms_0 hx3 (by decide) hm).elim
  | succ n ih =>
    intro x1 x2 x3 hx1 hx3 hm
    rw [f_X9_keys_22.eq_2]
    refine wp_rq (iR_28_13 h) ?_
    refine wp_ix (in_rg hx1 (iA_39 h) (by decide)) ?_
    refine wp_if (fun c_1 => ?_) (fun c_1 => ?_)
    ·
      exact ⟨_, rfl, trivial⟩
    ·
      have h_2 : Rg 0 31 _ := rg_lt1 hx3 (iI_39 h _) (nle32 c_1) (by decide)
      have h_3 : Rg 1 32 _ := rg_lt2 hx3 (iI_39 h _) (nle32 c_1) (by decide)
      refine wp_rq (iR_28_10 h) ?_
      refine wp_ix (in_rg hx1 (iA_36 h) (by decide)) ?_
      refine wp_if (fun c_4 => ?_) (fun c_4 => ?_)
      ·
        have h_5 : Rg 0 0 _ := rg_eq1 (iI_36 h _) rc_0 c_4 (by decide)
        exact s_X9_keys_55 ih hx1 h_2 hm h
      ·
        have h_6 : Rg 1 1 _ := rg_ne1 (iI_36 h _) rc_0 c_4 (by decide)
        refine wp_rq (iR_28_15 h) ?_
        refine wp_ix (in_rg (rg_add (rg_mul rc_32 hx1 (by decide) : Rg 0 96 _) h_2 (by decide) : Rg 0 127 _) (iA_41 h) (by decide)) ?_
        refine wp_if (fun c_7 => ?_) (fun c_7 => ?_)
        ·
          have h_8 : Rg 0 0 _ := rg_eq1 (rg_top _) rc_0 c_7 (by decide)
          exact s_X9_keys_62 ih hx1 h_2 hm h
        ·
          exact s_X9_keys_55 ih hx1 h_2 hm h
set_option maxRecDepth 100000 in
theorem s_X9_keys {g : gh} {S : sh} {D : dt}  {x1 : Int32}  (h : Inv g S D) : wp (f_X9_keys S D 28 x1) (fun q => True) := by
  unfold f_X9_keys
  refine wp_pqs (s_X9_in) (fun r45 q_r45 => ?_)
  obtain ⟨h_r45, x_r45⟩ := q_r45
  refine wp_if (fun c_1 => ?_) (fun c_1 => ?_)
  ·
    have h_2 : Rg 0 0 _ := rg_eq1 h_r45 rc_0 c_1 (by decide)
    exact ⟨_, rfl, trivial⟩
  ·
    have h_3 := x_r45 c_1
    have h_4 : RgL 0 3 _ := rgl_in (rgl_of (rg_top _) : RgL (-2147483648) 2147483647 _) rcl_0 (rgl_of (rg_sub (iF_28_9 h) rc_1 (by decide) : Rg (-1) 3 _) : RgL (-1) 3 _) h_3 (by decide)
    have h_5 : Rg 0 3 _ := rg_of32 h_4
    have h_6 : Rg 1 1 _ := rg_ne1 h_r45 rc_0 c_1 (by decide)
    refine wp_nmI (fun y47 e_y47 => ?_)
    have h_y47 : Rg 0 0 y47 := rg_eq e_y47 rc_0
    refine wp_nmI (fun y48 e_y48 => ?_)
    have h_y48 : Rg 0 0 y48 := rg_eq e_y48 rc_0
    exact s_X9_keys_22 h LF _ _ _ h_5 (rg_w h_y48 (by decide)) (ms_in h_y48 (by decide))
set_option maxRecDepth 100000 in
theorem s_X9_change_52 {g : gh} {S : sh}   {D : dt}  (h : Inv g S D) : wp (f_X9_change_52 S D) (fun q => RgL (-1) 0 q.1 ∧ Inv g S q.2) := by
  unfold f_X9_change_52
  exact ⟨_, rfl, (rgl_w rcl_m1 (by decide)), h⟩
set_option maxRecDepth 100000 in
theorem s_X9_change_181 {g : gh} {S : sh}  : ∀ (n : Nat) (x1 : Int32) (x6 : Int32) (x7 : Int32) (D : dt), Rg 0 3 x1 → Rg 0 127 x6 → Rg 0 32 x7 → 32 - x7.toInt < (n : Int) → Inv g S D → wp (f_X9_change_181 S n 28 x1 x6 x7 D) (fun q => RgL (-1) 0 q.1 ∧ Inv g S q.2) := by
  intro n
  induction n with
  | zero =>
    intro x1 x6 x7 D hx1 hx6 hx7 hm h
    exact (ms_0 hx7 (by decide) hm).elim
  | succ n ih =>
    intro x1 x6 x7 D hx1 hx6 hx7 hm h
    rw [f_X9_change_181.eq_2]
    refine wp_rq (iR_28_12 h) ?_
    refine wp_ix (in_rg hx1 (iA_38 h) (by decide)) ?_
    refine wp_if (fun c_1 => ?_) (fun c_1 => ?_)
    ·
      exact ⟨_, rfl, (rgl_w rcl_0 (by decide)), h⟩
    ·
      have h_2 : Rg 0 31 _ := rg_lt1 hx7 (iI_38 h _) (nle32 c_1) (by decide)
      have h_3 : Rg 1 32 _ := rg_lt2 hx7 (iI_38 h _) (nle32 c_1) (by decide)
      refine wp_rq (iR_28_14 h) ?_
      refine wp_rq (iR_28_24 h) ?_
      refine wp_ix (in_rg h_2 (iA_45 h) (by decide)) ?_
      refine wp_ix (in_rg (rg_add (rg_mul rc_32 hx6 (by decide) : Rg 0 4064 _) h_2 (by decide) : Rg 0 4095 _) (iA_40 h) (by decide)) ?_
      refine wp_nmI (fun D94 e_D94 => ?_)
      have h_D94 : Inv g S D94 := by rw [e_D94]; exact inv_i40 h (iI_45 h _)
      refine wp_nmI (fun y95 e_y95 => ?_)
      have h_y95 : Rg 1 32 y95 := rg_eq e_y95 (rg_add h_2 rc_1 (by decide) : Rg 1 32 _)
      exact ih _ _ _ _ hx1 hx6 (rg_w h_y95 (by decide)) (by rw [e_y95]; exact ms_up h_2 (by decide) hm) h_D94
set_option maxRecDepth 100000 in
theorem s_X9_change_178 {g : gh} {S : sh}  {x1 : Int32} {x6 : Int32} {D : dt} (hx1 : Rg 0 3 x1) (hx6 : Rg 0 127 x6) (h : Inv g S D) : wp (f_X9_change_178 S 28 x1 x6 D) (fun q => RgL (-1) 0 q.1 ∧ Inv g S q.2) := by
  unfold f_X9_change_178
  refine wp_nmI (fun y96 e_y96 => ?_)
  have h_y96 : Rg 0 0 y96 := rg_eq e_y96 rc_0
  exact s_X9_change_181  LF _ _ _ _ hx1 hx6 (rg_w h_y96 (by decide)) (ms_in h_y96 (by decide)) h
set_option maxRecDepth 100000 in
theorem s_X9_change_141 {g : gh} {S : sh}  : ∀ (n : Nat) (x1 : Int32) (x6 : Int32) (x7 : Int32) (D : dt), Rg 0 3 x1 → Rg 0 127 x6 → Rg 0 8 x7 → 8 - x7.toInt < (n : Int) → Inv g S D → wp (f_X9_change_141 S n 28 x1 x6 x7 D) (fun q => RgL (-1) 0 q.1 ∧ Inv g S q.2) := by
  intro n
  induction n with
  | zero =>
    intro x1 x6 x7 D hx1 hx6 hx7 hm h
    exact (ms_0 hx7 (by decide) hm).elim
  | succ n ih =>
    intro x1 x6 x7 D hx1 hx6 hx7 hm h
    rw [f_X9_change_141.eq_2]
    refine wp_rq (iR_28_11 h) ?_
    refine wp_ix (in_rg hx1 (iA_37 h) (by decide)) ?_
    refine wp_if (fun c_1 => ?_) (fun c_1 => ?_)
    ·
      exact s_X9_change_178 hx1 hx6 h
    ·
      have h_2 : Rg 0 7 _ := rg_lt1 hx7 (iI_37 h _) (nle32 c_1) (by decide)
      have h_3 : Rg 1 8 _ := rg_lt2 hx7 (iI_37 h _) (nle32 c_1) (by decide)
      refine wp_rq (iR_28_16 h) ?_
      refine wp_rq (iR_28_25 h) ?_
      refine wp_ix (in_rg h_2 (iA_46 h) (by decide)) ?_
      refine wp_ix (in_rg (rg_add (rg_mul rc_8 hx6 (by decide) : Rg 0 1016 _) h_2 (by decide) : Rg 0 1023 _) (iA_42 h) (by decide)) ?_
      refine wp_nmI (fun D113 e_D113 => ?_)
      have h_D113 : Inv g S D113 := by rw [e_D113]; exact inv_i42 h (rg_top _)
      refine wp_nmI (fun y114 e_y114 => ?_)
      have h_y114 : Rg 1 8 y114 := rg_eq e_y114 (rg_add h_2 rc_1 (by decide) : Rg 1 8 _)
      exact ih _ _ _ _ hx1 hx6 (rg_w h_y114 (by decide)) (by rw [e_y114]; exact ms_up h_2 (by decide) hm) h_D113
set_option maxRecDepth 100000 in
theorem s_X9_change_108 {g : gh} {S : sh}  {x1 : Int32} {x2 : Int32} {x5 : Int32} {D : dt} (hx1 : Rg 0 3 x1) (hx2 : Rg (-1) 31 x2) (hx5 : Rg (-1) 31 x5) (h : Inv g S D) : wp (f_X9_change_108 S 28 x1 x2 x5 D) (fun q => RgL (-1) 0 q.1 ∧ Inv g S q.2) := by
  unfold f_X9_change_108
  refine wp_if (fun c_1 => ?_) (fun c_1 => ?_)
  ·
    have h_2 : Rg 0 31 _ := rg_le2 rc_0 hx5 c_1 (by decide)
    refine wp_nmI (fun y116 e_y116 => ?_)
    have h_y116 : Rg 0 127 y116 := rg_eq e_y116 (rg_add (rg_mul rc_32 hx1 (by decide) : Rg 0 96 _) h_2 (by decide) : Rg 0 127 _)
    refine wp_if (fun c_3 => ?_) (fun c_3 => ?_)
    ·
      have h_4 : Rg 0 31 _ := rg_le2 rc_0 hx2 c_3 (by decide)
      exact s_X9_change_178 hx1 h_y116 h
    ·
      have h_5 : Rg (-1) (-1) _ := rg_lt1 hx2 rc_0 (nle32 c_3) (by decide)
      refine wp_rq (iR_28_15 h) ?_
      refine wp_ix (in_rg h_y116 (iA_41 h) (by decide)) ?_
      refine wp_nmI (fun D123 e_D123 => ?_)
      have h_D123 : Inv g S D123 := by rw [e_D123]; exact inv_i41 h (rg_top _)
      refine wp_nmI (fun y124 e_y124 => ?_)
      have h_y124 : Rg 0 0 y124 := rg_eq e_y124 rc_0
      exact s_X9_change_141  LF _ _ _ _ hx1 h_y116 (rg_w h_y124 (by decide)) (ms_in h_y124 (by decide)) h_D123
  ·
    have h_6 : Rg (-1) (-1) _ := rg_lt1 hx5 rc_0 (nle32 c_1) (by decide)
    exact ⟨_, rfl, (rgl_w rcl_m1 (by decide)), h⟩
set_option maxRecDepth 100000 in
theorem s_X9_change_100 {g : gh} {S : sh} {k69 : Nat → Int32 → Int32 → Int32 → Int32 → dt → Option (Int64 × dt)} {n69 : Nat} (hk69 : ∀ (x1 : Int32) (x2 : Int32) (x5 : Int32) (x6 : Int32) (D : dt), Rg 0 3 x1 → Rg (-1) 31 x2 → Rg (-1) 31 x5 → Rg (-1) 31 x6 → x6.toInt - (-1) < (n69 : Int) → Inv g S D → wp (k69 28 x1 x2 x5 x6 D) (fun q => RgL (-1) 0 q.1 ∧ Inv g S q.2)) {x1 : Int32} {x2 : Int32} {x6 : Int32} {xs0 : Int32} {D : dt} (hx1 : Rg 0 3 x1) (hx2 : Rg (-1) (-1) x2) (hx6 : Rg 0 31 x6) (hxs0 : Rg (-1) 31 xs0) (hm69 : x6.toInt - (-1) < ((n69 + 1 : Nat) : Int)) (h : Inv g S D) : wp (f_X9_change_100 S k69 28 x1 x2 x6 xs0 D) (fun q => RgL (-1) 0 q.1 ∧ Inv g S q.2) := by
  unfold f_X9_change_100
  refine wp_nmI (fun y125 e_y125 => ?_)
  have h_y125 : Rg (-1) 30 y125 := rg_eq e_y125 (rg_add hx6 rc_m1 (by decide) : Rg (-1) 30 _)
  exact hk69 _ _ _ _ _ hx1 (rg_w hx2 (by decide)) hxs0 (rg_w h_y125 (by decide)) (by rw [e_y125]; exact ms_dn hx6 (by decide) hm69) h
set_option maxRecDepth 100000 in
theorem s_X9_change_69 {g : gh} {S : sh}  : ∀ (n : Nat) (x1 : Int32) (x2 : Int32) (x5 : Int32) (x6 : Int32) (D : dt), Rg 0 3 x1 → Rg (-1) 31 x2 → Rg (-1) 31 x5 → Rg (-1) 31 x6 → x6.toInt - (-1) < (n : Int) → Inv g S D → wp (f_X9_change_69 S n 28 x1 x2 x5 x6 D) (fun q => RgL (-1) 0 q.1 ∧ Inv g S q.2) := by
  intro n
  induction n with
  | zero =>
    intro x1 x2 x5 x6 D hx1 hx2 hx5 hx6 hm h
    exact (ms_d0 hx6 (by decide) hm).elim
  | succ n ih =>
    intro x1 x2 x5 x6 D hx1 hx2 hx5 hx6 hm h
    rw [f_X9_change_69.eq_2]
    refine wp_if (fun c_1 => ?_) (fun c_1 => ?_)
    ·
      have h_2 : Rg (-1) (-1) _ := rg_lt1 hx6 rc_0 c_1 (by decide)
      exact s_X9_change_108 hx1 hx2 hx5 h
    ·
      have h_3 : Rg 0 31 _ := rg_le2 rc_0 hx6 (nlt32 c_1) (by decide)
      refine wp_if (fun c_4 => ?_) (fun c_4 => ?_)
      ·
        have h_5 : Rg 0 31 _ := rg_le2 rc_0 hx2 c_4 (by decide)
        exact s_X9_change_108 hx1 (rg_w h_5 (by decide)) hx5 h
      ·
        have h_6 : Rg (-1) (-1) _ := rg_lt1 hx2 rc_0 (nle32 c_4) (by decide)
        refine wp_rq (iR_28_15 h) ?_
        refine wp_ix (in_rg (rg_add (rg_mul rc_32 hx1 (by decide) : Rg 0 96 _) h_3 (by decide) : Rg 0 127 _) (iA_41 h) (by decide)) ?_
        refine wp_if (fun c_7 => ?_) (fun c_7 => ?_)
        ·
          have h_8 : Rg 0 0 _ := rg_eq1 (rg_top _) rc_0 c_7 (by decide)
          exact s_X9_change_100 ih hx1 h_6 h_3 (rg_w h_3 (by decide)) hm h
        ·
          exact s_X9_change_100 ih hx1 h_6 h_3 hx5 hm h
set_option maxRecDepth 100000 in
theorem s_X9_change_56 {g : gh} {S : sh}  {x1 : Int32} {x2 : Int32} {D : dt} (hx1 : Rg 0 3 x1) (hx2 : Rg (-1) 31 x2) (h : Inv g S D) : wp (f_X9_change_56 S 28 x1 x2 D) (fun q => RgL (-1) 0 q.1 ∧ Inv g S q.2) := by
  unfold f_X9_change_56
  refine wp_rq (iR_28_13 h) ?_
  refine wp_ix (in_rg hx1 (iA_39 h) (by decide)) ?_
  refine wp_nmI (fun y139 e_y139 => ?_)
  have h_y139 : Rg (-1) 31 y139 := rg_eq e_y139 (rg_sub (iI_39 h _) rc_1 (by decide) : Rg (-1) 31 _)
  exact s_X9_change_69  LF _ _ _ _ _ hx1 hx2 hx2 h_y139 (ms_din h_y139 (by decide)) h
set_option maxRecDepth 100000 in
theorem s_X9_change_40 {g : gh} {S : sh}  {x1 : Int32} {x2 : Int32} {x3 : Int64} {D : dt} (hx1 : Rg 0 3 x1) (hx2 : Rg (-1) 31 x2) (hx3 : RgL 0 2 x3) (h : Inv g S D) : wp (f_X9_change_40 S 28 x1 x2 x3 D) (fun q => RgL (-1) 0 q.1 ∧ Inv g S q.2) := by
  unfold f_X9_change_40
  refine wp_if (fun c_1 => ?_) (fun c_1 => ?_)
  ·
    have h_2 : RgL 2 2 _ := rgl_eq1 hx3 rcl_2 ((lg_cmp_eq _ _).mp c_1) (by decide)
    refine wp_if (fun c_3 => ?_) (fun c_3 => ?_)
    ·
      have h_4 : Rg 0 31 _ := rg_le2 rc_0 hx2 c_3 (by decide)
      exact s_X9_change_56 hx1 (rg_w h_4 (by decide)) h
    ·
      have h_5 : Rg (-1) (-1) _ := rg_lt1 hx2 rc_0 (nle32 c_3) (by decide)
      exact s_X9_change_52 h
  ·
    have h_6 : RgL 0 1 _ := rgl_ne1 hx3 rcl_2 (fun q => c_1 ((lg_cmp_eq _ _).mpr q)) (by decide)
    exact s_X9_change_56 hx1 hx2 h
set_option maxRecDepth 100000 in
theorem s_X9_change_30 {g : gh} {S : sh}  {x1 : Int32} {x2 : Int32} {x3 : Int64} {D : dt} (hx1 : Rg 0 3 x1) (hx2 : Rg (-1) 31 x2) (hx3 : RgL 0 2 x3) (h : Inv g S D) : wp (f_X9_change_30 S 28 x1 x2 x3 D) (fun q => RgL (-1) 0 q.1 ∧ Inv g S q.2) := by
  unfold f_X9_change_30
  refine wp_if (fun c_1 => ?_) (fun c_1 => ?_)
  ·
    have h_2 : RgL 1 1 _ := rgl_eq1 hx3 rcl_1 ((lg_cmp_eq _ _).mp c_1) (by decide)
    refine wp_if (fun c_3 => ?_) (fun c_3 => ?_)
    ·
      have h_4 : Rg 0 31 _ := rg_le2 rc_0 hx2 c_3 (by decide)
      exact s_X9_change_52 h
    ·
      have h_5 : Rg (-1) (-1) _ := rg_lt1 hx2 rc_0 (nle32 c_3) (by decide)
      exact s_X9_change_40 hx1 (rg_w h_5 (by decide)) (rgl_w h_2 (by decide)) h
  ·
    exact s_X9_change_40 hx1 hx2 hx3 h
set_option maxRecDepth 100000 in
theorem s_X9_change {g : gh} {S : sh}  {x1 : Int32} {x2 : Int32} {x3 : Int64} {D : dt} (hx1 : Rg 0 3 x1) (hx2 : Rg (-1) 31 x2) (h : Inv g S D) : wp (f_X9_change S 28 x1 x2 x3 D) (fun q => RgL (-1) 0 q.1 ∧ Inv g S q.2) := by
  unfold f_X9_change
  refine wp_pqs (s_X9_in) (fun r145 q_r145 => ?_)
  obtain ⟨h_r145, x_r145⟩ := q_r145
  refine wp_if (fun c_1 => ?_) (fun c_1 => ?_)
  ·
    have h_2 : Rg 0 0 _ := rg_eq1 h_r145 rc_0 c_1 (by decide)
    exact s_X9_change_52 h
  ·
    have h_3 := x_r145 c_1
    have h_4 : RgL 0 2 _ := rgl_in (rgl_top _) rcl_0 rcl_2 h_3 (by decide)
    have h_5 : Rg 1 1 _ := rg_ne1 h_r145 rc_0 c_1 (by decide)
    refine wp_rq (iR_28_10 h) ?_
    refine wp_ix (in_rg hx1 (iA_36 h) (by decide)) ?_
    refine wp_if (fun c_6 => ?_) (fun c_6 => ?_)
    ·
      have h_7 : Rg 0 0 _ := rg_eq1 (iI_36 h _) rc_0 c_6 (by decide)
      refine wp_if (fun c_8 => ?_) (fun c_8 => ?_)
      ·
        have h_9 : RgL 1 1 _ := rgl_eq1 h_4 rcl_1 ((lg_cmp_eq _ _).mp c_8) (by decide)
        exact s_X9_change_52 h
      ·
        refine wp_if (fun c_10 => ?_) (fun c_10 => ?_)
        ·
          have h_11 : Rg (-1) (-1) _ := rg_lt1 hx2 rc_0 c_10 (by decide)
          exact s_X9_change_52 h
        ·
          have h_12 : Rg 0 31 _ := rg_le2 rc_0 hx2 (nlt32 c_10) (by decide)
          exact s_X9_change_30 hx1 (rg_w h_12 (by decide)) h_4 h
    ·
      have h_13 : Rg 1 1 _ := rg_ne1 (iI_36 h _) rc_0 c_6 (by decide)
      exact s_X9_change_30 hx1 hx2 h_4 h
set_option maxRecDepth 100000 in
theorem s_X9_call_357 {g : gh} {S : sh}  : ∀ (n : Nat) (x4 : Int32) (D : dt), Rg 1 6 x4 → 6 - x4.toInt < (n : Int) → Inv g S D → wp (f_X9_call_357 S n 28 x4 D) (fun q => Rg 0 1 q.1 ∧ Inv g S q.2) := by
  intro n
  induction n with
  | zero =>
    intro x4 D hx4 hm h
    exact (ms_0 hx4 (by decide) hm).elim
  | succ n ih =>
    intro x4 D hx4 hm h
    rw [f_X9_call_357.eq_2]
    refine wp_if (fun c_1 => ?_) (fun c_1 => ?_)
    ·
      have h_2 : Rg 6 6 _ := rg_le2 rc_6 hx4 c_1 (by decide)
      exact ⟨_, rfl, (rg_w rc_1 (by decide)), h⟩
    ·
      have h_3 : Rg 1 5 _ := rg_lt1 hx4 rc_6 (nle32 c_1) (by decide)
      refine wp_rq (iR_28_21 h) ?_
      refine wp_ix (in_rg h_3 (iA_43 h) (by decide)) ?_
      refine wp_nmI (fun D150 e_D150 => ?_)
      have h_D150 : Inv g S D150 := by rw [e_D150]; exact inv_l43 h
      refine wp_nmI (fun y151 e_y151 => ?_)
      have h_y151 : Rg 2 6 y151 := rg_eq e_y151 (rg_add h_3 rc_1 (by decide) : Rg 2 6 _)
      exact ih _ _ (rg_w h_y151 (by decide)) (by rw [e_y151]; exact ms_up h_3 (by decide) hm) h_D150
set_option maxRecDepth 100000 in
theorem s_X9_call_347 {g : gh} {S : sh}  {x2 : Int64} {D : dt}  (h : Inv g S D) : wp (f_X9_call_347 S 28 x2 D) (fun q => Rg 0 1 q.1 ∧ Inv g S q.2) := by
  unfold f_X9_call_347
  refine wp_rq (iR_28_21 h) ?_
  refine wp_ix (in_rg rc_0 (iA_43 h) (by decide)) ?_
  refine wp_nmI (fun D157 e_D157 => ?_)
  have h_D157 : Inv g S D157 := by rw [e_D157]; exact inv_l43 h
  refine wp_nmI (fun y158 e_y158 => ?_)
  have h_y158 : Rg 1 1 y158 := rg_eq e_y158 rc_1
  exact s_X9_call_357  LF _ _ (rg_w h_y158 (by decide)) (ms_in h_y158 (by decide)) h_D157
set_option maxRecDepth 100000 in
theorem s_X9_call_346 {g : gh} {S : sh}  {xs0 : Int64} {D : dt} (hxs0 : RgL (-1) 0 xs0) (h : Inv g S D) : wp (f_X9_call_346 S 28 xs0 D) (fun q => Rg 0 1 q.1 ∧ Inv g S q.2) := by
  unfold f_X9_call_346
  exact s_X9_call_347 h
set_option maxRecDepth 100000 in
theorem s_X9_call_334 {g : gh} {S : sh}  {x6 : Int32} {D : dt} (hx6 : Rg 0 1 x6) (h : Inv g S D) : wp (f_X9_call_334 S 28 x6 D) (fun q => Rg 0 1 q.1 ∧ Inv g S q.2) := by
  unfold f_X9_call_334
  refine wp_if (fun c_1 => ?_) (fun c_1 => ?_)
  ·
    have h_2 : Rg 0 0 _ := rg_eq1 hx6 rc_0 c_1 (by decide)
    exact s_X9_call_346 (rgl_w rcl_m1 (by decide)) h
  ·
    have h_3 : Rg 1 1 _ := rg_ne1 hx6 rc_0 c_1 (by decide)
    exact s_X9_call_346 (rgl_w rcl_0 (by decide)) h
set_option maxRecDepth 100000 in
theorem s_X9_call_313 {g : gh} {S : sh}  {x4 : Int32} {x5 : Int32} {xs0 : Int32} {D : dt} (hx4 : Rg 0 3 x4) (hx5 : Rg (-1) 31 x5) (hxs0 : Rg 0 1 xs0) (hc : (xs0 ≠ 0 → Rg 0 31 x5)) (h : Inv g S D) : wp (f_X9_call_313 S 28 x4 x5 xs0 D) (fun q => Rg 0 1 q.1 ∧ Inv g S q.2) := by
  unfold f_X9_call_313
  refine wp_if (fun c_1 => ?_) (fun c_1 => ?_)
  ·
    have h_2 : Rg 0 0 _ := rg_eq1 hxs0 rc_0 c_1 (by decide)
    exact s_X9_call_334 (rg_w h_2 (by decide)) h
  ·
    have h_3 : Rg 1 1 _ := rg_ne1 hxs0 rc_0 c_1 (by decide)
    refine wp_rq (iR_28_15 h) ?_
    refine wp_ix (in_rg (rg_add (rg_mul rc_32 hx4 (by decide) : Rg 0 96 _) (hc c_1) (by decide) : Rg 0 127 _) (iA_41 h) (by decide)) ?_
    refine wp_nmI (fun D166 e_D166 => ?_)
    have h_D166 : Inv g S D166 := by rw [e_D166]; exact inv_i41 h (rg_top _)
    exact s_X9_call_334 (rg_w h_3 (by decide)) h_D166
set_option maxRecDepth 100000 in
theorem s_X9_call_312 {g : gh} {S : sh}  {x4 : Int32} {x5 : Int32} {D : dt} (hx4 : Rg 0 3 x4) (hx5 : Rg (-1) 31 x5) (h : Inv g S D) : wp (f_X9_call_312 S 28 x4 x5 D) (fun q => Rg 0 1 q.1 ∧ Inv g S q.2) := by
  unfold f_X9_call_312
  exact s_X9_call_313 hx4 hx5 (rg_w rc_0 (by decide)) (by first | exact hc | exact (fun ne => absurd rfl ne)) h
set_option maxRecDepth 100000 in
theorem s_X9_call_265 {g : gh} {S : sh}  {xs0 : Int64} {D : dt}  (h : Inv g S D) : wp (f_X9_call_265 S 28 xs0 D) (fun q => Rg 0 1 q.1 ∧ Inv g S q.2) := by
  unfold f_X9_call_265
  exact s_X9_call_347 h
set_option maxRecDepth 100000 in
theorem s_X9_call_226 {g : gh} {S : sh}  {x1 : Int32} {x4 : Int32} {D : dt} (hx1 : Rg (-2147483648) 3 x1) (hx4 : Rg 0 3 x4) (h : Inv g S D) : wp (f_X9_call_226 S 28 x1 x4 D) (fun q => Rg 0 1 q.1 ∧ Inv g S q.2) := by
  unfold f_X9_call_226
  refine wp_pqs (s_X9_find hx4 h) (fun r168 h_r168 => ?_)
  refine wp_if (fun c_1 => ?_) (fun c_1 => ?_)
  ·
    have h_2 : Rg 1 1 _ := rg_eq1 hx1 rc_1 c_1 (by decide)
    refine wp_if (fun c_3 => ?_) (fun c_3 => ?_)
    ·
      have h_4 : Rg 0 31 _ := rg_le2 rc_0 h_r168 c_3 (by decide)
      exact s_X9_call_265 h
    ·
      have h_5 : Rg (-1) (-1) _ := rg_lt1 h_r168 rc_0 (nle32 c_3) (by decide)
      exact s_X9_call_265 h
  ·
    refine wp_if (fun c_6 => ?_) (fun c_6 => ?_)
    ·
      have h_7 : Rg 2 2 _ := rg_eq1 hx1 rc_2 c_6 (by decide)
      refine wp_rq (iR_28_21 h) ?_
      refine wp_ix (in_rg rc_4 (iA_43 h) (by decide)) ?_
      refine wp_cqs (s_X9_change hx4 h_r168 h) (fun r184 D185 q_r184 => ?_)
      obtain ⟨h_r184, h_D185⟩ := q_r184
      exact s_X9_call_347 h_D185
    ·
      refine wp_rq (iR_28_10 h) ?_
      refine wp_ix (in_rg hx4 (iA_36 h) (by decide)) ?_
      refine wp_if (fun c_8 => ?_) (fun c_8 => ?_)
      ·
        have h_9 : Rg 1 1 _ := rg_eq1 (iI_36 h _) rc_1 c_8 (by decide)
        refine wp_if (fun c_10 => ?_) (fun c_10 => ?_)
        ·
          have h_11 : Rg (-1) (-1) _ := rg_lt1 h_r168 rc_0 c_10 (by decide)
          exact s_X9_call_312 hx4 (rg_w h_11 (by decide)) h
        ·
          have h_12 : Rg 0 31 _ := rg_le2 rc_0 h_r168 (nlt32 c_10) (by decide)
          exact s_X9_call_313 hx4 (rg_w h_12 (by decide)) (rg_w rc_1 (by decide)) (fun _ => rg_le2 rc_0 h_r168 (nlt32 c_10) (by decide)) h
      ·
        have h_13 : Rg 0 0 _ := rg_ne1 (iI_36 h _) rc_1 c_8 (by decide)
        exact s_X9_call_312 hx4 h_r168 h
theorem q_call_182 {g : gh} {S : sh} {x1 x4 : Int32} (hx4 : Rg 0 3 x4) (hx1 : Rg (-2147483648) 3 x1) : ∀ (n : Nat) (x5 : Int32) (D : dt), Rg 0 32 x5 → 32 - x5.toInt < n → (x1 = 2 → ThR D (gL D 43 3).toInt (gI D 38 x4.toNatClampNeg).toInt) → Inv g S D → wp (f_X9_call_182 S n 28 x1 x4 x5 D) (fun q => Rg 0 1 q.1 ∧ Inv g S q.2) := by
  intro n
  induction n with
  | zero =>
    intro x5 D hx hn hv h
    exact (ms_0 hx (by decide) hn).elim
  | succ n ih =>
    intro x5 D hx hn hv h
    rw [f_X9_call_182.eq_2]
    have m := (iI_38 h x4.toNatClampNeg).2
    refine wp_rq (iR_28_12 h) (wp_ix (in_rg hx4 (iA_38 h) (by decide)) (wp_if (fun _ => s_X9_call_226 hx1 hx4 h) (fun c => wp_if (fun c2 => ?_) (fun _ => s_X9_call_226 hx1 hx4 h))))
    have lt := Int32.lt_iff_toInt_lt.mp (nle32 c)
    have hx' : Rg 0 31 x5 := ⟨hx.1, by omega⟩
    have e : (gL D 43 (3 : Int32).toNatClampNeg + x5.toInt64).toInt = (gL D 43 3).toInt + x5.toInt := ad_k (iF_28_9 h).2 (hv c2) hx'.1 lt m
    refine wp_rq (iR_28_24 h) (wp_rq (iR_28_21 h) (wp_ix (in_rg (by decide : Rg 3 3 (3 : Int32)) (iA_43 h) (by decide)) (wp_pqs (s_X9_octetAt (by rw [e]; exact (hv c2).sub hx'.1 lt) h) (fun r pr => wp_ix (in_rg hx' (iA_45 h) (by decide)) (wp_nmI (fun D1 e1 => wp_nmI (fun y ey => ?_)))))))
    have h1 : Inv g S D1 := by rw [e1]; exact inv_i45 h pr
    refine ih y D1 (rg_eq ey (rg_add hx' (by decide : Rg 1 1 (1 : Int32)) (by decide))) (by rw [ey]; exact ms_up hx' (by decide) hn) (fun q => ?_) h1
    have g1 : gI D1 28 9 = gI D 28 9 := by rw [e1, gI_pI, if_neg (fun q => by omega)]
    have g2 : gI D1 38 x4.toNatClampNeg = gI D 38 x4.toNatClampNeg := by rw [e1, gI_pI, if_neg (fun q => by omega)]
    have g3 : gL D1 43 3 = gL D 43 3 := by rw [e1, gL_pI]
    rw [g2, g3]
    exact (hv q).same g1
theorem q_call_140 {g : gh} {S : sh} {x1 x4 : Int32} (hx4 : Rg 0 3 x4) (hx1 : Rg (-2147483648) 3 x1) : ∀ (n : Nat) (x5 : Int32) (D : dt), Rg 0 8 x5 → 8 - x5.toInt < n → ThR D (gL D 43 2).toInt (gI D 37 x4.toNatClampNeg).toInt → (x1 = 2 → ThR D (gL D 43 3).toInt (gI D 38 x4.toNatClampNeg).toInt) → Inv g S D → wp (f_X9_call_140 S n 28 x1 x4 x5 D) (fun q => Rg 0 1 q.1 ∧ Inv g S q.2) := by
  intro n
  induction n with
  | zero =>
    intro x5 D hx hn hk hv h
    exact (ms_0 hx (by decide) hn).elim
  | succ n ih =>
    intro x5 D hx hn hk hv h
    rw [f_X9_call_140.eq_2]
    have m := (iI_37 h x4.toNatClampNeg).2
    refine wp_rq (iR_28_11 h) (wp_ix (in_rg hx4 (iA_37 h) (by decide)) (wp_if (fun _ => wp_nmI (fun y ey => ?_)) (fun c => ?_)))
    · subst ey
      exact q_call_182 hx4 hx1 LF 0 D (by decide) (by decide) hv h
    have lt := Int32.lt_iff_toInt_lt.mp (nle32 c)
    have hx' : Rg 0 7 x5 := ⟨hx.1, by omega⟩
    have e : (gL D 43 (2 : Int32).toNatClampNeg + x5.toInt64).toInt = (gL D 43 2).toInt + x5.toInt := ad_k (iF_28_9 h).2 hk hx'.1 lt (by omega)
    refine wp_rq (iR_28_25 h) (wp_rq (iR_28_21 h) (wp_ix (in_rg (by decide : Rg 2 2 (2 : Int32)) (iA_43 h) (by decide)) (wp_pqs (s_X9_octetAt (by rw [e]; exact hk.sub hx'.1 lt) h) (fun r pr => wp_ix (in_rg hx' (iA_46 h) (by decide)) (wp_nmI (fun D1 e1 => wp_nmI (fun y ey => ?_)))))))
    have h1 : Inv g S D1 := by rw [e1]; exact inv_i46 h pr
    have g1 : gI D1 28 9 = gI D 28 9 := by rw [e1, gI_pI, if_neg (fun q => by omega)]
    have g2 : gI D1 38 x4.toNatClampNeg = gI D 38 x4.toNatClampNeg := by rw [e1, gI_pI, if_neg (fun q => by omega)]
    have g4 : gI D1 37 x4.toNatClampNeg = gI D 37 x4.toNatClampNeg := by rw [e1, gI_pI, if_neg (fun q => by omega)]
    have g3 : ∀ j, gL D1 43 j = gL D 43 j := fun j => by rw [e1, gL_pI]
    refine ih y D1 (rg_eq ey (rg_add hx' (by decide : Rg 1 1 (1 : Int32)) (by decide))) (by rw [ey]; exact ms_up hx' (by decide) hn) ?_ (fun q => ?_) h1
    · rw [g4, g3]
      exact hk.same g1
    · rw [g2, g3]
      exact (hv q).same g1
def pgg (g : gh) : gh := (fun n => if n = 6 then g.1 6 + 1 else g.1 n, g.2)
theorem Inv.pg {g : gh} {S : sh} {D : dt} (h : Inv g S D) (hb : g.1 6 < 1073741824) : Inv (pgg g) S D := by
  obtain ⟨a1, a2, a3, a4, a5, a6, ⟨b1, b2, b3, b4, b5, b6, b7⟩, a8, a9, a10, a11⟩ := h
  refine ⟨a1, fun o j ho => ?_, a3, a4, a5, a6, ⟨b1, b2, b3, b4, b5, b6, ?_⟩, a8, a9, a10, a11⟩
  · by_cases e : o = 28 ∧ j = 22
    · obtain ⟨rfl, rfl⟩ := e
      have q := a2 28 22 ho
      have q : Rg 0 (g.1 6) (gI D 28 22) := q
      show Rg 0 (g.1 6 + 1) (gI D 28 22)
      exact ⟨q.1, by have := q.2; omega⟩
    · have q := a2 o j ho
      have eb : bI (pgg g) o j = bI g o j := by
        unfold bI
        split <;> first
          | rfl
          | (split <;> first
              | rfl
              | exact absurd ⟨rfl, rfl⟩ e)
      rw [eb]
      exact q
  · show 0 ≤ g.1 6 + 1 ∧ g.1 6 + 1 ≤ 1073741824
    omega
theorem q_call {g : gh} {S : sh} {x1 : Int32} {D : dt} (hb : g.1 6 < 1073741824) (h : Inv g S D) : wp (f_X9_call S 28 x1 D) (fun q => Rg 0 1 q.1 ∧ Inv (pgg g) S q.2) := by
  have hp := h.pg hb
  unfold f_X9_call
  refine wp_nmI (fun y ey => wp_if (fun _ => ?_) (fun _ => wp_if (fun _ => ?_) (fun c4 => ?_)))
  · have pm : Rg 0 1073741824 (gI D 28 22) := iF_28_22 h
    have ix32 : vp_in (gI D 28 22 - gI D 28 22 / 32 * 32) (sA S 44) := by
      rw [vp_in_iff, rem32, iA_44 h]
      obtain ⟨t1, t2, t3, t4, t5⟩ := tmod_s (gI D 28 22).toInt
      have := t1 pm.1
      omega
    refine wp_rq (iR_28_23 h) (wp_rq (iR_28_21 h) (wp_ix (in_rg (by decide : Rg 1 1 (1 : Int32)) (iA_43 h) (by decide)) (wp_ix ix32 (wp_nmI (fun D1 e1 => wp_nmI (fun D2 e2 => wp_nmI (fun z _ => ?_)))))))
    have h1 : Inv g S D1 := by rw [e1]; exact inv_l44 h
    have b1 : Rg 0 (g.1 6) (gI D1 28 22) := h1.i 28 22 (by decide)
    have h2 : Inv (pgg g) S D2 := by
      rw [e2]
      refine inv_i28 (h1.pg hb) (Or.inl (by decide)) ?_
      show Rg 0 (g.1 6 + 1) _
      have e := i32_add (x := gI D1 28 22) (y := 1) (c := 1) (d := 1) (iF_28_22 h1) (by decide) (by decide)
      have q := b1.2
      have q0 := b1.1
      exact ⟨by rw [e]; have : (1 : Int32).toInt = 1 := rfl; omega, by rw [e]; have : (1 : Int32).toInt = 1 := rfl; omega⟩
    exact s_X9_call_347 h2
  · exact s_X9_call_347 hp
  · have hx1 : Rg (-2147483648) 3 x1 := rg_lt1 (rg_top _) (by decide : Rg 4 4 (4 : Int32)) (nle32 c4) (by decide)
    have no : wp (some ((0 : Int32), D)) (fun q => Rg 0 1 q.1 ∧ Inv (pgg g) S q.2) := ⟨_, rfl, r01_0, hp⟩
    have one := in_rg (by decide : Rg 1 1 (1 : Int32)) (iA_43 h) (by decide)
    have tb := iF_28_9 h
    refine wp_rq (iR_28_21 h) (wp_ix one (wp_nmI (fun t et => wp_rq (iR_28_21 h) (wp_ix one (wp_pqs s_X9_in (fun r p => wp_if (fun _ => no) (fun c => ?_)))))))
    have q := p.2 c
    have l : (17179869184 : Int64).toInt = 17179869184 := rfl
    have l1 : (1 : Int64).toInt = 1 := rfl
    have tb1 := tb.1
    have tb2 := tb.2
    have eh : ((17179869184 : Int64) + (gI D 28 9).toInt64 - 1).toInt = 17179869184 + (gI D 28 9).toInt - 1 := by
      rw [Int64.toInt_sub, Int64.toInt_add, Int32.toInt_toInt64, l, l1, bm64 (n := 17179869184 + (gI D 28 9).toInt) (by omega) (by omega)]
      exact bm64 (by omega) (by omega)
    rw [eh, l] at q
    have es : (gL D 43 (1 : Int32).toNatClampNeg - 17179869184).toInt = (gL D 43 (1 : Int32).toNatClampNeg).toInt - 17179869184 := by
      rw [Int64.toInt_sub, l]
      exact bm64 (by omega) (by omega)
    have rt : Rg 0 3 t := by
      rw [et]
      exact rg_of (a := 0) (b := 3) ⟨by omega, by omega⟩ (by decide)
    refine wp_rq (iR_28_21 h) (wp_ix (in_rg (by decide : Rg 2 2 (2 : Int32)) (iA_43 h) (by decide)) (wp_rq (iR_28_11 h) (wp_ix (in_rg rt (iA_37 h) (by decide)) (wp_pqs (s_X9_isThere (rg_w (iI_37 h _) (by decide)) (by decide) h) (fun r1 p1 => wp_if (fun _ => no) (fun c1 => ?_))))))
    have k1 := (p1.2 c1).1
    have go : (x1 = 2 → ThR D (gL D 43 3).toInt (gI D 38 t.toNatClampNeg).toInt) → wp (f_X9_call_137 S 28 x1 t D) (fun q => Rg 0 1 q.1 ∧ Inv (pgg g) S q.2) := fun hv => by
      unfold f_X9_call_137
      refine wp_nmI (fun y ey => ?_)
      subst ey
      exact q_call_140 rt hx1 LF 0 D (by decide) (by decide) k1 hv hp
    exact wp_if (fun c2 => wp_rq (iR_28_21 h) (wp_ix (in_rg (by decide : Rg 3 3 (3 : Int32)) (iA_43 h) (by decide)) (wp_rq (iR_28_12 h) (wp_ix (in_rg rt (iA_38 h) (by decide)) (wp_pqs (s_X9_isThere (rg_w (iI_38 h _) (by decide)) (by decide) h) (fun r2 p2 => wp_if (fun _ => no) (fun c3 => go (fun _ => (p2.2 c3).1)))))))) (fun n2 => go (fun e => absurd e n2))
set_option maxRecDepth 100000 in
theorem s_X9_start_56 {g : gh} {S : sh}  : ∀ (n : Nat) (x1 : Int32) (D : dt), Rg 0 512 x1 → 512 - x1.toInt < (n : Int) → Inv g S D → wp (f_X9_start_56 S n 28 x1 D) (fun q => Rg 1 1 q.1 ∧ Inv g S q.2) := by
  intro n
  induction n with
  | zero =>
    intro x1 D hx1 hm h
    exact (ms_0 hx1 (by decide) hm).elim
  | succ n ih =>
    intro x1 D hx1 hm h
    rw [f_X9_start_56.eq_2]
    refine wp_if (fun c_1 => ?_) (fun c_1 => ?_)
    ·
      have h_2 : Rg 512 512 _ := rg_le2 rc_512 hx1 c_1 (by decide)
      refine wp_nmI (fun D27 e_D27 => ?_)
      have h_D27 : Inv g S D27 := by rw [e_D27]; exact inv_i28 h (Or.inl (by decide)) (rg_top _)
      refine wp_nmI (fun D28 e_D28 => ?_)
      have h_D28 : Inv g S D28 := by rw [e_D28]; exact inv_i28 h_D27 (Or.inl (by decide)) (rg_top _)
      refine wp_nmI (fun D29 e_D29 => ?_)
      have h_D29 : Inv g S D29 := by rw [e_D29]; exact inv_i28 h_D28 (Or.inl (by decide)) (show Rg 0 (g.1 6) (0 : Int32) from ⟨by decide, h_D28.gg.2.2.2.2.2.2.1⟩)
      refine wp_nmI (fun D30 e_D30 => ?_)
      have h_D30 : Inv g S D30 := by rw [e_D30]; exact inv_i28 h_D29 (Or.inl (by decide)) (rg_top _)
      exact ⟨_, rfl, rc_1, h_D30⟩
    ·
      have h_3 : Rg 0 511 _ := rg_lt1 hx1 rc_512 (nle32 c_1) (by decide)
      refine wp_rq (iR_28_8 h) ?_
      refine wp_ix (in_rg h_3 (iA_35 h) (by decide)) ?_
      refine wp_nmI (fun D36 e_D36 => ?_)
      have h_D36 : Inv g S D36 := by rw [e_D36]; exact inv_i35 h (show Rg 0 255 _ from (rg_w rc_0 (by decide)))
      refine wp_nmI (fun y37 e_y37 => ?_)
      have h_y37 : Rg 1 512 y37 := rg_eq e_y37 (rg_add h_3 rc_1 (by decide) : Rg 1 512 _)
      exact ih _ _ (rg_w h_y37 (by decide)) (by rw [e_y37]; exact ms_up h_3 (by decide) hm) h_D36
set_option maxRecDepth 100000 in
theorem s_X9_start_47 {g : gh} {S : sh} {k12 : Nat → Int32 → dt → Option (Int32 × dt)} {n12 : Nat} (hk12 : ∀ (x1 : Int32) (D : dt), Rg 0 11 x1 → 11 - x1.toInt < (n12 : Int) → Inv g S D → wp (k12 28 x1 D) (fun q => Rg 1 1 q.1 ∧ Inv g S q.2)) {x1 : Int32} {xs1 : Int32} {xs2 : Int64} {D : dt} (hx1 : Rg 0 10 x1) (hxs1 : Rg 0 10 xs1) (hxs2 : RgL 0 8589934592 xs2) (hxs1_c_x1 : (xs1 ≠ 0 → Rg 1 10 x1)) (hm12 : 11 - x1.toInt < ((n12 + 1 : Nat) : Int)) (h : Inv g S D) : wp (f_X9_start_47 S k12 28 x1 43 xs1 xs2 D) (fun q => Rg 1 1 q.1 ∧ Inv g S q.2) := by
  unfold f_X9_start_47
  refine wp_ix (in_rg hxs1 (iA_43 h) (by decide)) ?_
  refine wp_nmI (fun D39 e_D39 => ?_)
  have h_D39 : Inv g S D39 := by rw [e_D39]; exact inv_l43 h
  refine wp_nmI (fun y40 e_y40 => ?_)
  have h_y40 : Rg 1 11 y40 := rg_eq e_y40 (rg_add hx1 rc_1 (by decide) : Rg 1 11 _)
  exact hk12 _ _ (rg_w h_y40 (by decide)) (by rw [e_y40]; exact ms_up hx1 (by decide) hm12) h_D39
set_option maxRecDepth 100000 in
theorem s_X9_start_12 {g : gh} {S : sh}  : ∀ (n : Nat) (x1 : Int32) (D : dt), Rg 0 11 x1 → 11 - x1.toInt < (n : Int) → Inv g S D → wp (f_X9_start_12 S n 28 x1 D) (fun q => Rg 1 1 q.1 ∧ Inv g S q.2) := by
  intro n
  induction n with
  | zero =>
    intro x1 D hx1 hm h
    exact (ms_0 hx1 (by decide) hm).elim
  | succ n ih =>
    intro x1 D hx1 hm h
    rw [f_X9_start_12.eq_2]
    refine wp_if (fun c_1 => ?_) (fun c_1 => ?_)
    ·
      have h_2 : Rg 11 11 _ := rg_le2 rc_11 hx1 c_1 (by decide)
      refine wp_nmI (fun y42 e_y42 => ?_)
      have h_y42 : Rg 0 0 y42 := rg_eq e_y42 rc_0
      exact s_X9_start_56  LF _ _ (rg_w h_y42 (by decide)) (ms_in h_y42 (by decide)) h
    ·
      have h_3 : Rg 0 10 _ := rg_lt1 hx1 rc_11 (nle32 c_1) (by decide)
      refine wp_rq (iR_28_21 h) ?_
      refine wp_if (fun c_4 => ?_) (fun c_4 => ?_)
      ·
        have h_5 : Rg 1 1 _ := rg_eq1 h_3 rc_1 c_4 (by decide)
        exact s_X9_start_47 ih (rg_w h_5 (by decide)) (rg_w h_5 (by decide)) (rgl_w rcl_4294967296 (by decide)) (fun ne => by exact (rg_w h_5 (by decide))) hm h
      ·
        refine wp_if (fun c_6 => ?_) (fun c_6 => ?_)
        ·
          have h_7 : Rg 10 10 _ := rg_eq1 h_3 rc_10 c_6 (by decide)
          exact s_X9_start_47 ih (rg_w h_7 (by decide)) (rg_w h_7 (by decide)) (rgl_w rcl_8589934592 (by decide)) (fun ne => by exact (rg_w h_7 (by decide))) hm h
        ·
          have h_8 : Rg 0 9 _ := rg_ne1 h_3 rc_10 c_6 (by decide)
          exact s_X9_start_47 ih (rg_w h_8 (by decide)) (rg_w h_8 (by decide)) (rgl_w rcl_0 (by decide)) (fun ne => by have h_9 : Rg 1 9 _ := rg_ne1 h_8 rc_0 ne (by decide); exact (rg_w h_9 (by decide))) hm h
theorem q_start9 {g : gh} {S : sh} {D : dt} (h : Inv g S D) : wp (f_X9_start S 28 D) (fun q => stT (g.1 2) q.1 ∧ Inv g S q.2) := by
  unfold f_X9_start
  have ec := iG_28_0 h
  have l0 : (0 : Int32).toInt = 0 := rfl
  refine wp_if (fun c => ⟨_, rfl, ⟨fun _ => rfl, fun n => ?_⟩, h⟩) (fun c => wp_nmI (fun y ey => ?_))
  · rw [c] at ec
    omega
  · subst ey
    refine wp_mono (s_X9_start_12 LF _ _ (by decide) (by decide) h) (fun q p => ⟨⟨fun e => absurd (Int32.toInt_inj.mp (by omega)) c, fun _ => ?_⟩, p.2⟩)
    have a := p.1.1
    have b := p.1.2
    have l1 : (1 : Int32).toInt = 1 := rfl
    exact Int32.toInt_inj.mp (by omega)

set_option maxRecDepth 100000 in
theorem s_X9_load_71 {g : gh} {S : sh}  {xs1 : Int32} {xs2 : Int64} {D : dt} (hxs1 : Rg 0 10 xs1) (h : Inv g S D) : wp (f_X9_load_71 S 43 xs1 xs2 D) (fun q => Rg 0 1 q.1 ∧ Inv g S q.2) := by
  unfold f_X9_load_71
  refine wp_ix (in_rg hxs1 (iA_43 h) (by decide)) ?_
  refine wp_nmI (fun D37 e_D37 => ?_)
  have h_D37 : Inv g S D37 := by rw [e_D37]; exact inv_l43 h
  exact ⟨_, rfl, (rg_w rc_1 (by decide)), h_D37⟩
set_option maxRecDepth 100000 in
theorem s_X9_load {g : gh} {S : sh}  {x1 : Int32} {x2 : Int32} {x3 : Int32} {D : dt} (hx1 : Rg 0 199 x1) (hx2 : Rg 1 8 x2) (hx3 : Rg 0 1 x3) (h30_x1 : Rg 0 10 (g.2 30 x1.toNatClampNeg)) (h31_x1 : Rg 0 10 (g.2 31 x1.toNatClampNeg)) (h : Inv g S D) : wp (f_X9_load S 28 x1 x2 x3 D) (fun q => Rg 0 1 q.1 ∧ Inv g S q.2) := by
  unfold f_X9_load
  refine wp_rq (iR_28_21 h) ?_
  refine wp_rq (iR_28_3 h) ?_
  refine wp_ix (in_rg hx1 (iA_31 h) (by decide)) ?_
  refine wp_ix (in_rg (rg_eq (h.p 31 _ rfl) h31_x1) (iA_43 h) (by decide)) ?_
  refine wp_rq (iR_28_4 h) ?_
  refine wp_ix (in_rg hx1 (iA_32 h) (by decide)) ?_
  refine wp_nmI (fun y53 e_y53 => ?_)
  refine wp_pqs (s_X9_isThere (rg_w hx2 (by decide)) (rg_w rc_0 (by decide)) h) (fun r55 q_r55 => ?_)
  obtain ⟨h_r55, p_r55⟩ := q_r55
  refine wp_if (fun c_1 => ?_) (fun c_1 => ?_)
  ·
    have h_2 : Rg 0 0 _ := rg_eq1 h_r55 rc_0 c_1 (by decide)
    exact ⟨_, rfl, (rg_w rc_0 (by decide)), h⟩
  ·
    have h_3 : Rg 1 1 _ := rg_ne1 h_r55 rc_0 c_1 (by decide)
    refine wp_pqs (s_X9_numberAt hx2 (p_r55 c_1).1 h) (fun r58 _ => ?_)
    refine wp_rq (iR_28_21 h) ?_
    refine wp_rq (iR_28_2 h) ?_
    refine wp_ix (in_rg hx1 (iA_30 h) (by decide)) ?_
    refine wp_if (fun c_4 => ?_) (fun c_4 => ?_)
    ·
      have h_5 : Rg 0 0 _ := rg_eq1 hx3 rc_0 c_4 (by decide)
      exact s_X9_load_71 (rg_eq (h.p 30 _ rfl) h30_x1) h
    ·
      have h_6 : Rg 1 1 _ := rg_ne1 hx3 rc_0 c_4 (by decide)
      refine wp_pqs (s_X9_signed (rg_w (rg_mul rc_8 hx2 (by decide) : Rg 8 64 _) (by decide))) (fun r70 _ => ?_)
      exact s_X9_load_71 (rg_eq (h.p 30 _ rfl) h30_x1) h
set_option maxRecDepth 100000 in
theorem s_X9_put {g : gh} {S : sh}  {x1 : Int32} {x2 : Int32} {x3 : Int64} {D : dt} (hx1 : Rg 0 199 x1) (hx2 : Rg 1 8 x2) (h30_x1 : Rg 0 10 (g.2 30 x1.toNatClampNeg)) (h31_x1 : Rg 0 10 (g.2 31 x1.toNatClampNeg)) (h : Inv g S D) : wp (f_X9_put S 28 x1 x2 x3 D) (fun q => Rg 0 1 q.1 ∧ Inv g S q.2) := by
  unfold f_X9_put
  refine wp_rq (iR_28_21 h) ?_
  refine wp_rq (iR_28_2 h) ?_
  refine wp_ix (in_rg hx1 (iA_30 h) (by decide)) ?_
  refine wp_ix (in_rg (rg_eq (h.p 30 _ rfl) h30_x1) (iA_43 h) (by decide)) ?_
  refine wp_rq (iR_28_4 h) ?_
  refine wp_ix (in_rg hx1 (iA_32 h) (by decide)) ?_
  refine wp_nmI (fun y37 e_y37 => ?_)
  refine wp_pqs (s_X9_isThere (rg_w hx2 (by decide)) (rg_w rc_1 (by decide)) h) (fun r39 q_r39 => ?_)
  obtain ⟨h_r39, p_r39⟩ := q_r39
  refine wp_if (fun c_1 => ?_) (fun c_1 => ?_)
  ·
    have h_2 : Rg 0 0 _ := rg_eq1 h_r39 rc_0 c_1 (by decide)
    exact ⟨_, rfl, (rg_w rc_0 (by decide)), h⟩
  ·
    have h_3 : Rg 1 1 _ := rg_ne1 h_r39 rc_0 c_1 (by decide)
    refine wp_cqs (s_X9_setNumber hx2 ((p_r39 c_1).2 (by decide)) h) (fun _ D42 h_D42 => ?_)
    exact ⟨_, rfl, (rg_w rc_1 (by decide)), h_D42⟩
set_option maxRecDepth 100000 in
theorem s_X9_both_193 {g : gh} {S : sh}  {x1 : Int32} {x5 : Int64} {x9 : Int32} {xs1 : Int64} {xs2 : Int32} {xs3 : Int64} {D : dt} (hx1 : Rg 0 199 x1) (hxs2 : Rg 4 8 xs2) (h30_x1 : Rg 0 10 (g.2 30 x1.toNatClampNeg)) (h31_x1 : Rg 0 10 (g.2 31 x1.toNatClampNeg)) (hth : ThW D xs1.toInt xs2.toInt) (h : Inv g S D) : wp (f_X9_both_193 S 28 x1 x5 x9 28 xs1 xs2 xs3 D) (fun q => Rg 0 1 q.1 ∧ Inv g S q.2) := by
  unfold f_X9_both_193
  refine wp_cqs (s_X9_setNumber (rg_w hxs2 (by decide)) (by first | exact hth | exact (fun ne => absurd rfl ne)) h) (fun _ D80 h_D80 => ?_)
  refine wp_if (fun c_1 => ?_) (fun c_1 => ?_)
  ·
    have h_2 : Rg 1 1 _ := rg_eq1 (rg_andr _ (by decide) : Rg 0 1 _) rc_1 c_1 (by decide)
    refine wp_rq (iR_28_21 h_D80) ?_
    refine wp_rq (iR_28_3 h_D80) ?_
    refine wp_ix (in_rg hx1 (iA_31 h_D80) (by decide)) ?_
    refine wp_ix (in_rg (rg_eq (h_D80.p 31 _ rfl) h31_x1) (iA_43 h_D80) (by decide)) ?_
    refine wp_nmI (fun D92 e_D92 => ?_)
    have h_D92 : Inv g S D92 := by rw [e_D92]; exact inv_l43 h_D80
    exact ⟨_, rfl, (rg_w rc_1 (by decide)), h_D92⟩
  ·
    have h_3 : Rg 0 0 _ := rg_ne1 (rg_andr _ (by decide) : Rg 0 1 _) rc_1 c_1 (by decide)
    exact ⟨_, rfl, (rg_w rc_1 (by decide)), h_D80⟩
set_option maxRecDepth 100000 in
theorem s_X9_both_112 {g : gh} {S : sh}  {x5 : Int64} {D : dt}  (h : Inv g S D) : wp (f_X9_both_112 S 28 x5 D) (fun q => Rg 0 1 q.1 ∧ Inv g S q.2) := by
  unfold f_X9_both_112
  refine wp_rq (iR_28_21 h) ?_
  refine wp_ix (in_rg rc_0 (iA_43 h) (by decide)) ?_
  refine wp_nmI (fun D98 e_D98 => ?_)
  have h_D98 : Inv g S D98 := by rw [e_D98]; exact inv_l43 h
  exact ⟨_, rfl, (rg_w rc_1 (by decide)), h_D98⟩
set_option maxRecDepth 100000 in
theorem s_X9_both_94 {g : gh} {S : sh}  {x2 : Int32} {x3 : Int64} {x5 : Int64} {x7 : Int64} {xs0 : Int64} {D : dt} (hx2 : Rg 4 8 x2) (hth : ThW D x3.toInt x2.toInt) (h : Inv g S D) : wp (f_X9_both_94 S 28 x2 x3 x5 x7 xs0 D) (fun q => Rg 0 1 q.1 ∧ Inv g S q.2) := by
  unfold f_X9_both_94
  refine wp_if (fun c_1 => ?_) (fun c_1 => ?_)
  ·
    refine wp_cqs (s_X9_setNumber (rg_w hx2 (by decide)) (by first | exact hth | exact (fun ne => absurd rfl ne)) h) (fun _ D101 h_D101 => ?_)
    exact s_X9_both_112 h_D101
  ·
    exact s_X9_both_112 h
set_option maxRecDepth 100000 in
theorem s_X9_both {g : gh} {S : sh}  {x1 : Int32} {x2 : Int32} {D : dt} (hx1 : Rg 0 199 x1) (hx2 : Rg 4 8 x2) (h30_x1 : Rg 0 10 (g.2 30 x1.toNatClampNeg)) (h31_x1 : Rg 0 10 (g.2 31 x1.toNatClampNeg)) (h : Inv g S D) : wp (f_X9_both S 28 x1 x2 D) (fun q => Rg 0 1 q.1 ∧ Inv g S q.2) := by
  unfold f_X9_both
  refine wp_rq (iR_28_21 h) ?_
  refine wp_rq (iR_28_2 h) ?_
  refine wp_ix (in_rg hx1 (iA_30 h) (by decide)) ?_
  refine wp_ix (in_rg (rg_eq (h.p 30 _ rfl) h30_x1) (iA_43 h) (by decide)) ?_
  refine wp_rq (iR_28_4 h) ?_
  refine wp_ix (in_rg hx1 (iA_32 h) (by decide)) ?_
  refine wp_nmI (fun y117 e_y117 => ?_)
  refine wp_pqs (s_X9_isThere (rg_w hx2 (by decide)) (rg_w rc_1 (by decide)) h) (fun r119 q_r119 => ?_)
  obtain ⟨h_r119, p_r119⟩ := q_r119
  refine wp_if (fun c_1 => ?_) (fun c_1 => ?_)
  ·
    have h_2 : Rg 0 0 _ := rg_eq1 h_r119 rc_0 c_1 (by decide)
    exact ⟨_, rfl, (rg_w rc_0 (by decide)), h⟩
  ·
    have h_3 : Rg 1 1 _ := rg_ne1 h_r119 rc_0 c_1 (by decide)
    refine wp_pqs (s_X9_numberAt (rg_w hx2 (by decide)) (p_r119 c_1).1 h) (fun r122 _ => ?_)
    refine wp_rq (iR_28_21 h) ?_
    refine wp_rq (iR_28_3 h) ?_
    refine wp_ix (in_rg hx1 (iA_31 h) (by decide)) ?_
    refine wp_ix (in_rg (rg_eq (h.p 31 _ rfl) h31_x1) (iA_43 h) (by decide)) ?_
    refine wp_nmI (fun y133 e_y133 => ?_)
    refine wp_rq (iR_28_5 h) ?_
    refine wp_ix (in_rg hx1 (iA_33 h) (by decide)) ?_
    refine wp_nmI (fun y139 e_y139 => ?_)
    refine wp_if (fun c_4 => ?_) (fun c_4 => ?_)
    ·
      have h_5 : Rg 241 241 _ := rg_eq1 (rg_top _) rc_241 c_4 (by decide)
      refine wp_if (fun c_6 => ?_) (fun c_6 => ?_)
      ·
        have h_7 : Rg 8 8 _ := rg_eq1 hx2 rc_8 c_6 (by decide)
        refine wp_rq (iR_28_21 h) ?_
        refine wp_ix (in_rg rc_0 (iA_43 h) (by decide)) ?_
        exact s_X9_both_94 (rg_w h_7 (by decide)) ((p_r119 c_1).2 (by decide)) h
      ·
        have h_8 : Rg 4 7 _ := rg_ne1 hx2 rc_8 c_6 (by decide)
        refine wp_rq (iR_28_21 h) ?_
        refine wp_ix (in_rg rc_0 (iA_43 h) (by decide)) ?_
        exact s_X9_both_94 (rg_w h_8 (by decide)) ((p_r119 c_1).2 (by decide)) h
    ·
      refine wp_nmI (fun y141 e_y141 => ?_)
      refine wp_if (fun c_9 => ?_) (fun c_9 => ?_)
      ·
        have h_10 : Rg 0 0 _ := rg_eq1 (rg_top _) rc_0 c_9 (by decide)
        exact s_X9_both_193 hx1 hx2 h30_x1 h31_x1 ((p_r119 c_1).2 (by decide)) h
      ·
        refine wp_if (fun c_11 => ?_) (fun c_11 => ?_)
        ·
          have h_12 : Rg 64 64 _ := rg_eq1 (rg_top _) rc_64 c_11 (by decide)
          exact s_X9_both_193 hx1 hx2 h30_x1 h31_x1 ((p_r119 c_1).2 (by decide)) h
        ·
          refine wp_if (fun c_13 => ?_) (fun c_13 => ?_)
          ·
            have h_14 : Rg 80 80 _ := rg_eq1 (rg_top _) rc_80 c_13 (by decide)
            exact s_X9_both_193 hx1 hx2 h30_x1 h31_x1 ((p_r119 c_1).2 (by decide)) h
          ·
            refine wp_if (fun c_15 => ?_) (fun c_15 => ?_)
            ·
              have h_16 : Rg 160 160 _ := rg_eq1 (rg_top _) rc_160 c_15 (by decide)
              exact s_X9_both_193 hx1 hx2 h30_x1 h31_x1 ((p_r119 c_1).2 (by decide)) h
            ·
              exact s_X9_both_193 hx1 hx2 h30_x1 h31_x1 ((p_r119 c_1).2 (by decide)) h
