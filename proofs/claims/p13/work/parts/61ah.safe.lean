set_option maxRecDepth 100000 in
theorem s_X9_look {g : gh} {S : sh}  {x1 : Int32} {D : dt} (hx1 : Rg 0 199 x1) (hfz : g.1 12 = 0) (h : Inv g S D) : wp (f_X9_look S 28 x1 D) (fun q => Rg 0 6 q.1 ∧ Inv g S q.2) := by
  unfold f_X9_look
  refine wp_pqs (s_X9_kindOf hx1 h) (fun r156 q_r156 => ?_)
  obtain ⟨h_r156, x_r156, p_r156⟩ := q_r156
  refine wp_if (fun c_1 => ?_) (fun c_1 => ?_)
  ·
    have h_2 : Rg 0 0 _ := rg_eq1 h_r156 rc_0 c_1 (by decide)
    exact ⟨_, rfl, (rg_w rc_1 (by decide)), h⟩
  ·
    have h_3 := x_r156 c_1
    have h_4 : Rg 1 11 _ := rg_ne1 h_r156 rc_0 c_1 (by decide)
    refine wp_if (fun c_5 => ?_) (fun c_5 => ?_)
    ·
      have h_6 := x_r156 (fun q => absurd ((c_5).symm.trans q) (by decide))
      have h_7 : Rg 1 1 _ := rg_eq1 h_4 rc_1 c_5 (by decide)
      refine wp_cqs (s_X9_lookRegister hx1 h_6.1 h_6.2 (p_r156 c_5) hfz h) (fun r160 D161 q_r160 => ?_)
      obtain ⟨h_r160, h_D161⟩ := q_r160
      refine wp_cqs (s_X9_onward (rg_w h_r160 (by decide)) h_D161) (fun r163 D164 q_r163 => ?_)
      obtain ⟨h_r163, h_D164⟩ := q_r163
      exact ⟨_, rfl, h_r163, h_D164⟩
    ·
      have h_8 : Rg 2 11 _ := rg_ne1 h_4 rc_1 c_5 (by decide)
      refine wp_if (fun c_9 => ?_) (fun c_9 => ?_)
      ·
        have h_10 := x_r156 (fun q => absurd ((c_9).symm.trans q) (by decide))
        have h_11 : Rg 2 2 _ := rg_eq1 h_8 rc_2 c_9 (by decide)
        refine wp_cqs (s_X9_lookJump hx1 h_10.1 h_10.2 hfz h) (fun r167 D168 q_r167 => ?_)
        obtain ⟨h_r167, h_D168⟩ := q_r167
        exact ⟨_, rfl, h_r167, h_D168⟩
      ·
        have h_12 : Rg 3 11 _ := rg_ne1 h_8 rc_2 c_9 (by decide)
        refine wp_if (fun c_13 => ?_) (fun c_13 => ?_)
        ·
          have h_14 := x_r156 (fun q => absurd ((c_13).symm.trans q) (by decide))
          have h_15 : Rg 3 3 _ := rg_eq1 h_12 rc_3 c_13 (by decide)
          refine wp_rq (iR_28_1 h) ?_
          refine wp_ix (in_rg hx1 (iA_29 h) (by decide)) ?_
          refine wp_if (fun c_16 => ?_) (fun c_16 => ?_)
          ·
            have h_17 : Rg 5 5 _ := rg_eq1 (rg_andr _ (by decide) : Rg 0 7 _) rc_5 c_16 (by decide)
            refine wp_rq (iR_28_4 h) ?_
            refine wp_ix (in_rg hx1 (iA_32 h) (by decide)) ?_
            exact s_X9_look_118 rc_0 (rg_add hx1 rc_1 (by decide) : Rg 1 200 _) h
          ·
            refine wp_rq (iR_28_5 h) ?_
            refine wp_ix (in_rg hx1 (iA_33 h) (by decide)) ?_
            exact s_X9_look_118 rc_0 (rg_add hx1 rc_1 (by decide) : Rg 1 200 _) h
        ·
          have h_18 : Rg 4 11 _ := rg_ne1 h_12 rc_3 c_13 (by decide)
          refine wp_if (fun c_19 => ?_) (fun c_19 => ?_)
          ·
            have h_20 := x_r156 (fun q => absurd ((c_19).symm.trans q) (by decide))
            have h_21 : Rg 4 4 _ := rg_eq1 h_18 rc_4 c_19 (by decide)
            refine wp_rq (iR_28_40 h) ?_
            refine wp_ix (in_rg rc_0 (iA_60 h) (by decide)) ?_
            refine wp_if (fun c_22 => ?_) (fun c_22 => ?_)
            ·
              have h_23 : Rg 1 1 _ := rg_eq1 (rg_top _) rc_1 c_22 (by decide)
              exact ⟨_, rfl, (rg_w rc_0 (by decide)), h⟩
            ·
              exact ⟨_, rfl, (rg_w rc_5 (by decide)), h⟩
          ·
            have h_24 : Rg 5 11 _ := rg_ne1 h_18 rc_4 c_19 (by decide)
            refine wp_if (fun c_25 => ?_) (fun c_25 => ?_)
            ·
              have h_26 := x_r156 (fun q => absurd ((c_25).symm.trans q) (by decide))
              have h_27 : Rg 5 5 _ := rg_eq1 h_24 rc_5 c_25 (by decide)
              refine wp_rq (iR_28_5 h) ?_
              refine wp_ix (in_rg hx1 (iA_33 h) (by decide)) ?_
              refine wp_cqs (s_X9_lookCall hx1 h_26.1 h_26.2 h) (fun r200 D201 q_r200 => ?_)
              obtain ⟨h_r200, h_D201⟩ := q_r200
              refine wp_cqs (s_X9_onward h_r200 h_D201) (fun r203 D204 q_r203 => ?_)
              obtain ⟨h_r203, h_D204⟩ := q_r203
              exact ⟨_, rfl, h_r203, h_D204⟩
            ·
              have h_28 : Rg 6 11 _ := rg_ne1 h_24 rc_5 c_25 (by decide)
              refine wp_if (fun c_29 => ?_) (fun c_29 => ?_)
              ·
                have h_30 := x_r156 (fun q => absurd ((c_29).symm.trans q) (by decide))
                have h_31 : Rg 6 6 _ := rg_eq1 h_28 rc_6 c_29 (by decide)
                refine wp_cqs (s_X9_lookLoad hx1 (rg_w rc_0 (by decide)) h_30.1 h_30.2 hfz h) (fun r207 D208 q_r207 => ?_)
                obtain ⟨h_r207, h_D208⟩ := q_r207
                refine wp_cqs (s_X9_onward h_r207 h_D208) (fun r210 D211 q_r210 => ?_)
                obtain ⟨h_r210, h_D211⟩ := q_r210
                exact ⟨_, rfl, h_r210, h_D211⟩
              ·
                have h_32 : Rg 7 11 _ := rg_ne1 h_28 rc_6 c_29 (by decide)
                refine wp_if (fun c_33 => ?_) (fun c_33 => ?_)
                ·
                  have h_34 := x_r156 (fun q => absurd ((c_33).symm.trans q) (by decide))
                  have h_35 : Rg 7 7 _ := rg_eq1 h_32 rc_7 c_33 (by decide)
                  refine wp_cqs (s_X9_lookLoad hx1 (rg_w rc_1 (by decide)) h_34.1 h_34.2 hfz h) (fun r214 D215 q_r214 => ?_)
                  obtain ⟨h_r214, h_D215⟩ := q_r214
                  refine wp_cqs (s_X9_onward h_r214 h_D215) (fun r217 D218 q_r217 => ?_)
                  obtain ⟨h_r217, h_D218⟩ := q_r217
                  exact ⟨_, rfl, h_r217, h_D218⟩
                ·
                  have h_36 : Rg 8 11 _ := rg_ne1 h_32 rc_7 c_33 (by decide)
                  refine wp_if (fun c_37 => ?_) (fun c_37 => ?_)
                  ·
                    have h_38 := x_r156 (fun q => absurd ((c_37).symm.trans q) (by decide))
                    have h_39 : Rg 8 8 _ := rg_eq1 h_36 rc_8 c_37 (by decide)
                    refine wp_rq (iR_28_40 h) ?_
                    refine wp_rq (iR_28_2 h) ?_
                    refine wp_ix (in_rg hx1 (iA_30 h) (by decide)) ?_
                    refine wp_ix (in_rg (rg_eq (h.p 30 _ rfl) h_38.1) (iA_60 h) (by decide)) ?_
                    refine wp_if (fun c_40 => ?_) (fun c_40 => ?_)
                    ·
                      have h_41 : Rg 0 0 _ := rg_eq1 (rg_top _) rc_0 c_40 (by decide)
                      exact s_X9_look_216 hx1 (rg_w rc_2 (by decide)) h_38.1 h_38.2 h
                    ·
                      refine wp_pqs (s_X9_widthOf hx1 h) (fun r232 h_r232 => ?_)
                      refine wp_cqs (s_X9_lookPut hx1 h_r232 (rg_w rc_m1 (by decide)) h_38.1 h_38.2 hfz h) (fun r234 D235 q_r234 => ?_)
                      obtain ⟨h_r234, h_D235⟩ := q_r234
                      exact s_X9_look_216 hx1 h_r234 h_38.1 h_38.2 h_D235
                  ·
                    have h_42 : Rg 9 11 _ := rg_ne1 h_36 rc_8 c_37 (by decide)
                    refine wp_if (fun c_43 => ?_) (fun c_43 => ?_)
                    ·
                      have h_44 := x_r156 (fun q => absurd ((c_43).symm.trans q) (by decide))
                      have h_45 : Rg 9 9 _ := rg_eq1 h_42 rc_9 c_43 (by decide)
                      refine wp_rq (iR_28_40 h) ?_
                      refine wp_rq (iR_28_2 h) ?_
                      refine wp_ix (in_rg hx1 (iA_30 h) (by decide)) ?_
                      refine wp_ix (in_rg (rg_eq (h.p 30 _ rfl) h_44.1) (iA_60 h) (by decide)) ?_
                      refine wp_if (fun c_46 => ?_) (fun c_46 => ?_)
                      ·
                        have h_47 : Rg 0 0 _ := rg_eq1 (rg_top _) rc_0 c_46 (by decide)
                        exact s_X9_look_252 hx1 h_44.1 h_44.2 h
                      ·
                        refine wp_rq (iR_28_40 h) ?_
                        refine wp_rq (iR_28_3 h) ?_
                        refine wp_ix (in_rg hx1 (iA_31 h) (by decide)) ?_
                        refine wp_ix (in_rg (rg_eq (h.p 31 _ rfl) h_44.2) (iA_60 h) (by decide)) ?_
                        refine wp_if (fun c_48 => ?_) (fun c_48 => ?_)
                        ·
                          have h_49 : Rg 0 0 _ := rg_eq1 (rg_top _) rc_0 c_48 (by decide)
                          exact s_X9_look_252 hx1 h_44.1 h_44.2 h
                        ·
                          refine wp_pqs (s_X9_widthOf hx1 h) (fun r260 h_r260 => ?_)
                          refine wp_rq (iR_28_3 h) ?_
                          refine wp_ix (in_rg hx1 (iA_31 h) (by decide)) ?_
                          refine wp_cqs (s_X9_lookPut hx1 h_r260 (rg_w (rg_eq (h.p 31 _ rfl) h_44.2) (by decide)) h_44.1 h_44.2 hfz h) (fun r267 D268 q_r267 => ?_)
                          obtain ⟨h_r267, h_D268⟩ := q_r267
                          exact s_X9_look_272 hx1 h_r267 h_44.1 h_44.2 h_D268
                    ·
                      have h_50 : Rg 10 11 _ := rg_ne1 h_42 rc_9 c_43 (by decide)
                      refine wp_if (fun c_51 => ?_) (fun c_51 => ?_)
                      ·
                        have h_52 := x_r156 (fun q => absurd ((c_51).symm.trans q) (by decide))
                        have h_53 : Rg 10 10 _ := rg_eq1 h_50 rc_10 c_51 (by decide)
                        refine wp_rq (iR_28_1 h) ?_
                        refine wp_ix (in_rg hx1 (iA_29 h) (by decide)) ?_
                        refine wp_if (fun c_54 => ?_) (fun c_54 => ?_)
                        ·
                          have h_55 : Rg 219 219 _ := rg_eq1 (iI_29 h _) rc_219 c_54 (by decide)
                          exact s_X9_look_300 hx1 hx1 (rg_w rc_8 (by decide)) h_52.1 h_52.2 h_52.1 h_52.2 (fun ne => by have h_56 : Rg 1 199 _ := rg_ne1 hx1 rc_0 ne (by decide); exact h_56) h
                        ·
                          exact s_X9_look_300 hx1 hx1 (rg_w rc_4 (by decide)) h_52.1 h_52.2 h_52.1 h_52.2 (fun ne => by have h_57 : Rg 1 199 _ := rg_ne1 hx1 rc_0 ne (by decide); exact h_57) h
                      ·
                        have h_58 : Rg 11 11 _ := rg_ne1 h_50 rc_10 c_51 (by decide)
                        refine wp_cqs (s_X9_lookWide hx1 h_3.1 h_3.2 h) (fun r277 D278 q_r277 => ?_)
                        obtain ⟨h_r277, h_D278⟩ := q_r277
                        exact ⟨_, rfl, h_r277, h_D278⟩
set_option maxRecDepth 100000 in
theorem s_X9_judge_205 {g : gh} {S : sh} {k161 : Nat → Int32 → dt → Option (Int32 × dt)} {n161 : Nat} (hk161 : ∀ (x1 : Int32) (D : dt), Rg 0 200 x1 → g.1 12 = 0 → 200 - x1.toInt < (n161 : Int) → Inv g S D → wp (k161 28 x1 D) (fun q => Rg 0 6 q.1 ∧ Inv g S q.2)) {x1 : Int32} {D : dt} (hx1 : Rg 0 199 x1) (hfz : g.1 12 = 0) (hm161 : 200 - x1.toInt < ((n161 + 1 : Nat) : Int)) (h : Inv g S D) : wp (f_X9_judge_205 S k161 28 x1 D) (fun q => Rg 0 6 q.1 ∧ Inv g S q.2) := by
  unfold f_X9_judge_205
  refine wp_nmI (fun y85 e_y85 => ?_)
  have h_y85 : Rg 1 200 y85 := rg_eq e_y85 (rg_add hx1 rc_1 (by decide) : Rg 1 200 _)
  exact hk161 _ _ (rg_w h_y85 (by decide)) hfz (by rw [e_y85]; exact ms_up hx1 (by decide) hm161) h
set_option maxRecDepth 100000 in
theorem s_X9_judge_161 {g : gh} {S : sh}  : ∀ (n : Nat) (x1 : Int32) (D : dt), Rg 0 200 x1 → g.1 12 = 0 → 200 - x1.toInt < (n : Int) → Inv g S D → wp (f_X9_judge_161 S n 28 x1 D) (fun q => Rg 0 6 q.1 ∧ Inv g S q.2) := by
  intro n
  induction n with
  | zero =>
    intro x1 D hx1 hfz hm h
    exact (ms_0 hx1 (by decide) hm).elim
  | succ n ih =>
    intro x1 D hx1 hfz hm h
    rw [f_X9_judge_161.eq_2]
    refine wp_if (fun c_1 => ?_) (fun c_1 => ?_)
    ·
      exact ⟨_, rfl, (rg_w rc_0 (by decide)), h⟩
    ·
      have h_2 : Rg 0 199 _ := rg_lt1 hx1 (iF_28_0 h) (nle32 c_1) (by decide)
      have h_3 : Rg 1 200 _ := rg_lt2 hx1 (iF_28_0 h) (nle32 c_1) (by decide)
      refine wp_rq (iR_28_27 h) ?_
      refine wp_ix (in_rg h_2 (iA_47 h) (by decide)) ?_
      refine wp_if (fun c_4 => ?_) (fun c_4 => ?_)
      ·
        have h_5 : Rg 0 0 _ := rg_eq1 (rg_top _) rc_0 c_4 (by decide)
        exact s_X9_judge_205 ih h_2 hfz hm h
      ·
        refine wp_nmI (fun D93 e_D93 => ?_)
        have h_D93 : Inv g S D93 := by rw [e_D93]; exact inv_i28 h (Or.inl (by decide)) h_2
        refine wp_cqs (s_X9_take h_2 hfz h_D93) (fun _ D95 h_D95 => ?_)
        refine wp_cqs (s_X9_look h_2 hfz h_D95) (fun r97 D98 q_r97 => ?_)
        obtain ⟨h_r97, h_D98⟩ := q_r97
        refine wp_if (fun c_6 => ?_) (fun c_6 => ?_)
        ·
          have h_7 : Rg 0 0 _ := rg_le1 h_r97 rc_0 c_6 (by decide)
          exact s_X9_judge_205 ih h_2 hfz hm h_D98
        ·
          have h_8 : Rg 1 6 _ := rg_lt2 rc_0 h_r97 (nle32 c_6) (by decide)
          refine wp_nmI (fun D100 e_D100 => ?_)
          have h_D100 : Inv g S D100 := by rw [e_D100]; exact inv_i28 h_D98 (Or.inl (by decide)) (rg_top _)
          exact ⟨_, rfl, (rg_w h_8 (by decide)), h_D100⟩
theorem q_judge_119 {g : gh} {S : sh} (hfz : g.1 12 = 0) : ∀ (n : Nat) (x1 : Int32) (D : dt), Rg 0 512 x1 → 512 - x1.toInt < (n : Int) → RgL (-1048576) 1048576 (gL D 61 10) → Inv g S D → wp (f_X9_judge_119 S n 28 x1 D) (fun q => Rg 0 6 q.1 ∧ Inv g S q.2) := by
  intro n
  induction n with
  | zero =>
    intro x1 D hx1 hm _ h
    exact (ms_0 hx1 (by decide) hm).elim
  | succ n ih =>
    intro x1 D hx1 hm hq h
    rw [f_X9_judge_119.eq_2]
    refine wp_if (fun c => ?_) (fun c => ?_)
    · refine wp_rq (iR_28_40 h) (wp_ix (in_rg (by decide : Rg 1 1 (1 : Int32)) (iA_60 h) (by decide)) (wp_nmI (fun D1 e1 => ?_)))
      have h1 : Inv g S D1 := by rw [e1]; exact inv_i60 h (by decide) (rg_top _)
      refine wp_rq (iR_28_40 h1) (wp_ix (in_rg (by decide : Rg 10 10 (10 : Int32)) (iA_60 h1) (by decide)) (wp_nmI (fun D2 e2 => ?_)))
      have h2 : Inv g S D2 := by
        rw [e2]
        refine inv_k60 h1 (fun _ => Or.inl hfz) (fun _ => ?_)
        show RgL (-1048576) 1048576 (gL D1 61 10)
        rw [e1, gL_pI]
        exact hq
      refine wp_cqs (s_X9_goTo (by decide) h2) (fun _ D3 h3 => wp_nmI (fun y ey => ?_))
      have hy : Rg 0 0 y := rg_eq ey (by decide)
      exact s_X9_judge_161 LF _ _ (rg_w hy (by decide)) hfz (ms_in hy (by decide)) h3
    · have h6 : Rg 0 511 _ := rg_lt1 hx1 rc_512 (nle32 c) (by decide)
      refine wp_rq (iR_28_45 h) (wp_ix (in_rg h6 (iA_65 h) (by decide)) (wp_nmI (fun D1 e1 => ?_)))
      have h1 : Inv g S D1 := by rw [e1]; exact inv_i65 h (rg_top _)
      refine wp_nmI (fun y ey => ?_)
      have hy : Rg 1 512 y := rg_eq ey (rg_add h6 rc_1 (by decide) : Rg 1 512 _)
      exact ih _ _ (rg_w hy (by decide)) (by rw [ey]; exact ms_up h6 (by decide) hm) (by rw [e1, gL_pI]; exact hq) h1
theorem q_judge_100 {g : gh} {S : sh} (hfz : g.1 12 = 0) : ∀ (n : Nat) (x1 : Int32) (D : dt), Rg 0 75 x1 → 75 - x1.toInt < (n : Int) → (10 < x1.toInt → RgL (-1048576) 1048576 (gL D 61 10)) → Inv g S D → wp (f_X9_judge_100 S n 28 x1 D) (fun q => Rg 0 6 q.1 ∧ Inv g S q.2) := by
  intro n
  induction n with
  | zero =>
    intro x1 D hx1 hm _ h
    exact (ms_0 hx1 (by decide) hm).elim
  | succ n ih =>
    intro x1 D hx1 hm hq h
    rw [f_X9_judge_100.eq_2]
    refine wp_if (fun c => wp_nmI (fun y ey => ?_)) (fun c => ?_)
    · have h2 : Rg 75 75 _ := rg_le2 rc_75 hx1 c (by decide)
      have hy : Rg 0 0 y := rg_eq ey (by decide)
      exact q_judge_119 hfz LF _ _ (rg_w hy (by decide)) (ms_in hy (by decide)) (hq (by have := h2.1; omega)) h
    · have h3 : Rg 0 74 _ := rg_lt1 hx1 rc_75 (nle32 c) (by decide)
      refine wp_cqs (wp_and (s_X9_forget (rg_w h3 (by decide)) h) (q_forget_eq (rg_w h3 (by decide)) h)) (fun _ D1 q => ?_)
      obtain ⟨h1, e⟩ := q
      have h1 : Inv g S D1 := h1
      have e : D1 = pI (pI (pL (pL (pI D 60 x1.toNatClampNeg 0) 61 x1.toNatClampNeg 0) 62 x1.toNatClampNeg 0) 63 x1.toNatClampNeg 0) 64 x1.toNatClampNeg 0 := e
      refine wp_nmI (fun y ey => ?_)
      have hy : Rg 1 75 y := rg_eq ey (rg_add h3 rc_1 (by decide) : Rg 1 75 _)
      have l1 : (1 : Int32).toInt = 1 := rfl
      have e1 : y.toInt = x1.toInt + 1 := by rw [ey, i32_add h3 rc_1 (by decide), l1]
      have t := tnc (x := x1) h3.1
      refine ih _ _ (rg_w hy (by decide)) (by rw [ey]; exact ms_up h3 (by decide) hm) (fun w => ?_) h1
      rw [e, gL_pI, gL_pI, gL_pL, if_neg (fun q => by omega), gL_pL]
      split
      · decide
      · rename_i q
        have : x1.toNatClampNeg ≠ 10 := fun z => q ⟨rfl, z.symm⟩
        rw [gL_pI]
        exact hq (by omega)
theorem s_X9_judge_100 {g : gh} {S : sh} : ∀ (n : Nat) (x1 : Int32) (D : dt), Rg 0 75 x1 → (10 < x1.toInt → RgL (-1048576) 1048576 (gL D 61 10)) → g.1 12 = 0 → 75 - x1.toInt < (n : Int) → Inv g S D → wp (f_X9_judge_100 S n 28 x1 D) (fun q => Rg 0 6 q.1 ∧ Inv g S q.2) := fun n x1 D a b c d e => q_judge_100 c n x1 D a d b e
set_option maxRecDepth 100000 in
theorem s_X9_judge_91 {g : gh} {S : sh} {k51 : Nat → Int32 → dt → Option (Int32 × dt)} {n51 : Nat} (hk51 : ∀ (x1 : Int32) (D : dt), Rg 0 200 x1 → g.1 12 = 0 → 200 - x1.toInt < (n51 : Int) → Inv g S D → wp (k51 28 x1 D) (fun q => Rg 0 6 q.1 ∧ Inv g S q.2)) {x1 : Int32} {xs1 : Int32} {xs2 : Int32} {D : dt} (hx1 : Rg 0 199 x1) (hxs1 : Rg 1 200 xs1) (hxs2 : Rg 0 1 xs2) (hfz : g.1 12 = 0) (hm51 : 200 - x1.toInt < ((n51 + 1 : Nat) : Int)) (h : Inv g S D) : wp (f_X9_judge_91 S k51 28 x1 48 xs1 xs2 D) (fun q => Rg 0 6 q.1 ∧ Inv g S q.2) := by
  unfold f_X9_judge_91
  refine wp_ix (in_rg hxs1 (iA_48 h) (by decide)) ?_
  refine wp_nmI (fun D130 e_D130 => ?_)
  have h_D130 : Inv g S D130 := by rw [e_D130]; exact inv_i48 h (rg_top _)
  refine wp_nmI (fun y131 e_y131 => ?_)
  have h_y131 : Rg 1 200 y131 := rg_eq e_y131 (rg_add hx1 rc_1 (by decide) : Rg 1 200 _)
  exact hk51 _ _ (rg_w h_y131 (by decide)) hfz (by rw [e_y131]; exact ms_up hx1 (by decide) hm51) h_D130
set_option maxRecDepth 100000 in
theorem s_X9_judge_90 {g : gh} {S : sh} {k51 : Nat → Int32 → dt → Option (Int32 × dt)} {n51 : Nat} (hk51 : ∀ (x1 : Int32) (D : dt), Rg 0 200 x1 → g.1 12 = 0 → 200 - x1.toInt < (n51 : Int) → Inv g S D → wp (k51 28 x1 D) (fun q => Rg 0 6 q.1 ∧ Inv g S q.2)) {x1 : Int32} {xs1 : Int32} {D : dt} (hx1 : Rg 0 199 x1) (hxs1 : Rg 1 200 xs1) (hfz : g.1 12 = 0) (hm51 : 200 - x1.toInt < ((n51 + 1 : Nat) : Int)) (h : Inv g S D) : wp (f_X9_judge_90 S k51 28 x1 48 xs1 D) (fun q => Rg 0 6 q.1 ∧ Inv g S q.2) := by
  unfold f_X9_judge_90
  exact s_X9_judge_91 hk51 hx1 hxs1 (rg_w rc_0 (by decide)) hfz hm51 h
set_option maxRecDepth 100000 in
theorem s_X9_judge_51 {g : gh} {S : sh}  : ∀ (n : Nat) (x1 : Int32) (D : dt), Rg 0 200 x1 → g.1 12 = 0 → 200 - x1.toInt < (n : Int) → Inv g S D → wp (f_X9_judge_51 S n 28 x1 D) (fun q => Rg 0 6 q.1 ∧ Inv g S q.2) := by
  intro n
  induction n with
  | zero =>
    intro x1 D hx1 hfz hm h
    exact (ms_0 hx1 (by decide) hm).elim
  | succ n ih =>
    intro x1 D hx1 hfz hm h
    rw [f_X9_judge_51.eq_2]
    refine wp_if (fun c_1 => ?_) (fun c_1 => ?_)
    ·
      refine wp_nmI (fun y133 e_y133 => ?_)
      have h_y133 : Rg 0 0 y133 := rg_eq e_y133 rc_0
      exact s_X9_judge_100  LF _ _ (rg_w h_y133 (by decide)) (fun w => by have := h_y133.2; omega) hfz (ms_in h_y133 (by decide)) h
    ·
      have h_2 : Rg 0 199 _ := rg_lt1 hx1 (iF_28_0 h) (nle32 c_1) (by decide)
      have h_3 : Rg 1 200 _ := rg_lt2 hx1 (iF_28_0 h) (nle32 c_1) (by decide)
      refine wp_rq (iR_28_28 h) ?_
      refine wp_rq (iR_28_1 h) ?_
      refine wp_ix (in_rg h_2 (iA_29 h) (by decide)) ?_
      refine wp_if (fun c_4 => ?_) (fun c_4 => ?_)
      ·
        have h_5 : Rg 24 24 _ := rg_eq1 (iI_29 h _) rc_24 c_4 (by decide)
        refine wp_rq (iR_28_28 h) ?_
        refine wp_ix (in_rg h_2 (iA_48 h) (by decide)) ?_
        refine wp_if (fun c_6 => ?_) (fun c_6 => ?_)
        ·
          have h_7 : Rg 0 0 _ := rg_eq1 (rg_top _) rc_0 c_6 (by decide)
          exact s_X9_judge_91 ih h_2 (rg_add h_2 rc_1 (by decide) : Rg 1 200 _) (rg_w rc_1 (by decide)) hfz hm h
        ·
          exact s_X9_judge_90 ih h_2 (rg_add h_2 rc_1 (by decide) : Rg 1 200 _) hfz hm h
      ·
        exact s_X9_judge_90 ih h_2 (rg_add h_2 rc_1 (by decide) : Rg 1 200 _) hfz hm h
set_option maxRecDepth 100000 in
theorem s_X9_judge_7 {g : gh} {S : sh}  : ∀ (n : Nat) (x1 : Int32) (D : dt), Rg 0 200 x1 → g.1 12 = 0 → 200 - x1.toInt < (n : Int) → Inv g S D → wp (f_X9_judge_7 S n 28 x1 D) (fun q => Rg 0 6 q.1 ∧ Inv g S q.2) := by
  intro n
  induction n with
  | zero =>
    intro x1 D hx1 hfz hm h
    exact (ms_0 hx1 (by decide) hm).elim
  | succ n ih =>
    intro x1 D hx1 hfz hm h
    rw [f_X9_judge_7.eq_2]
    refine wp_if (fun c_1 => ?_) (fun c_1 => ?_)
    ·
      have h_2 : Rg 200 200 _ := rg_le2 rc_200 hx1 c_1 (by decide)
      refine wp_if (fun c_3 => ?_) (fun c_3 => ?_)
      ·
        have h_4 : Rg 0 0 _ := rg_eq1 (iF_28_0 h) rc_0 c_3 (by decide)
        refine wp_nmI (fun D153 e_D153 => ?_)
        have h_D153 : Inv g S D153 := by rw [e_D153]; exact inv_i28 h (Or.inl (by decide)) (rg_top _)
        exact ⟨_, rfl, (rg_w rc_6 (by decide)), h_D153⟩
      ·
        have h_5 : Rg 1 200 _ := rg_ne1 (iF_28_0 h) rc_0 c_3 (by decide)
        refine wp_nmI (fun y152 e_y152 => ?_)
        have h_y152 : Rg 0 0 y152 := rg_eq e_y152 rc_0
        exact s_X9_judge_51  LF _ _ (rg_w h_y152 (by decide)) hfz (ms_in h_y152 (by decide)) h
    ·
      have h_6 : Rg 0 199 _ := rg_lt1 hx1 rc_200 (nle32 c_1) (by decide)
      refine wp_rq (iR_28_27 h) ?_
      refine wp_ix (in_rg h_6 (iA_47 h) (by decide)) ?_
      refine wp_nmI (fun D159 e_D159 => ?_)
      have h_D159 : Inv g S D159 := by rw [e_D159]; exact inv_i47 h (rg_top _)
      refine wp_rq (iR_28_28 h_D159) ?_
      refine wp_ix (in_rg h_6 (iA_48 h_D159) (by decide)) ?_
      refine wp_nmI (fun D165 e_D165 => ?_)
      have h_D165 : Inv g S D165 := by rw [e_D165]; exact inv_i48 h_D159 (rg_top _)
      refine wp_nmI (fun y166 e_y166 => ?_)
      have h_y166 : Rg 1 200 y166 := rg_eq e_y166 (rg_add h_6 rc_1 (by decide) : Rg 1 200 _)
      exact ih _ _ (rg_w h_y166 (by decide)) hfz (by rw [e_y166]; exact ms_up h_6 (by decide) hm) h_D165
set_option maxRecDepth 100000 in
theorem s_X9_judge {g : gh} {S : sh}   {D : dt} (hfz : g.1 12 = 0) (h : Inv g S D) : wp (f_X9_judge S 28 D) (fun q => Rg 0 6 q.1 ∧ Inv g S q.2) := by
  unfold f_X9_judge
  refine wp_nmI (fun D167 e_D167 => ?_)
  have h_D167 : Inv g S D167 := by rw [e_D167]; exact inv_i28 h (Or.inl (by decide)) (rg_top _)
  refine wp_nmI (fun y168 e_y168 => ?_)
  have h_y168 : Rg 0 0 y168 := rg_eq e_y168 rc_0
  exact s_X9_judge_7  LF _ _ (rg_w h_y168 (by decide)) hfz (ms_in h_y168 (by decide)) h_D167
set_option maxRecDepth 100000 in
theorem s_X9_place {g : gh} {S : sh} {D : dt}    (h : Inv g S D) : wp (f_X9_place S D 28) (fun q => True) := by
  unfold f_X9_place
  exact ⟨_, rfl, trivial⟩
set_option maxRecDepth 100000 in
theorem s_X9_may_28 {g : gh} {S : sh} {D : dt}    (h : Inv g S D) : wp (f_X9_may_28 S D) (fun q => True) := by
  unfold f_X9_may_28
  exact ⟨_, rfl, trivial⟩
set_option maxRecDepth 100000 in
theorem s_X9_may {g : gh} {S : sh} {D : dt}  {x1 : Int32} {x2 : Int32} {x3 : Int32}  (h : Inv g S D) : wp (f_X9_may S D 28 x1 x2 x3) (fun q => True) := by
  unfold f_X9_may
  refine wp_pqs (s_X9_in) (fun r47 q_r47 => ?_)
  obtain ⟨h_r47, x_r47⟩ := q_r47
  refine wp_if (fun c_1 => ?_) (fun c_1 => ?_)
  ·
    have h_2 : Rg 0 0 _ := rg_eq1 h_r47 rc_0 c_1 (by decide)
    exact s_X9_may_28 h
  ·
    have h_3 := x_r47 c_1
    have h_4 : RgL 0 199 _ := rgl_in (rgl_of (rg_top _) : RgL (-2147483648) 2147483647 _) rcl_0 (rgl_of (rg_sub (iF_28_0 h) rc_1 (by decide) : Rg (-1) 199 _) : RgL (-1) 199 _) h_3 (by decide)
    have h_5 : Rg 0 199 _ := rg_of32 h_4
    have h_6 : Rg 1 1 _ := rg_ne1 h_r47 rc_0 c_1 (by decide)
    refine wp_pqs (s_X9_in) (fun r50 q_r50 => ?_)
    obtain ⟨h_r50, x_r50⟩ := q_r50
    refine wp_if (fun c_7 => ?_) (fun c_7 => ?_)
    ·
      have h_8 : Rg 0 0 _ := rg_eq1 h_r50 rc_0 c_7 (by decide)
      exact s_X9_may_28 h
    ·
      have h_9 := x_r50 c_7
      have h_10 : RgL 0 10 _ := rgl_in (rgl_of (rg_top _) : RgL (-2147483648) 2147483647 _) rcl_0 rcl_10 h_9 (by decide)
      have h_11 : Rg 0 10 _ := rg_of32 h_10
      have h_12 : Rg 1 1 _ := rg_ne1 h_r50 rc_0 c_7 (by decide)
      refine wp_pqs (s_X9_in) (fun r53 q_r53 => ?_)
      obtain ⟨h_r53, x_r53⟩ := q_r53
      refine wp_if (fun c_13 => ?_) (fun c_13 => ?_)
      ·
        have h_14 : Rg 0 0 _ := rg_eq1 h_r53 rc_0 c_13 (by decide)
        exact ⟨_, rfl, trivial⟩
      ·
        have h_15 := x_r53 c_13
        have h_16 : RgL 0 4 _ := rgl_in (rgl_of (rg_top _) : RgL (-2147483648) 2147483647 _) rcl_0 rcl_4 h_15 (by decide)
        have h_17 : Rg 0 4 _ := rg_of32 h_16
        have h_18 : Rg 1 1 _ := rg_ne1 h_r53 rc_0 c_13 (by decide)
        refine wp_nmI (fun y55 e_y55 => ?_)
        have h_y55 : Rg 0 2199 y55 := rg_eq e_y55 (rg_add (rg_mul rc_11 h_5 (by decide) : Rg 0 2189 _) h_11 (by decide) : Rg 0 2199 _)
        refine wp_rq (iR_28_27 h) ?_
        refine wp_ix (in_rg h_5 (iA_47 h) (by decide)) ?_
        refine wp_if (fun c_19 => ?_) (fun c_19 => ?_)
        ·
          have h_20 : Rg 0 0 _ := rg_eq1 (rg_top _) rc_0 c_19 (by decide)
          exact ⟨_, rfl, trivial⟩
        ·
          refine wp_if (fun c_21 => ?_) (fun c_21 => ?_)
          ·
            have h_22 : Rg 0 0 _ := rg_eq1 h_17 rc_0 c_21 (by decide)
            refine wp_rq (iR_28_29 h) ?_
            refine wp_ix (in_rg h_y55 (iA_49 h) (by decide)) ?_
            exact ⟨_, rfl, trivial⟩
          ·
            have h_23 : Rg 1 4 _ := rg_ne1 h_17 rc_0 c_21 (by decide)
            refine wp_if (fun c_24 => ?_) (fun c_24 => ?_)
            ·
              have h_25 : Rg 1 1 _ := rg_eq1 h_23 rc_1 c_24 (by decide)
              refine wp_rq (iR_28_30 h) ?_
              refine wp_ix (in_rg h_y55 (iA_50 h) (by decide)) ?_
              exact ⟨_, rfl, trivial⟩
            ·
              have h_26 : Rg 2 4 _ := rg_ne1 h_23 rc_1 c_24 (by decide)
              refine wp_if (fun c_27 => ?_) (fun c_27 => ?_)
              ·
                have h_28 : Rg 2 2 _ := rg_eq1 h_26 rc_2 c_27 (by decide)
                refine wp_rq (iR_28_31 h) ?_
                refine wp_ix (in_rg h_y55 (iA_51 h) (by decide)) ?_
                exact ⟨_, rfl, trivial⟩
              ·
                have h_29 : Rg 3 4 _ := rg_ne1 h_26 rc_2 c_27 (by decide)
                refine wp_if (fun c_30 => ?_) (fun c_30 => ?_)
                ·
                  have h_31 : Rg 3 3 _ := rg_eq1 h_29 rc_3 c_30 (by decide)
                  refine wp_rq (iR_28_32 h) ?_
                  refine wp_ix (in_rg h_y55 (iA_52 h) (by decide)) ?_
                  exact ⟨_, rfl, trivial⟩
                ·
                  have h_32 : Rg 4 4 _ := rg_ne1 h_29 rc_3 c_30 (by decide)
                  refine wp_rq (iR_28_33 h) ?_
                  refine wp_ix (in_rg h_y55 (iA_53 h) (by decide)) ?_
                  exact ⟨_, rfl, trivial⟩
set_option maxRecDepth 100000 in
theorem s_X9_cell {g : gh} {S : sh} {D : dt}  {x1 : Int32} {x2 : Int32}  (h : Inv g S D) : wp (f_X9_cell S D 28 x1 x2) (fun q => Rg (-1) 3 q) := by
  unfold f_X9_cell
  refine wp_pqs (s_X9_in) (fun r28 q_r28 => ?_)
  obtain ⟨h_r28, x_r28⟩ := q_r28
  refine wp_if (fun c_1 => ?_) (fun c_1 => ?_)
  ·
    have h_2 : Rg 0 0 _ := rg_eq1 h_r28 rc_0 c_1 (by decide)
    exact ⟨_, rfl, (rg_w rc_m1 (by decide))⟩
  ·
    have h_3 := x_r28 c_1
    have h_4 : RgL 0 199 _ := rgl_in (rgl_of (rg_top _) : RgL (-2147483648) 2147483647 _) rcl_0 (rgl_of (rg_sub (iF_28_0 h) rc_1 (by decide) : Rg (-1) 199 _) : RgL (-1) 199 _) h_3 (by decide)
    have h_5 : Rg 0 199 _ := rg_of32 h_4
    have h_6 : Rg 1 1 _ := rg_ne1 h_r28 rc_0 c_1 (by decide)
    refine wp_pqs (s_X9_in) (fun r31 q_r31 => ?_)
    obtain ⟨h_r31, x_r31⟩ := q_r31
    refine wp_if (fun c_7 => ?_) (fun c_7 => ?_)
    ·
      have h_8 : Rg 0 0 _ := rg_eq1 h_r31 rc_0 c_7 (by decide)
      exact ⟨_, rfl, (rg_w rc_m1 (by decide))⟩
    ·
      have h_9 := x_r31 c_7
      have h_10 : RgL (-512) (-1) _ := rgl_in (rgl_of (rg_top _) : RgL (-2147483648) 2147483647 _) rcl_m512 rcl_m1 h_9 (by decide)
      have h_11 : Rg (-512) (-1) _ := rg_of32 h_10
      have h_12 : Rg 1 1 _ := rg_ne1 h_r31 rc_0 c_7 (by decide)
      refine wp_rq (iR_28_27 h) ?_
      refine wp_ix (in_rg h_5 (iA_47 h) (by decide)) ?_
      refine wp_if (fun c_13 => ?_) (fun c_13 => ?_)
      ·
        have h_14 : Rg 0 0 _ := rg_eq1 (rg_top _) rc_0 c_13 (by decide)
        exact ⟨_, rfl, (rg_w rc_0 (by decide))⟩
      ·
        refine wp_rq (iR_28_35 h) ?_
        refine wp_ix (in_rg (rg_add (rg_mul rc_64 h_5 (by decide) : Rg 0 12736 _) (rg_div (rg_add h_11 rc_512 (by decide) : Rg 0 511 _) (by decide) : Rg 0 63 _) (by decide) : Rg 0 12799 _) (iA_55 h) (by decide)) ?_
        refine wp_nmI (fun y44 e_y44 => ?_)
        refine wp_if (fun c_15 => ?_) (fun c_15 => ?_)
        ·
          have h_16 : Rg 1 1 _ := rg_eq1 (rg_top _) rc_1 c_15 (by decide)
          exact ⟨_, rfl, (rg_w rc_2 (by decide))⟩
        ·
          refine wp_if (fun c_17 => ?_) (fun c_17 => ?_)
          ·
            have h_18 : Rg 0 0 _ := rg_eq1 (rg_top _) rc_0 c_17 (by decide)
            refine wp_rq (iR_28_34 h) ?_
            refine wp_ix (in_rg (rg_add (rg_add (rg_mul rc_512 h_5 (by decide) : Rg 0 101888 _) h_11 (by decide) : Rg (-512) 101887 _) rc_512 (by decide) : Rg 0 102399 _) (iA_54 h) (by decide)) ?_
            refine wp_if (fun c_19 => ?_) (fun c_19 => ?_)
            ·
              have h_20 : Rg 0 0 _ := rg_eq1 (rg_top _) rc_0 c_19 (by decide)
              exact ⟨_, rfl, (rg_w rc_0 (by decide))⟩
            ·
              exact ⟨_, rfl, (rg_w rc_1 (by decide))⟩
          ·
            exact ⟨_, rfl, (rg_w rc_3 (by decide))⟩
