set_option maxRecDepth 100000 in
theorem s_X9_wide_115 {g : gh} {S : sh}  {x1 : Int32} {xs1 : Int32} {xs2 : Int64} {D : dt} (hx1 : Rg 0 198 x1) (hxs1 : Rg 0 10 xs1) (h30_x1 : Rg 0 10 (g.2 30 x1.toNatClampNeg)) (h31_x1 : Rg 0 10 (g.2 31 x1.toNatClampNeg)) (hxs1_c_30_x1 : (xs1 ≠ 0 → Rg 1 10 (g.2 30 x1.toNatClampNeg))) (h : Inv g S D) : wp (f_X9_wide_115 S 28 x1 43 xs1 xs2 D) (fun q => Rg 0 5 q.1 ∧ Inv g S q.2) := by
  unfold f_X9_wide_115
  refine wp_ix (in_rg hxs1 (iA_43 h) (by decide)) ?_
  refine wp_nmI (fun D53 e_D53 => ?_)
  have h_D53 : Inv g S D53 := by rw [e_D53]; exact inv_l43 h
  refine wp_nmI (fun D54 e_D54 => ?_)
  have h_D54 : Inv g S D54 := by rw [e_D54]; exact inv_i28 h_D53 (Or.inl (by decide)) (rg_top _)
  exact ⟨_, rfl, (rg_w rc_0 (by decide)), h_D54⟩
set_option maxRecDepth 100000 in
theorem s_X9_wide_57 {g : gh} {S : sh}  {x1 : Int32} {D : dt} (hx1 : Rg 0 198 x1) (h30_x1 : Rg 0 10 (g.2 30 x1.toNatClampNeg)) (h31_x1 : Rg 0 10 (g.2 31 x1.toNatClampNeg)) (h : Inv g S D) : wp (f_X9_wide_57 S 28 x1 D) (fun q => Rg 0 5 q.1 ∧ Inv g S q.2) := by
  unfold f_X9_wide_57
  refine wp_rq (iR_28_21 h) ?_
  refine wp_rq (iR_28_2 h) ?_
  refine wp_ix (in_rg hx1 (iA_30 h) (by decide)) ?_
  refine wp_rq (iR_28_3 h) ?_
  refine wp_ix (in_rg hx1 (iA_31 h) (by decide)) ?_
  refine wp_if (fun c_1 => ?_) (fun c_1 => ?_)
  ·
    have h_2 : Rg 1 1 _ := rg_eq1 (rg_eq (h.p 31 _ rfl) h31_x1) rc_1 c_1 (by decide)
    refine wp_rq (iR_28_5 h) ?_
    refine wp_ix (in_rg hx1 (iA_33 h) (by decide)) ?_
    exact s_X9_wide_115 hx1 (rg_eq (h.p 30 _ rfl) h30_x1) h30_x1 (rg_w (rg_eq (h.p 31 _ rfl).symm h_2) (by decide)) (fun ne => by have h_3 : Rg 1 10 _ := rg_ne1 (rg_eq (h.p 30 _ rfl) h30_x1) rc_0 ne (by decide); exact (rg_eq (h.p 30 _ rfl).symm h_3)) h
  ·
    refine wp_rq (iR_28_5 h) ?_
    refine wp_ix (in_rg hx1 (iA_33 h) (by decide)) ?_
    refine wp_rq (iR_28_5 h) ?_
    refine wp_ix (in_rg (rg_add hx1 rc_1 (by decide) : Rg 1 199 _) (iA_33 h) (by decide)) ?_
    exact s_X9_wide_115 hx1 (rg_eq (h.p 30 _ rfl) h30_x1) h30_x1 h31_x1 (fun ne => by have h_4 : Rg 1 10 _ := rg_ne1 (rg_eq (h.p 30 _ rfl) h30_x1) rc_0 ne (by decide); exact (rg_eq (h.p 30 _ rfl).symm h_4)) h
theorem s_X9_wide {g : gh} {S : sh} {x1 : Int32} {D : dt} (hx1 : Rg 0 199 x1) (h30_x1 : Rg 0 10 (g.2 30 x1.toNatClampNeg)) (h31_x1 : Rg 0 10 (g.2 31 x1.toNatClampNeg)) (hc1 : x1.toInt < g.1 2) (h : Inv g S D) : wp (f_X9_wide S 28 x1 D) (fun q => Rg 0 5 q.1 ∧ Inv g S q.2) := by
  unfold f_X9_wide
  have ec := iG_28_0 h
  have hc := iF_28_0 h
  have l1 : (1 : Int32).toInt = 1 := rfl
  have e1 : (x1 + 1).toInt = x1.toInt + 1 := by rw [i32_add hx1 (by decide : Rg 1 1 (1 : Int32)) (by decide), l1]
  refine wp_if (fun c => ⟨_, rfl, (by decide : Rg 0 5 (5 : Int32)), h⟩) (fun c => ?_)
  have ne : (x1 + 1).toInt ≠ (gI D 28 0).toInt := fun e => c (Int32.toInt_inj.mp e)
  obtain ⟨r1, r2⟩ := id hx1
  obtain ⟨c1, c2⟩ := hc
  have hx : Rg 0 198 x1 := ⟨r1, by omega⟩
  have hy : Rg 1 199 (x1 + 1) := ⟨by omega, by omega⟩
  exact wp_pqs (s_X9_isSecond hy h) (fun r _ => wp_if (fun _ => ⟨_, rfl, (by decide : Rg 0 5 (3 : Int32)), h⟩) (fun _ => wp_rq (iR_28_3 h) (wp_ix (in_rg hx1 (iA_31 h) (by decide)) (wp_if (fun _ => wp_rq (iR_28_5 h) (wp_ix (in_rg hx1 (iA_33 h) (by decide)) (wp_pqs s_X9_in (fun r _ => wp_if (fun _ => ⟨_, rfl, (by decide : Rg 0 5 (4 : Int32)), h⟩) (fun _ => s_X9_wide_57 hx h30_x1 h31_x1 h))))) (fun _ => s_X9_wide_57 hx h30_x1 h31_x1 h)))))
set_option maxRecDepth 100000 in
theorem s_X9_once_348 {g : gh} {S : sh}  {x4 : Int32} {xs1 : Int32} {D : dt} (hx4 : Rg 0 1 x4) (h : Inv g S D) : wp (f_X9_once_348 S x4 28 xs1 D) (fun q => Rg 0 5 q.1 ∧ Inv g S q.2) := by
  unfold f_X9_once_348
  refine wp_nmI (fun D135 e_D135 => ?_)
  have h_D135 : Inv g S D135 := by rw [e_D135]; exact inv_i28 h (Or.inl (by decide)) (rg_top _)
  refine wp_if (fun c_1 => ?_) (fun c_1 => ?_)
  ·
    have h_2 : Rg 0 0 _ := rg_eq1 hx4 rc_0 c_1 (by decide)
    exact ⟨_, rfl, (rg_w rc_4 (by decide)), h_D135⟩
  ·
    have h_3 : Rg 1 1 _ := rg_ne1 hx4 rc_0 c_1 (by decide)
    exact ⟨_, rfl, (rg_w rc_0 (by decide)), h_D135⟩
set_option maxRecDepth 100000 in
theorem s_X9_once_334 {g : gh} {S : sh}  {x3 : Int32} {x4 : Int32} {D : dt} (hx4 : Rg 0 1 x4) (h : Inv g S D) : wp (f_X9_once_334 S 28 x3 x4 D) (fun q => Rg 0 5 q.1 ∧ Inv g S q.2) := by
  unfold f_X9_once_334
  refine wp_if (fun c_1 => ?_) (fun c_1 => ?_)
  ·
    have h_2 : Rg 0 0 _ := rg_eq1 hx4 rc_0 c_1 (by decide)
    exact s_X9_once_348 (rg_w h_2 (by decide)) h
  ·
    have h_3 : Rg 1 1 _ := rg_ne1 hx4 rc_0 c_1 (by decide)
    exact s_X9_once_348 (rg_w h_3 (by decide)) h
set_option maxRecDepth 100000 in
theorem s_X9_once_320 {g : gh} {S : sh}  {x3 : Int32} {xs1 : Int32} {xs2 : Int32} {D : dt} (hx3 : Rg 1 200 x3) (hxs1 : Rg 0 199 xs1) (hxs2 : Rg 4 8 xs2) (h30_xs1 : Rg 0 10 (g.2 30 xs1.toNatClampNeg)) (h31_xs1 : Rg 0 10 (g.2 31 xs1.toNatClampNeg)) (h : Inv g S D) : wp (f_X9_once_320 S 28 x3 28 xs1 xs2 D) (fun q => Rg 0 5 q.1 ∧ Inv g S q.2) := by
  unfold f_X9_once_320
  refine wp_cqs (s_X9_both hxs1 hxs2 h30_xs1 h31_xs1 h) (fun r139 D140 q_r139 => ?_)
  obtain ⟨h_r139, h_D140⟩ := q_r139
  exact s_X9_once_334 h_r139 h_D140
set_option maxRecDepth 100000 in
theorem s_X9_once_173 {g : gh} {S : sh}  {x4 : Int32} {xs0 : Int32} {D : dt} (hx4 : Rg 1 1 x4) (hxs0 : Rg (-32767) 32967 xs0) (h : Inv g S D) : wp (f_X9_once_173 S 28 x4 xs0 D) (fun q => Rg 0 5 q.1 ∧ Inv g S q.2) := by
  unfold f_X9_once_173
  exact s_X9_once_334 (rg_w hx4 (by decide)) h
set_option maxRecDepth 100000 in
theorem s_X9_once_206 {g : gh} {S : sh}  {x4 : Int32} {xs0 : Int32} {xs1 : Int32} {D : dt} (hx4 : Rg 1 1 x4) (hxs0 : Rg 1 200 xs0) (h : Inv g S D) : wp (f_X9_once_206 S 28 x4 xs0 xs1 D) (fun q => Rg 0 5 q.1 ∧ Inv g S q.2) := by
  unfold f_X9_once_206
  refine wp_nmI (fun y141 e_y141 => ?_)
  exact s_X9_once_334 (rg_w hx4 (by decide)) h
set_option maxRecDepth 100000 in
theorem s_X9_once {g : gh} {S : sh}   {D : dt} (hcl : (∀ v : Int32, wp (f_X9_call S 28 v D) (fun q => Rg 0 1 q.1 ∧ Inv g S q.2))) (h : Inv g S D) : wp (f_X9_once S 28 D) (fun q => Rg 0 5 q.1 ∧ Inv g S q.2) := by
  unfold f_X9_once
  refine wp_nmI (fun y142 e_y142 => ?_)
  refine wp_pqs (s_X9_in) (fun r144 q_r144 => ?_)
  obtain ⟨h_r144, x_r144⟩ := q_r144
  refine wp_if (fun c_1 => ?_) (fun c_1 => ?_)
  ·
    have h_2 : Rg 0 0 _ := rg_eq1 h_r144 rc_0 c_1 (by decide)
    exact ⟨_, rfl, (rg_w rc_5 (by decide)), h⟩
  ·
    have h_3 := x_r144 c_1
    have h_4 : RgL 0 199 _ := rgl_in (rgl_of (rg_top _) : RgL (-2147483648) 2147483647 _) rcl_0 (rgl_of (rg_sub (iF_28_0 h) rc_1 (by decide) : Rg (-1) 199 _) : RgL (-1) 199 _) h_3 (by decide)
    have h_5 : Rg 0 199 _ := rg_of32 h_4
    have h_6 : Rg 1 1 _ := rg_ne1 h_r144 rc_0 c_1 (by decide)
    refine wp_pqs (s_X9_widthOf h_5 h) (fun r147 h_r147 => ?_)
    refine wp_nmI (fun y148 e_y148 => ?_)
    have h_y148 : Rg 1 200 y148 := rg_eq e_y148 (rg_add h_5 rc_1 (by decide) : Rg 1 200 _)
    refine wp_nmI (fun y149 e_y149 => ?_)
    have h_y149 : Rg 1 1 y149 := rg_eq e_y149 rc_1
    refine wp_pqs (s_X9_kindOf h_5 h) (fun r151 q_r151 => ?_)
    obtain ⟨h_r151, x_r151, p_r151⟩ := q_r151
    refine wp_if (fun c_7 => ?_) (fun c_7 => ?_)
    ·
      have h_8 : Rg 0 0 _ := rg_eq1 h_r151 rc_0 c_7 (by decide)
      exact ⟨_, rfl, (rg_w rc_3 (by decide)), h⟩
    ·
      have h_9 := x_r151 c_7
      have h_10 : Rg 1 11 _ := rg_ne1 h_r151 rc_0 c_7 (by decide)
      refine wp_if (fun c_11 => ?_) (fun c_11 => ?_)
      ·
        have h_12 := x_r151 (fun q => absurd ((c_11).symm.trans q) (by decide))
        have h_13 : Rg 1 1 _ := rg_eq1 h_10 rc_1 c_11 (by decide)
        refine wp_rq (iR_28_21 h) ?_
        refine wp_rq (iR_28_2 h) ?_
        refine wp_ix (in_rg h_5 (iA_30 h) (by decide)) ?_
        refine wp_rq (iR_28_21 h) ?_
        refine wp_rq (iR_28_2 h) ?_
        refine wp_ix (in_rg h_5 (iA_30 h) (by decide)) ?_
        refine wp_ix (in_rg (rg_eq (h.p 30 _ rfl) h_12.1) (iA_43 h) (by decide)) ?_
        refine wp_pqs (s_X9_second h_5 h_12.1 h_12.2 h) (fun r174 _ => ?_)
        refine wp_pqs (s_X9_reckon h_5 h_12.1 h_12.2 (p_r151 c_11) h) (fun r176 _ => ?_)
        refine wp_ix (in_rg (rg_eq (h.p 30 _ rfl) h_12.1) (iA_43 h) (by decide)) ?_
        refine wp_nmI (fun D178 e_D178 => ?_)
        have h_D178 : Inv g S D178 := by rw [e_D178]; exact inv_l43 h
        exact s_X9_once_334 (rg_w h_y149 (by decide)) h_D178
      ·
        have h_14 : Rg 2 11 _ := rg_ne1 h_10 rc_1 c_11 (by decide)
        refine wp_if (fun c_15 => ?_) (fun c_15 => ?_)
        ·
          have h_16 := x_r151 (fun q => absurd ((c_15).symm.trans q) (by decide))
          have h_17 : Rg 2 2 _ := rg_eq1 h_14 rc_2 c_15 (by decide)
          refine wp_rq (iR_28_21 h) ?_
          refine wp_rq (iR_28_2 h) ?_
          refine wp_ix (in_rg h_5 (iA_30 h) (by decide)) ?_
          refine wp_ix (in_rg (rg_eq (h.p 30 _ rfl) h_16.1) (iA_43 h) (by decide)) ?_
          refine wp_pqs (s_X9_second h_5 h_16.1 h_16.2 h) (fun r191 _ => ?_)
          refine wp_pqs (s_X9_jumps h_5 h_16.1 h_16.2 h) (fun r193 h_r193 => ?_)
          refine wp_if (fun c_18 => ?_) (fun c_18 => ?_)
          ·
            have h_19 : Rg 0 0 _ := rg_eq1 h_r193 rc_0 c_18 (by decide)
            exact s_X9_once_173 h_y149 (rg_w h_y148 (by decide)) h
          ·
            have h_20 : Rg 1 1 _ := rg_ne1 h_r193 rc_0 c_18 (by decide)
            refine wp_rq (iR_28_4 h) ?_
            refine wp_ix (in_rg h_5 (iA_32 h) (by decide)) ?_
            exact s_X9_once_173 h_y149 (rg_add h_y148 (iI_32 h _) (by decide) : Rg (-32767) 32967 _) h
        ·
          have h_21 : Rg 3 11 _ := rg_ne1 h_14 rc_2 c_15 (by decide)
          refine wp_if (fun c_22 => ?_) (fun c_22 => ?_)
          ·
            have h_23 := x_r151 (fun q => absurd ((c_22).symm.trans q) (by decide))
            have h_24 : Rg 3 3 _ := rg_eq1 h_21 rc_3 c_22 (by decide)
            refine wp_rq (iR_28_1 h) ?_
            refine wp_ix (in_rg h_5 (iA_29 h) (by decide)) ?_
            refine wp_if (fun c_25 => ?_) (fun c_25 => ?_)
            ·
              have h_26 : Rg 5 5 _ := rg_eq1 (rg_andr _ (by decide) : Rg 0 7 _) rc_5 c_25 (by decide)
              refine wp_rq (iR_28_4 h) ?_
              refine wp_ix (in_rg h_5 (iA_32 h) (by decide)) ?_
              exact s_X9_once_206 h_y149 h_y148 h
            ·
              refine wp_rq (iR_28_5 h) ?_
              refine wp_ix (in_rg h_5 (iA_33 h) (by decide)) ?_
              exact s_X9_once_206 h_y149 h_y148 h
          ·
            have h_27 : Rg 4 11 _ := rg_ne1 h_21 rc_3 c_22 (by decide)
            refine wp_if (fun c_28 => ?_) (fun c_28 => ?_)
            ·
              have h_29 := x_r151 (fun q => absurd ((c_28).symm.trans q) (by decide))
              have h_30 : Rg 4 4 _ := rg_eq1 h_27 rc_4 c_28 (by decide)
              refine wp_nmI (fun D218 e_D218 => ?_)
              have h_D218 : Inv g S D218 := by rw [e_D218]; exact inv_i28 h (Or.inl (by decide)) (rg_top _)
              exact s_X9_once_334 (rg_w h_y149 (by decide)) h_D218
            ·
              have h_31 : Rg 5 11 _ := rg_ne1 h_27 rc_4 c_28 (by decide)
              refine wp_if (fun c_32 => ?_) (fun c_32 => ?_)
              ·
                have h_33 := x_r151 (fun q => absurd ((c_32).symm.trans q) (by decide))
                have h_34 : Rg 5 5 _ := rg_eq1 h_31 rc_5 c_32 (by decide)
                refine wp_rq (iR_28_5 h) ?_
                refine wp_ix (in_rg h_5 (iA_33 h) (by decide)) ?_
                refine wp_cqs (hcl _) (fun r226 D227 q_r226 => ?_)
                obtain ⟨h_r226, h_D227⟩ := q_r226
                exact s_X9_once_334 h_r226 h_D227
              ·
                have h_35 : Rg 6 11 _ := rg_ne1 h_31 rc_5 c_32 (by decide)
                refine wp_if (fun c_36 => ?_) (fun c_36 => ?_)
                ·
                  have h_37 := x_r151 (fun q => absurd ((c_36).symm.trans q) (by decide))
                  have h_38 : Rg 6 6 _ := rg_eq1 h_35 rc_6 c_36 (by decide)
                  refine wp_cqs (s_X9_load h_5 h_r147 (rg_w rc_0 (by decide)) h_37.1 h_37.2 h) (fun r230 D231 q_r230 => ?_)
                  obtain ⟨h_r230, h_D231⟩ := q_r230
                  exact s_X9_once_334 h_r230 h_D231
                ·
                  have h_39 : Rg 7 11 _ := rg_ne1 h_35 rc_6 c_36 (by decide)
                  refine wp_if (fun c_40 => ?_) (fun c_40 => ?_)
                  ·
                    have h_41 := x_r151 (fun q => absurd ((c_40).symm.trans q) (by decide))
                    have h_42 : Rg 7 7 _ := rg_eq1 h_39 rc_7 c_40 (by decide)
                    refine wp_cqs (s_X9_load h_5 h_r147 (rg_w rc_1 (by decide)) h_41.1 h_41.2 h) (fun r234 D235 q_r234 => ?_)
                    obtain ⟨h_r234, h_D235⟩ := q_r234
                    exact s_X9_once_334 h_r234 h_D235
                  ·
                    have h_43 : Rg 8 11 _ := rg_ne1 h_39 rc_7 c_40 (by decide)
                    refine wp_if (fun c_44 => ?_) (fun c_44 => ?_)
                    ·
                      have h_45 := x_r151 (fun q => absurd ((c_44).symm.trans q) (by decide))
                      have h_46 : Rg 8 8 _ := rg_eq1 h_43 rc_8 c_44 (by decide)
                      refine wp_rq (iR_28_5 h) ?_
                      refine wp_ix (in_rg h_5 (iA_33 h) (by decide)) ?_
                      refine wp_cqs (s_X9_put h_5 h_r147 h_45.1 h_45.2 h) (fun r243 D244 q_r243 => ?_)
                      obtain ⟨h_r243, h_D244⟩ := q_r243
                      exact s_X9_once_334 h_r243 h_D244
                    ·
                      have h_47 : Rg 9 11 _ := rg_ne1 h_43 rc_8 c_44 (by decide)
                      refine wp_if (fun c_48 => ?_) (fun c_48 => ?_)
                      ·
                        have h_49 := x_r151 (fun q => absurd ((c_48).symm.trans q) (by decide))
                        have h_50 : Rg 9 9 _ := rg_eq1 h_47 rc_9 c_48 (by decide)
                        refine wp_rq (iR_28_21 h) ?_
                        refine wp_rq (iR_28_3 h) ?_
                        refine wp_ix (in_rg h_5 (iA_31 h) (by decide)) ?_
                        refine wp_ix (in_rg (rg_eq (h.p 31 _ rfl) h_49.2) (iA_43 h) (by decide)) ?_
                        refine wp_cqs (s_X9_put h_5 h_r147 h_49.1 h_49.2 h) (fun r257 D258 q_r257 => ?_)
                        obtain ⟨h_r257, h_D258⟩ := q_r257
                        exact s_X9_once_334 h_r257 h_D258
                      ·
                        have h_51 : Rg 10 11 _ := rg_ne1 h_47 rc_9 c_48 (by decide)
                        refine wp_if (fun c_52 => ?_) (fun c_52 => ?_)
                        ·
                          have h_53 := x_r151 (fun q => absurd ((c_52).symm.trans q) (by decide))
                          have h_54 : Rg 10 10 _ := rg_eq1 h_51 rc_10 c_52 (by decide)
                          refine wp_rq (iR_28_1 h) ?_
                          refine wp_ix (in_rg h_5 (iA_29 h) (by decide)) ?_
                          refine wp_if (fun c_55 => ?_) (fun c_55 => ?_)
                          ·
                            have h_56 : Rg 219 219 _ := rg_eq1 (iI_29 h _) rc_219 c_55 (by decide)
                            exact s_X9_once_320 h_y148 h_5 (rg_w rc_8 (by decide)) h_53.1 h_53.2 h
                          ·
                            exact s_X9_once_320 h_y148 h_5 (rg_w rc_4 (by decide)) h_53.1 h_53.2 h
                        ·
                          have h_57 : Rg 11 11 _ := rg_ne1 h_51 rc_10 c_52 (by decide)
                          refine wp_cqs (s_X9_wide h_5 h_9.1 h_9.2 (cnt_lt h (x_r144 c_1)) h) (fun r267 D268 q_r267 => ?_)
                          obtain ⟨h_r267, h_D268⟩ := q_r267
                          exact ⟨_, rfl, h_r267, h_D268⟩
set_option maxRecDepth 100000 in
theorem s_X9_step_50 {g : gh} {S : sh}  {xs1 : Int32} {D : dt}  (h : Inv g S D) : wp (f_X9_step_50 S 28 28 xs1 D) (fun q => Inv g S q.2) := by
  unfold f_X9_step_50
  refine wp_nmI (fun D9 e_D9 => ?_)
  have h_D9 : Inv g S D9 := by rw [e_D9]; exact inv_i28 h (Or.inl (by decide)) (rg_top _)
  exact ⟨_, rfl, h_D9⟩
set_option maxRecDepth 100000 in
theorem s_X9_step_29 {g : gh} {S : sh}  {x1 : Int32} {xs1 : Int32} {D : dt} (hx1 : Rg 0 5 x1) (h : Inv g S D) : wp (f_X9_step_29 S 28 x1 28 xs1 D) (fun q => Inv g S q.2) := by
  unfold f_X9_step_29
  refine wp_nmI (fun D10 e_D10 => ?_)
  have h_D10 : Inv g S D10 := by rw [e_D10]; exact inv_i28 h (Or.inl (by decide)) (rg_top _)
  refine wp_if (fun c_1 => ?_) (fun c_1 => ?_)
  ·
    have h_2 : Rg 0 0 _ := rg_le1 hx1 rc_0 c_1 (by decide)
    exact s_X9_step_50 h_D10
  ·
    have h_3 : Rg 1 5 _ := rg_lt2 rc_0 hx1 (nle32 c_1) (by decide)
    exact s_X9_step_50 h_D10
set_option maxRecDepth 100000 in
theorem s_X9_step {g : gh} {S : sh}   {D : dt} (hcl : (∀ v : Int32, wp (f_X9_call S 28 v D) (fun q => Rg 0 1 q.1 ∧ Inv g S q.2))) (h : Inv g S D) : wp (f_X9_step S 28 D) (fun q => Inv g S q.2) := by
  unfold f_X9_step
  refine wp_if (fun c_1 => ?_) (fun c_1 => ?_)
  ·
    have h_2 : Rg 1 1 _ := rg_eq1 (rg_top _) rc_1 c_1 (by decide)
    refine wp_cqs (s_X9_once (by first | exact hcl | exact (fun ne => absurd rfl ne)) h) (fun r14 D15 q_r14 => ?_)
    obtain ⟨h_r14, h_D15⟩ := q_r14
    refine wp_if (fun c_3 => ?_) (fun c_3 => ?_)
    ·
      have h_4 : Rg 0 0 _ := rg_le1 h_r14 rc_0 c_3 (by decide)
      exact s_X9_step_29 (rg_w h_4 (by decide)) h_D15
    ·
      have h_5 : Rg 1 5 _ := rg_lt2 rc_0 h_r14 (nle32 c_3) (by decide)
      exact s_X9_step_29 (rg_w h_5 (by decide)) h_D15
  ·
    exact ⟨_, rfl, h⟩
theorem q_step9 {g : gh} {S : sh} {D : dt} (hb : g.1 6 < 1073741824) (h : Inv g S D) : wp (f_X9_step S 28 D) (fun q => Inv (pgg g) S q.2) := s_X9_step (g := pgg g) (fun v => q_call hb h) (h.pg hb)
set_option maxRecDepth 100000 in
theorem s_X9_run_57 {g : gh} {S : sh}   {D : dt}  (h : Inv g S D) : wp (f_X9_run_57 S 28 D) (fun q => Inv g S q.2) := by
  unfold f_X9_run_57
  exact ⟨_, rfl, h⟩
theorem q_run9_28 {S : sh} {x1 : Int32} (hx1 : Rg 0 10000 x1) : ∀ (n : Nat) (x2 : Int32) (D : dt) (g : gh), Rg 0 10000 x2 → 10000 - x2.toInt < (n : Int) → g.1 6 + 10000 - x2.toInt < 1073741824 → Inv g S D → wp (f_X9_run_28 S n 28 x1 x2 D) (fun q => ∃ g', Inv g' S q.2 ∧ Gx g g' 6 ∧ g'.1 6 ≤ g.1 6 + 10000 - x2.toInt) := by
  intro n
  induction n with
  | zero =>
    intro x2 D g hx2 hm _ h
    exact (ms_0 hx2 (by decide) hm).elim
  | succ n ih =>
    intro x2 D g hx2 hm hb h
    rw [f_X9_run_28.eq_2]
    have r2 := hx2.2
    unfold f_X9_run_57
    have stop : wp (some (gI D 28 18, D)) (fun q : Int32 × dt => ∃ g', Inv g' S q.2 ∧ Gx g g' 6 ∧ g'.1 6 ≤ g.1 6 + 10000 - x2.toInt) := ⟨_, rfl, g, h, fun _ _ => rfl, by omega⟩
    refine wp_if (fun _ => stop) (fun c => wp_if (fun _ => ?_) (fun _ => stop))
    have h6 : Rg 0 9999 x2 := rg_w (rg_lt1 hx2 hx1 (nle32 c) (l := 0) (h := 9999) (by decide)) (by decide)
    have hb' : g.1 6 < 1073741824 := by omega
    refine wp_cqs (s_X9_step (g := pgg g) (fun v => q_call hb' h) (h.pg hb')) (fun r D1 h1 => wp_nmI (fun D2 e2 => wp_nmI (fun y ey => ?_)))
    have h1 : Inv (pgg g) S D1 := h1
    have h2 : Inv (pgg g) S D2 := by rw [e2]; exact inv_i28 h1 (Or.inl (by decide)) (rg_top _)
    have l1 : (1 : Int32).toInt = 1 := rfl
    have e1 : y.toInt = x2.toInt + 1 := by rw [ey, i32_add h6 rc_1 (by decide), l1]
    have hy : Rg 1 10000 y := rg_eq ey (rg_add h6 rc_1 (by decide) : Rg 1 10000 _)
    have e6 : (pgg g).1 6 = g.1 6 + 1 := rfl
    refine wp_mono (ih y D2 (pgg g) (rg_w hy (by decide)) (by rw [ey]; exact ms_up h6 (by decide) hm) (by omega) h2) (fun q p => ?_)
    obtain ⟨g', a1, a2, a3⟩ := p
    refine ⟨g', a1, fun m hm => ?_, by omega⟩
    rw [a2 m hm]
    show (if m = 6 then g.1 6 + 1 else g.1 m) = g.1 m
    rw [if_neg hm]
theorem q_run9 {g : gh} {S : sh} {x1 : Int32} {D : dt} (hb : g.1 6 + 10000 < 1073741824) (h : Inv g S D) : wp (f_X9_run S 28 x1 D) (fun q => ∃ g', Inv g' S q.2 ∧ Gx g g' 6 ∧ g'.1 6 ≤ g.1 6 + 10000) := by
  unfold f_X9_run
  have l0 : (0 : Int32).toInt = 0 := rfl
  have l64 : (0 : Int64).toInt = 0 := rfl
  have lt : (10000 : Int64).toInt = 10000 := rfl
  refine wp_pqs in_iff32 (fun r p => wp_if (fun _ => ⟨_, rfl, g, h, fun _ _ => rfl, by omega⟩) (fun c => wp_if (fun _ => wp_nmI (fun y ey => ?_)) (fun _ => ⟨_, rfl, g, h, fun _ _ => rfl, by omega⟩)))
  have w := p.2 c
  have hy : Rg 0 0 y := rg_eq ey (by decide)
  have e0 : y.toInt = 0 := by rw [ey]; rfl
  refine wp_mono (q_run9_28 (x1 := x1) ⟨by omega, by omega⟩ LF y D g (rg_w hy (by decide)) (ms_in hy (by decide)) (by omega) h) (fun q a => ?_)
  obtain ⟨g', a1, a2, a3⟩ := a
  exact ⟨g', a1, a2, by omega⟩
set_option maxRecDepth 100000 in
theorem s_X9_context_36 {g : gh} {S : sh}  : ∀ (n : Nat) (x1 : Int32) (x2 : Int32) (x3 : Int32) (D : dt), Rg 0 256 x1 → Rg 0 256 x2 → Rg 0 256 x3 → 256 - x3.toInt < (n : Int) → Inv g S D → wp (f_X9_context_36 S n 28 x1 x2 x3 D) (fun q => Rg (-3) 256 q.1 ∧ Inv g S q.2) := by
  intro n
  induction n with
  | zero =>
    intro x1 x2 x3 D hx1 hx2 hx3 hm h
    exact (ms_0 hx3 (by decide) hm).elim
  | succ n ih =>
    intro x1 x2 x3 D hx1 hx2 hx3 hm h
    rw [f_X9_context_36.eq_2]
    refine wp_if (fun c_1 => ?_) (fun c_1 => ?_)
    ·
      refine wp_nmI (fun D17 e_D17 => ?_)
      have h_D17 : Inv g S D17 := by rw [e_D17]; exact inv_i28 h (Or.inl (by decide)) hx1
      exact ⟨_, rfl, (rg_w hx2 (by decide)), h_D17⟩
    ·
      have h_2 : Rg 0 255 _ := rg_lt1 hx3 hx1 (nle32 c_1) (by decide)
      have h_3 : Rg 1 256 _ := rg_lt2 hx3 hx1 (nle32 c_1) (by decide)
      refine wp_rq (iR_28_6 h) ?_
      refine wp_ix (in_rg h_2 (iA_34 h) (by decide)) ?_
      refine wp_nmI (fun D23 e_D23 => ?_)
      have h_D23 : Inv g S D23 := by rw [e_D23]; exact inv_i34 h (show Rg 0 255 _ from (rg_w rc_0 (by decide)))
      refine wp_nmI (fun y24 e_y24 => ?_)
      have h_y24 : Rg 1 256 y24 := rg_eq e_y24 (rg_add h_2 rc_1 (by decide) : Rg 1 256 _)
      exact ih _ _ _ _ (rg_w h_3 (by decide)) hx2 (rg_w h_y24 (by decide)) (by rw [e_y24]; exact ms_up h_2 (by decide) hm) h_D23
set_option maxRecDepth 100000 in
theorem s_X9_context {g : gh} {S : sh}  {x1 : Int32} {D : dt}  (h : Inv g S D) : wp (f_X9_context S 28 x1 D) (fun q => Rg (-3) 256 q.1 ∧ Inv g S q.2) := by
  unfold f_X9_context
  refine wp_pqs (s_X9_in) (fun r26 q_r26 => ?_)
  obtain ⟨h_r26, x_r26⟩ := q_r26
  refine wp_if (fun c_1 => ?_) (fun c_1 => ?_)
  ·
    have h_2 : Rg 0 0 _ := rg_eq1 h_r26 rc_0 c_1 (by decide)
    exact ⟨_, rfl, (rg_w rc_m2 (by decide)), h⟩
  ·
    have h_3 := x_r26 c_1
    have h_4 : RgL 0 256 _ := rgl_in (rgl_of (rg_top _) : RgL (-2147483648) 2147483647 _) rcl_0 rcl_256 h_3 (by decide)
    have h_5 : Rg 0 256 _ := rg_of32 h_4
    have h_6 : Rg 1 1 _ := rg_ne1 h_r26 rc_0 c_1 (by decide)
    refine wp_if (fun c_7 => ?_) (fun c_7 => ?_)
    ·
      have h_8 : Rg 1 1 _ := rg_eq1 (rg_top _) rc_1 c_7 (by decide)
      exact ⟨_, rfl, (rg_w rc_m3 (by decide)), h⟩
    ·
      refine wp_nmI (fun y29 e_y29 => ?_)
      have h_y29 : Rg 0 256 y29 := rg_eq e_y29 (iF_28_7 h)
      refine wp_nmI (fun y30 e_y30 => ?_)
      have h_y30 : Rg 0 256 y30 := rg_eq e_y30 (iF_28_7 h)
      exact s_X9_context_36  LF _ _ _ _ h_5 h_y29 h_y30 (ms_in h_y30 (by decide)) h
set_option maxRecDepth 100000 in
theorem s_X9_poke {g : gh} {S : sh}  {x1 : Int32} {x2 : Int32} {D : dt}  (h : Inv g S D) : wp (f_X9_poke S 28 x1 x2 D) (fun q => Rg (-3) 255 q.1 ∧ Inv g S q.2) := by
  unfold f_X9_poke
  refine wp_pqs (s_X9_in) (fun r21 q_r21 => ?_)
  obtain ⟨h_r21, x_r21⟩ := q_r21
  refine wp_if (fun c_1 => ?_) (fun c_1 => ?_)
  ·
    have h_2 : Rg 0 0 _ := rg_eq1 h_r21 rc_0 c_1 (by decide)
    exact ⟨_, rfl, (rg_w rc_m1 (by decide)), h⟩
  ·
    have h_3 := x_r21 c_1
    have h_4 : RgL 0 255 _ := rgl_in (rgl_of (rg_top _) : RgL (-2147483648) 2147483647 _) rcl_0 (rgl_of (rg_sub (iF_28_7 h) rc_1 (by decide) : Rg (-1) 255 _) : RgL (-1) 255 _) h_3 (by decide)
    have h_5 : Rg 0 255 _ := rg_of32 h_4
    have h_6 : Rg 1 1 _ := rg_ne1 h_r21 rc_0 c_1 (by decide)
    refine wp_pqs (s_X9_in) (fun r24 q_r24 => ?_)
    obtain ⟨h_r24, x_r24⟩ := q_r24
    refine wp_if (fun c_7 => ?_) (fun c_7 => ?_)
    ·
      have h_8 : Rg 0 0 _ := rg_eq1 h_r24 rc_0 c_7 (by decide)
      exact ⟨_, rfl, (rg_w rc_m2 (by decide)), h⟩
    ·
      have h_9 := x_r24 c_7
      have h_10 : RgL 0 255 _ := rgl_in (rgl_of (rg_top _) : RgL (-2147483648) 2147483647 _) rcl_0 rcl_255 h_9 (by decide)
      have h_11 : Rg 0 255 _ := rg_of32 h_10
      have h_12 : Rg 1 1 _ := rg_ne1 h_r24 rc_0 c_7 (by decide)
      refine wp_if (fun c_13 => ?_) (fun c_13 => ?_)
      ·
        have h_14 : Rg 1 1 _ := rg_eq1 (rg_top _) rc_1 c_13 (by decide)
        exact ⟨_, rfl, (rg_w rc_m3 (by decide)), h⟩
      ·
        refine wp_rq (iR_28_6 h) ?_
        refine wp_ix (in_rg h_5 (iA_34 h) (by decide)) ?_
        refine wp_nmI (fun y32 e_y32 => ?_)
        have h_y32 : Rg 0 255 y32 := rg_eq e_y32 (iI_34 h _)
        refine wp_rq (iR_28_6 h) ?_
        refine wp_ix (in_rg h_5 (iA_34 h) (by decide)) ?_
        refine wp_nmI (fun D38 e_D38 => ?_)
        have h_D38 : Inv g S D38 := by rw [e_D38]; exact inv_i34 h h_11
        exact ⟨_, rfl, (rg_w h_y32 (by decide)), h_D38⟩
set_option maxRecDepth 100000 in
theorem s_X9_tick_19 {g : gh} {S : sh}   {D : dt}  (h : Inv g S D) : wp (f_X9_tick_19 S D) (fun q => Inv g S q.2) := by
  unfold f_X9_tick_19
  exact ⟨_, rfl, h⟩
theorem q_tick9 {g : gh} {S : sh} {x1 : Int64} {D : dt} (h : Inv g S D) : wp (f_X9_tick S 28 x1 D) (fun q => ∃ g', Inv g' S q.2 ∧ Gx g g' 5 ∧ tiT (g.1 5) x1 q.1.toInt (g'.1 5)) := by
  unfold f_X9_tick f_X9_tick_19
  have ec : (gL D 28 17).toInt = g.1 5 := h.l.2
  have hk : RgL 0 4611686018427387904 (gL D 28 17) := by
    have := h.gg.2.2.2.2.2.1
    unfold RgL
    rw [ec]
    exact this
  refine wp_if (fun c => ⟨_, rfl, g, h, fun _ _ => rfl, ti_no (ti_lo c)⟩) (fun c0 => wp_if (fun c => wp_nmI (fun D1 e1 => ?_)) (fun c => ⟨_, rfl, g, h, fun _ _ => rfl, ti_no (ec ▸ ti_hi hk c)⟩))
  have c0 := ti_nlo c0
  have c := ti_in hk c
  have ea := ti_add hk c c0
  have h1 : Inv (upN g 5 (gL D 28 17 + x1).toInt) S D1 := by rw [e1]; exact inv_ck28 h (by obtain ⟨k1, k2⟩ := hk; unfold RgL; rw [ea]; omega)
  refine ⟨_, rfl, upN g 5 (gL D 28 17 + x1).toInt, h1, fun m hm => ?_, ?_⟩
  · show (if m = 5 then _ else g.1 m) = g.1 m
    rw [if_neg hm]
  · show tiT (g.1 5) x1 (gL D1 28 17).toInt (gL D 28 17 + x1).toInt
    rw [e1, gL_pL, if_pos ⟨rfl, rfl⟩, ea, ec]
    exact ⟨fun _ => ⟨rfl, rfl⟩, fun n => absurd ⟨c0, by omega⟩ n⟩
set_option maxRecDepth 100000 in
theorem s_X9_told {g : gh} {S : sh} {D : dt}  {x1 : Int32}  (h : Inv g S D) : wp (f_X9_told S D 28 x1) (fun q => True) := by
  unfold f_X9_told
  refine wp_if (fun c_1 => ?_) (fun c_1 => ?_)
  ·
    have h_2 : Rg 0 0 _ := rg_eq1 (rg_top _) rc_0 c_1 (by decide)
    exact ⟨_, rfl, trivial⟩
  ·
    refine wp_if (fun c_3 => ?_) (fun c_3 => ?_)
    ·
      have h_4 : Rg 1 1 _ := rg_eq1 (rg_top _) rc_1 c_3 (by decide)
      exact ⟨_, rfl, trivial⟩
    ·
      refine wp_if (fun c_5 => ?_) (fun c_5 => ?_)
      ·
        have h_6 : Rg 2 2 _ := rg_eq1 (rg_top _) rc_2 c_5 (by decide)
        exact ⟨_, rfl, trivial⟩
      ·
        refine wp_if (fun c_7 => ?_) (fun c_7 => ?_)
        ·
          have h_8 : Rg 3 3 _ := rg_eq1 (rg_top _) rc_3 c_7 (by decide)
          exact ⟨_, rfl, trivial⟩
        ·
          refine wp_if (fun c_9 => ?_) (fun c_9 => ?_)
          ·
            have h_10 : Rg 4 4 _ := rg_eq1 (rg_top _) rc_4 c_9 (by decide)
            exact ⟨_, rfl, trivial⟩
          ·
            refine wp_if (fun c_11 => ?_) (fun c_11 => ?_)
            ·
              have h_12 : Rg 5 5 _ := rg_eq1 (rg_top _) rc_5 c_11 (by decide)
              exact ⟨_, rfl, trivial⟩
            ·
              exact ⟨_, rfl, trivial⟩
set_option maxRecDepth 100000 in
theorem s_X9_register {g : gh} {S : sh} {D : dt}  {x1 : Int32}  (h : Inv g S D) : wp (f_X9_register S D 28 x1) (fun q => True) := by
  unfold f_X9_register
  refine wp_pqs (s_X9_in) (fun r10 q_r10 => ?_)
  obtain ⟨h_r10, x_r10⟩ := q_r10
  refine wp_if (fun c_1 => ?_) (fun c_1 => ?_)
  ·
    have h_2 : Rg 0 0 _ := rg_eq1 h_r10 rc_0 c_1 (by decide)
    exact ⟨_, rfl, trivial⟩
  ·
    have h_3 := x_r10 c_1
    have h_4 : RgL 0 10 _ := rgl_in (rgl_of (rg_top _) : RgL (-2147483648) 2147483647 _) rcl_0 rcl_10 h_3 (by decide)
    have h_5 : Rg 0 10 _ := rg_of32 h_4
    have h_6 : Rg 1 1 _ := rg_ne1 h_r10 rc_0 c_1 (by decide)
    refine wp_rq (iR_28_21 h) ?_
    refine wp_ix (in_rg h_5 (iA_43 h) (by decide)) ?_
    exact ⟨_, rfl, trivial⟩
theorem q_putAt9_18 {g : gh} {S : sh} {D : dt} {x1 xs0 : Int32} (hxs0 : Rg 0 32 xs0) (hle : xs0.toInt ≤ (gI D 28 22).toInt) (h : Inv g S D) : wp (f_X9_putAt_18 S D 28 x1 xs0) (fun _ => True) := by
  unfold f_X9_putAt_18
  refine wp_pqs in_iff32 (fun r p => wp_if (fun _ => ⟨_, rfl, trivial⟩) (fun c => wp_rq (iR_28_23 h) (wp_ix ?_ ⟨_, rfl, trivial⟩)))
  have q := p.2 c
  have l0 : (0 : Int64).toInt = 0 := rfl
  have l1 : (1 : Int32).toInt = 1 := rfl
  rw [Int32.toInt_toInt64, i32_sub hxs0 (by decide : Rg 1 1 (1 : Int32)) (by decide), l0, l1] at q
  have hp := iF_28_22 h
  have e1 : (gI D 28 22 - xs0).toInt = (gI D 28 22).toInt - xs0.toInt := i32_sub hp hxs0 (by decide)
  obtain ⟨p1, p2⟩ := hp
  obtain ⟨s1, s2⟩ := hxs0
  have r1 : Rg 0 1073741824 (gI D 28 22 - xs0) := ⟨by omega, by omega⟩
  have r2 : Rg 0 31 x1 := ⟨by omega, by omega⟩
  have r3 : Rg 0 1073741855 (gI D 28 22 - xs0 + x1) := rg_add r1 r2 (by decide)
  have t := tmod_s (gI D 28 22 - xs0 + x1).toInt
  refine in_rg (a := 0) (b := 31) ?_ (iA_44 h) (by decide)
  unfold Rg
  rw [rem32]
  have := t.1 r3.1
  omega
theorem s_X9_putAt {g : gh} {S : sh} {D : dt} {x1 : Int32} (h : Inv g S D) : wp (f_X9_putAt S D 28 x1) (fun q => True) := by
  unfold f_X9_putAt
  have l : (32 : Int32).toInt = 32 := rfl
  have hp := iF_28_22 h
  exact wp_if (fun c => q_putAt9_18 (by decide) (Int32.le_iff_toInt_le.mp c) h) (fun c => q_putAt9_18 ⟨hp.1, by have := Int32.lt_iff_toInt_lt.mp (nle32 c); omega⟩ (Int.le_refl _) h)
set_option maxRecDepth 100000 in
theorem s_X9_take_175 {g : gh} {S : sh}  : ∀ (n : Nat) (x1 : Int32) (x2 : Int32) (D : dt), Rg 0 199 x1 → Rg 0 512 x2 → 512 - x2.toInt < (n : Int) → Inv g S D → wp (f_X9_take_175 S n 28 x1 x2 D) (fun q => Inv g S q.2) := by
  intro n
  induction n with
  | zero =>
    intro x1 x2 D hx1 hx2 hm h
    exact (ms_0 hx2 (by decide) hm).elim
  | succ n ih =>
    intro x1 x2 D hx1 hx2 hm h
    rw [f_X9_take_175.eq_2]
    refine wp_if (fun c_1 => ?_) (fun c_1 => ?_)
    ·
      have h_2 : Rg 512 512 _ := rg_le2 rc_512 hx2 c_1 (by decide)
      exact ⟨_, rfl, h⟩
    ·
      have h_3 : Rg 0 511 _ := rg_lt1 hx2 rc_512 (nle32 c_1) (by decide)
      refine wp_rq (iR_28_45 h) ?_
      refine wp_rq (iR_28_34 h) ?_
      refine wp_ix (in_rg (rg_add (rg_mul rc_512 hx1 (by decide) : Rg 0 101888 _) h_3 (by decide) : Rg 0 102399 _) (iA_54 h) (by decide)) ?_
      refine wp_ix (in_rg h_3 (iA_65 h) (by decide)) ?_
      refine wp_nmI (fun D145 e_D145 => ?_)
      have h_D145 : Inv g S D145 := by rw [e_D145]; exact inv_i65 h (rg_top _)
      refine wp_nmI (fun y146 e_y146 => ?_)
      have h_y146 : Rg 1 512 y146 := rg_eq e_y146 (rg_add h_3 rc_1 (by decide) : Rg 1 512 _)
      exact ih _ _ _ hx1 (rg_w h_y146 (by decide)) (by rw [e_y146]; exact ms_up h_3 (by decide) hm) h_D145
set_option maxRecDepth 100000 in
theorem s_X9_take_83 {g : gh} {S : sh}  : ∀ (n : Nat) (x1 : Int32) (x2 : Int32) (D : dt), Rg 0 199 x1 → Rg 0 64 x2 → g.1 12 = 0 → 64 - x2.toInt < (n : Int) → Inv g S D → wp (f_X9_take_83 S n 28 x1 x2 D) (fun q => Inv g S q.2) := by
  intro n
  induction n with
  | zero =>
    intro x1 x2 D hx1 hx2 hfz hm h
    exact (ms_0 hx2 (by decide) hm).elim
  | succ n ih =>
    intro x1 x2 D hx1 hx2 hfz hm h
    rw [f_X9_take_83.eq_2]
    refine wp_if (fun c_1 => ?_) (fun c_1 => ?_)
    ·
      have h_2 : Rg 64 64 _ := rg_le2 rc_64 hx2 c_1 (by decide)
      refine wp_nmI (fun y148 e_y148 => ?_)
      have h_y148 : Rg 0 0 y148 := rg_eq e_y148 rc_0
      exact s_X9_take_175  LF _ _ _ hx1 (rg_w h_y148 (by decide)) (ms_in h_y148 (by decide)) h
    ·
      have h_3 : Rg 0 63 _ := rg_lt1 hx2 rc_64 (nle32 c_1) (by decide)
      refine wp_nmI (fun y149 e_y149 => ?_)
      have h_y149 : Rg 0 12799 y149 := rg_eq e_y149 (rg_add (rg_mul rc_64 hx1 (by decide) : Rg 0 12736 _) h_3 (by decide) : Rg 0 12799 _)
      refine wp_nmI (fun y150 e_y150 => ?_)
      have h_y150 : Rg 11 74 y150 := rg_eq e_y150 (rg_add rc_11 h_3 (by decide) : Rg 11 74 _)
      refine wp_rq (iR_28_40 h) ?_
      refine wp_rq (iR_28_35 h) ?_
      refine wp_ix (in_rg h_y149 (iA_55 h) (by decide)) ?_
      refine wp_ix (in_rg h_y150 (iA_60 h) (by decide)) ?_
      refine wp_nmI (fun D161 e_D161 => ?_)
      refine wp_rq (x := 61) (by rw [e_D161, gR_pI]; exact (iR_28_41 h)) ?_
      refine wp_rq (x := 56) (by rw [e_D161, gR_pI]; exact (iR_28_36 h)) ?_
      refine wp_ix (in_rg h_y149 (iA_56 h) (by decide)) ?_
      refine wp_ix (in_rg h_y150 (iA_61 h) (by decide)) ?_
      refine wp_nmI (fun D172 e_D172 => ?_)
      have h_D172 : Inv g S D172 := by rw [e_D172, e_D161]; exact inv_kl60 h (fun _ => Or.inl hfz) (by rw [gL_pI]; exact h.k.2.2.1 _)
      refine wp_rq (iR_28_42 h_D172) ?_
      refine wp_rq (iR_28_37 h_D172) ?_
      refine wp_ix (in_rg h_y149 (iA_57 h_D172) (by decide)) ?_
      refine wp_ix (in_rg h_y150 (iA_62 h_D172) (by decide)) ?_
      refine wp_nmI (fun D183 e_D183 => ?_)
      have h_D183 : Inv g S D183 := by rw [e_D183]; exact inv_l62 h_D172
      refine wp_rq (iR_28_43 h_D183) ?_
      refine wp_rq (iR_28_38 h_D183) ?_
      refine wp_ix (in_rg h_y149 (iA_58 h_D183) (by decide)) ?_
      refine wp_ix (in_rg h_y150 (iA_63 h_D183) (by decide)) ?_
      refine wp_nmI (fun D194 e_D194 => ?_)
      have h_D194 : Inv g S D194 := by rw [e_D194]; exact inv_i63 h_D183 (iI_58 h_D183 _)
      refine wp_rq (iR_28_44 h_D194) ?_
      refine wp_rq (iR_28_39 h_D194) ?_
      refine wp_ix (in_rg h_y149 (iA_59 h_D194) (by decide)) ?_
      refine wp_ix (in_rg h_y150 (iA_64 h_D194) (by decide)) ?_
      refine wp_nmI (fun D205 e_D205 => ?_)
      have h_D205 : Inv g S D205 := by rw [e_D205]; exact inv_i64 h_D194 (rg_top _)
      refine wp_nmI (fun y206 e_y206 => ?_)
      have h_y206 : Rg 1 64 y206 := rg_eq e_y206 (rg_add h_3 rc_1 (by decide) : Rg 1 64 _)
      exact ih _ _ _ hx1 (rg_w h_y206 (by decide)) hfz (by rw [e_y206]; exact ms_up h_3 (by decide) hm) h_D205
set_option maxRecDepth 100000 in
theorem s_X9_take_2 {g : gh} {S : sh}  : ∀ (n : Nat) (x1 : Int32) (x2 : Int32) (D : dt), Rg 0 199 x1 → Rg 0 11 x2 → g.1 12 = 0 → 11 - x2.toInt < (n : Int) → Inv g S D → wp (f_X9_take_2 S n 28 x1 x2 D) (fun q => Inv g S q.2) := by
  intro n
  induction n with
  | zero =>
    intro x1 x2 D hx1 hx2 hfz hm h
    exact (ms_0 hx2 (by decide) hm).elim
  | succ n ih =>
    intro x1 x2 D hx1 hx2 hfz hm h
    rw [f_X9_take_2.eq_2]
    refine wp_if (fun c_1 => ?_) (fun c_1 => ?_)
    ·
      have h_2 : Rg 11 11 _ := rg_le2 rc_11 hx2 c_1 (by decide)
      refine wp_nmI (fun y208 e_y208 => ?_)
      have h_y208 : Rg 0 0 y208 := rg_eq e_y208 rc_0
      exact s_X9_take_83  LF _ _ _ hx1 (rg_w h_y208 (by decide)) hfz (ms_in h_y208 (by decide)) h
    ·
      have h_3 : Rg 0 10 _ := rg_lt1 hx2 rc_11 (nle32 c_1) (by decide)
      refine wp_nmI (fun y209 e_y209 => ?_)
      have h_y209 : Rg 0 2199 y209 := rg_eq e_y209 (rg_add (rg_mul rc_11 hx1 (by decide) : Rg 0 2189 _) h_3 (by decide) : Rg 0 2199 _)
      refine wp_rq (iR_28_40 h) ?_
      refine wp_rq (iR_28_29 h) ?_
      refine wp_ix (in_rg h_y209 (iA_49 h) (by decide)) ?_
      refine wp_ix (in_rg h_3 (iA_60 h) (by decide)) ?_
      refine wp_nmI (fun D220 e_D220 => ?_)
      refine wp_rq (x := 61) (by rw [e_D220, gR_pI]; exact (iR_28_41 h)) ?_
      refine wp_rq (x := 50) (by rw [e_D220, gR_pI]; exact (iR_28_30 h)) ?_
      refine wp_ix (in_rg h_y209 (iA_50 h) (by decide)) ?_
      refine wp_ix (in_rg h_3 (iA_61 h) (by decide)) ?_
      refine wp_nmI (fun D231 e_D231 => ?_)
      have h_D231 : Inv g S D231 := by rw [e_D231, e_D220]; exact inv_kl60 h (fun _ => Or.inl hfz) (by rw [gL_pI]; exact h.k.2.1 _)
      refine wp_rq (iR_28_42 h_D231) ?_
      refine wp_rq (iR_28_31 h_D231) ?_
      refine wp_ix (in_rg h_y209 (iA_51 h_D231) (by decide)) ?_
      refine wp_ix (in_rg h_3 (iA_62 h_D231) (by decide)) ?_
      refine wp_nmI (fun D242 e_D242 => ?_)
      have h_D242 : Inv g S D242 := by rw [e_D242]; exact inv_l62 h_D231
      refine wp_rq (iR_28_43 h_D242) ?_
      refine wp_rq (iR_28_32 h_D242) ?_
      refine wp_ix (in_rg h_y209 (iA_52 h_D242) (by decide)) ?_
      refine wp_ix (in_rg h_3 (iA_63 h_D242) (by decide)) ?_
      refine wp_nmI (fun D253 e_D253 => ?_)
      have h_D253 : Inv g S D253 := by rw [e_D253]; exact inv_i63 h_D242 (iI_52 h_D242 _)
      refine wp_rq (iR_28_44 h_D253) ?_
      refine wp_rq (iR_28_33 h_D253) ?_
      refine wp_ix (in_rg h_y209 (iA_53 h_D253) (by decide)) ?_
      refine wp_ix (in_rg h_3 (iA_64 h_D253) (by decide)) ?_
      refine wp_nmI (fun D264 e_D264 => ?_)
      have h_D264 : Inv g S D264 := by rw [e_D264]; exact inv_i64 h_D253 (rg_top _)
      refine wp_nmI (fun y265 e_y265 => ?_)
      have h_y265 : Rg 1 11 y265 := rg_eq e_y265 (rg_add h_3 rc_1 (by decide) : Rg 1 11 _)
      exact ih _ _ _ hx1 (rg_w h_y265 (by decide)) hfz (by rw [e_y265]; exact ms_up h_3 (by decide) hm) h_D264
set_option maxRecDepth 100000 in
theorem s_X9_take {g : gh} {S : sh}  {x1 : Int32} {D : dt} (hx1 : Rg 0 199 x1) (hfz : g.1 12 = 0) (h : Inv g S D) : wp (f_X9_take S 28 x1 D) (fun q => Inv g S q.2) := by
  unfold f_X9_take
  refine wp_nmI (fun y266 e_y266 => ?_)
  have h_y266 : Rg 0 0 y266 := rg_eq e_y266 rc_0
  exact s_X9_take_2  LF _ _ _ hx1 (rg_w h_y266 (by decide)) hfz (ms_in h_y266 (by decide)) h
set_option maxRecDepth 100000 in
theorem s_X9_copy_109 {g : gh} {S : sh}  : ∀ (n : Nat) (x3 : Int32) (x4 : Int32) (D : dt), Rg 0 512 x3 → Rg 0 512 x4 → 512 - x4.toInt < (n : Int) → Inv g S D → wp (f_X9_copy_109 S n 28 x3 x4 D) (fun q => Inv g S q.2) := by
  intro n
  induction n with
  | zero =>
    intro x3 x4 D hx3 hx4 hm h
    exact (ms_0 hx4 (by decide) hm).elim
  | succ n ih =>
    intro x3 x4 D hx3 hx4 hm h
    rw [f_X9_copy_109.eq_2]
    refine wp_if (fun c_1 => ?_) (fun c_1 => ?_)
    ·
      have h_2 : Rg 512 512 _ := rg_le2 rc_512 hx4 c_1 (by decide)
      exact ⟨_, rfl, h⟩
    ·
      have h_3 : Rg 0 511 _ := rg_lt1 hx4 rc_512 (nle32 c_1) (by decide)
      refine wp_rq (iR_28_45 h) ?_
      refine wp_rq (iR_28_45 h) ?_
      refine wp_ix (in_rg (rg_add hx3 h_3 (by decide) : Rg 0 1023 _) (iA_65 h) (by decide)) ?_
      refine wp_ix (in_rg (rg_add (rg_sub rc_512 hx3 (by decide) : Rg 0 512 _) h_3 (by decide) : Rg 0 1023 _) (iA_65 h) (by decide)) ?_
      refine wp_nmI (fun D85 e_D85 => ?_)
      have h_D85 : Inv g S D85 := by rw [e_D85]; exact inv_i65 h (rg_top _)
      refine wp_nmI (fun y86 e_y86 => ?_)
      have h_y86 : Rg 1 512 y86 := rg_eq e_y86 (rg_add h_3 rc_1 (by decide) : Rg 1 512 _)
      exact ih _ _ _ hx3 (rg_w h_y86 (by decide)) (by rw [e_y86]; exact ms_up h_3 (by decide) hm) h_D85
set_option maxRecDepth 100000 in
theorem s_X9_copy_105 {g : gh} {S : sh}  {xs0 : Int32} {D : dt} (hxs0 : Rg 0 512 xs0) (h : Inv g S D) : wp (f_X9_copy_105 S 28 xs0 D) (fun q => Inv g S q.2) := by
  unfold f_X9_copy_105
  refine wp_nmI (fun y87 e_y87 => ?_)
  have h_y87 : Rg 0 0 y87 := rg_eq e_y87 rc_0
  exact s_X9_copy_109  LF _ _ _ hxs0 (rg_w h_y87 (by decide)) (ms_in h_y87 (by decide)) h
theorem s_X9_copy_2 {g : gh} {S : sh} {x1 x2 : Int32} (hcp : g.1 12 = 0 ∨ ∀ j, j < 75 → g.2 60 (75 + j) = g.2 60 j) (hab : (x1 = 0 ∧ x2 = 75) ∨ (x1 = 75 ∧ x2 = 0)) : ∀ (n : Nat) (x3 : Int32) (D : dt), Rg 0 75 x3 → 75 - x3.toInt < (n : Int) → Inv g S D → wp (f_X9_copy_2 S n 28 x1 x2 x3 D) (fun q => Inv g S q.2) := by
  have hx1 : Rg 0 75 x1 := by rcases hab with ⟨rfl, -⟩ | ⟨rfl, -⟩ <;> decide
  have hx2 : Rg 0 75 x2 := by rcases hab with ⟨-, rfl⟩ | ⟨-, rfl⟩ <;> decide
  intro n
  induction n with
  | zero =>
    intro x3 D hx3 hm h
    exact (ms_0 hx3 (by decide) hm).elim
  | succ n ih =>
    intro x3 D hx3 hm h
    rw [f_X9_copy_2.eq_2]
    refine wp_if (fun c_1 => wp_if (fun _ => s_X9_copy_105 (by decide) h) (fun _ => s_X9_copy_105 (by decide) h)) (fun c_1 => ?_)
    have h6 : Rg 0 74 _ := rg_lt1 hx3 rc_75 (nle32 c_1) (by decide)
    have i1 : ∀ {o : Nat}, sA S o = 150 → vp_in (x1 + x3) (sA S o) := fun e => in_rg (rg_add hx1 h6 (by decide) : Rg 0 149 _) e (by decide)
    have i2 : ∀ {o : Nat}, sA S o = 150 → vp_in (x2 + x3) (sA S o) := fun e => in_rg (rg_add hx2 h6 (by decide) : Rg 0 149 _) e (by decide)
    refine wp_rq (iR_28_40 h) (wp_rq (iR_28_40 h) (wp_ix (i1 (iA_60 h)) (wp_ix (i2 (iA_60 h)) (wp_nmI (fun D1 e1 => ?_)))))
    refine wp_rq (x := 61) (by rw [e1, gR_pI]; exact iR_28_41 h) (wp_rq (x := 61) (by rw [e1, gR_pI]; exact iR_28_41 h) (wp_ix (i1 (iA_61 h)) (wp_ix (i2 (iA_61 h)) (wp_nmI (fun D2 e2 => ?_)))))
    have h2 : Inv g S D2 := by rw [e2, e1]; exact inv_kl60 h (cpK h hcp hab h6) (by rw [gL_pI]; exact h.k.1 _)
    refine wp_rq (iR_28_42 h2) (wp_rq (iR_28_42 h2) (wp_ix (i1 (iA_62 h)) (wp_ix (i2 (iA_62 h)) (wp_nmI (fun D3 e3 => ?_)))))
    have h3 : Inv g S D3 := by rw [e3]; exact inv_l62 h2
    refine wp_rq (iR_28_43 h3) (wp_rq (iR_28_43 h3) (wp_ix (i1 (iA_63 h)) (wp_ix (i2 (iA_63 h)) (wp_nmI (fun D4 e4 => ?_)))))
    have h4 : Inv g S D4 := by rw [e4]; exact inv_i63 h3 (iI_63 h3 _)
    refine wp_rq (iR_28_44 h4) (wp_rq (iR_28_44 h4) (wp_ix (i1 (iA_64 h)) (wp_ix (i2 (iA_64 h)) (wp_nmI (fun D5 e5 => ?_)))))
    have h5 : Inv g S D5 := by rw [e5]; exact inv_i64 h4 (rg_top _)
    refine wp_nmI (fun y ey => ?_)
    have hy : Rg 1 75 y := rg_eq ey (rg_add h6 rc_1 (by decide) : Rg 1 75 _)
    exact ih _ _ (rg_w hy (by decide)) (by rw [ey]; exact ms_up h6 (by decide) hm) h5
/-- the first copy: the kinds are those of the registers -/
theorem q_copyK {g : gh} {S : sh} (K : Nat → Int32) (m : Int32) (hfz : g.1 12 = 0) : ∀ (n : Nat) (x3 : Int32) (D : dt), Rg 0 75 x3 → 75 - x3.toInt < (n : Int) → (∀ j, j < 75 → gI D 60 j = K j) → (∀ j, j < x3.toNatClampNeg → gI D 60 (75 + j) = K j) → gI D 28 53 = m → Inv g S D → wp (f_X9_copy_2 S n 28 0 75 x3 D) (fun q => (∀ j, j < 75 → gI q.2 60 j = 3 → K j = 3) ∧ (∀ j, j < 75 → gI q.2 60 (75 + j) = 3 → K j = 3) ∧ gI q.2 28 53 = m ∧ Inv g S q.2) := by
  intro n
  induction n with
  | zero =>
    intro x3 D hx3 hm _ _ _ h
    exact (ms_0 hx3 (by decide) hm).elim
  | succ n ih =>
    intro x3 D hx3 hm ka kb k53 h
    rw [f_X9_copy_2.eq_2]
    refine wp_if (fun c_1 => wp_if (fun _ => ?_) (fun n => absurd rfl n)) (fun c_1 => ?_)
    · have h2 : Rg 75 75 _ := rg_le2 rc_75 hx3 c_1 (by decide)
      refine wp_mono (s_X9_copy_105 (g := fzg g D) (by decide) h.fz) (fun q r => ?_)
      have r : Inv (fzg g D) S q.2 := r
      obtain ⟨-, -, -, -, f5, f6⟩ := r.f (fz12 g D)
      have f5 : ∀ j, gI q.2 60 j = 3 → gI D 60 j = 3 := f5
      have f6 : gI q.2 28 53 = gI D 28 53 := f6
      have t := tnc (x := x3) hx3.1
      refine ⟨fun j w e => ?_, fun j w e => ?_, f6.trans k53, r.unfz hfz⟩
      · rw [← ka j w]
        exact f5 j e
      · rw [← kb j (by have := h2.1; omega)]
        exact f5 _ e
    · have h6 : Rg 0 74 _ := rg_lt1 hx3 rc_75 (nle32 c_1) (by decide)
      have i1 : ∀ {o : Nat}, sA S o = 150 → vp_in ((0 : Int32) + x3) (sA S o) := fun e => in_rg (rg_add rc_0 h6 (by decide) : Rg 0 149 _) e (by decide)
      have i2 : ∀ {o : Nat}, sA S o = 150 → vp_in ((75 : Int32) + x3) (sA S o) := fun e => in_rg (rg_add rc_75 h6 (by decide) : Rg 0 149 _) e (by decide)
      refine wp_rq (iR_28_40 h) (wp_rq (iR_28_40 h) (wp_ix (i1 (iA_60 h)) (wp_ix (i2 (iA_60 h)) (wp_nmI (fun D1 e1 => ?_)))))
      refine wp_rq (x := 61) (by rw [e1, gR_pI]; exact iR_28_41 h) (wp_rq (x := 61) (by rw [e1, gR_pI]; exact iR_28_41 h) (wp_ix (i1 (iA_61 h)) (wp_ix (i2 (iA_61 h)) (wp_nmI (fun D2 e2 => ?_)))))
      have h2 : Inv g S D2 := by rw [e2, e1]; exact inv_kl60 h (fun _ => Or.inl hfz) (by rw [gL_pI]; exact h.k.1 _)
      refine wp_rq (iR_28_42 h2) (wp_rq (iR_28_42 h2) (wp_ix (i1 (iA_62 h)) (wp_ix (i2 (iA_62 h)) (wp_nmI (fun D3 e3 => ?_)))))
      have h3 : Inv g S D3 := by rw [e3]; exact inv_l62 h2
      refine wp_rq (iR_28_43 h3) (wp_rq (iR_28_43 h3) (wp_ix (i1 (iA_63 h)) (wp_ix (i2 (iA_63 h)) (wp_nmI (fun D4 e4 => ?_)))))
      have h4 : Inv g S D4 := by rw [e4]; exact inv_i63 h3 (iI_63 h3 _)
      refine wp_rq (iR_28_44 h4) (wp_rq (iR_28_44 h4) (wp_ix (i1 (iA_64 h)) (wp_ix (i2 (iA_64 h)) (wp_nmI (fun D5 e5 => ?_)))))
      have h5 : Inv g S D5 := by rw [e5]; exact inv_i64 h4 (rg_top _)
      refine wp_nmI (fun y ey => ?_)
      have hy : Rg 1 75 y := rg_eq ey (rg_add h6 rc_1 (by decide) : Rg 1 75 _)
      have l1 : (1 : Int32).toInt = 1 := rfl
      have e1' : y.toInt = x3.toInt + 1 := by rw [ey, i32_add h6 rc_1 (by decide), l1]
      have t := tnc (x := x3) h6.1
      have ty := tnc (x := y) (by have := hy.1; omega)
      have z0 : ((0 : Int32) + x3).toNatClampNeg = x3.toNatClampNeg := by rw [Int32.zero_add]
      have K5 : ∀ a, gI D5 60 a = if a = 75 + x3.toNatClampNeg then gI D 60 x3.toNatClampNeg else gI D 60 a := fun a => by
        rw [e5, gI_pI, if_neg (fun q => by omega), e4, gI_pI, if_neg (fun q => by omega), e3, gI_pL, e2, gI_pL, e1, gI_pI, to75 h6, z0]
        by_cases q : a = 75 + x3.toNatClampNeg
        · rw [if_pos ⟨rfl, q⟩, if_pos q]
        · rw [if_neg (fun z => q z.2), if_neg q]
      refine ih _ _ (rg_w hy (by decide)) (by rw [ey]; exact ms_up h6 (by decide) hm) (fun j w => ?_) (fun j w => ?_) ?_ h5
      · rw [K5, if_neg (by omega)]
        exact ka j w
      · rw [K5]
        by_cases q : j = x3.toNatClampNeg
        · rw [if_pos (by omega), q]
          exact ka _ (by have := h6.2; omega)
        · rw [if_neg (by omega)]
          exact kb j (by omega)
      · rw [e5, gI_pI, if_neg (fun q => by omega), e4, gI_pI, if_neg (fun q => by omega), e3, gI_pL, e2, gI_pL, e1, gI_pI, if_neg (fun q => by omega)]
        exact k53
theorem s_X9_copy {g : gh} {S : sh} {x1 : Int32} {x2 : Int32} {D : dt} (hx1 : Rg 0 75 x1) (hx2 : Rg 0 75 x2) (hcp : g.1 12 = 0 ∨ ∀ j, j < 75 → g.2 60 (75 + j) = g.2 60 j) (hab : (x1 = 0 ∧ x2 = 75) ∨ (x1 = 75 ∧ x2 = 0)) (h : Inv g S D) : wp (f_X9_copy S 28 x1 x2 D) (fun q => Inv g S q.2) := by
  unfold f_X9_copy
  refine wp_nmI (fun y ey => ?_)
  have hy : Rg 0 0 y := rg_eq ey (by decide)
  exact s_X9_copy_2 hcp hab LF _ _ (rg_w hy (by decide)) (ms_in hy (by decide)) h
theorem q_copy0 {g : gh} {S : sh} {D : dt} (hfz : g.1 12 = 0) (h : Inv g S D) : wp (f_X9_copy S 28 0 75 D) (fun q => (∀ j, j < 75 → gI q.2 60 j = 3 → gI D 60 j = 3) ∧ (∀ j, j < 75 → gI q.2 60 (75 + j) = 3 → gI D 60 j = 3) ∧ gI q.2 28 53 = gI D 28 53 ∧ Inv g S q.2) := by
  unfold f_X9_copy
  refine wp_nmI (fun y ey => ?_)
  have hy : Rg 0 0 y := rg_eq ey (by decide)
  have ty := tnc (x := y) hy.1
  exact q_copyK (fun j => gI D 60 j) _ hfz LF _ _ (rg_w hy (by decide)) (ms_in hy (by decide)) (fun _ _ => rfl) (fun j w => by have := hy.2; omega) rfl h
set_option maxRecDepth 100000 in
theorem s_X9_number {g : gh} {S : sh}  {x1 : Int32} {x2 : Int64} {x4 : Int64} {D : dt} (hx1 : Rg 0 74 x1) (h : Inv g S D) : wp (f_X9_number S 28 x1 x2 x4 D) (fun q => Inv g S q.2) := by
  unfold f_X9_number
  refine wp_rq (iR_28_40 h) ?_
  refine wp_ix (in_rg hx1 (iA_60 h) (by decide)) ?_
  refine wp_nmI (fun D36 e_D36 => ?_)
  have h_D36 : Inv g S D36 := by rw [e_D36]; exact inv_i60 h (rg_ne3 rc_1 (by decide)) (rg_top _)
  have h_1 : Rg 1 1 (gI D36 60 x1.toNatClampNeg) := by rw [e_D36, gI_pI, if_pos ⟨rfl, rfl⟩]; exact rc_1
  refine wp_rq (iR_28_41 h_D36) ?_
  refine wp_ix (in_rg hx1 (iA_61 h_D36) (by decide)) ?_
  refine wp_nmI (fun D42 e_D42 => ?_)
  have h_D42 : Inv g S D42 := by rw [e_D42]; exact inv_l61 h_D36 (Or.inl (rg_ne3 h_1 (by decide)))
  have h_2 : Rg 1 1 (gI D42 60 x1.toNatClampNeg) := by rw [e_D42, gI_pL]; exact h_1
  refine wp_rq (iR_28_42 h_D42) ?_
  refine wp_ix (in_rg hx1 (iA_62 h_D42) (by decide)) ?_
  refine wp_nmI (fun D48 e_D48 => ?_)
  have h_D48 : Inv g S D48 := by rw [e_D48]; exact inv_l62 h_D42
  have h_3 : Rg 1 1 (gI D48 60 x1.toNatClampNeg) := by rw [e_D48, gI_pL]; exact h_2
  refine wp_rq (iR_28_43 h_D48) ?_
  refine wp_ix (in_rg hx1 (iA_63 h_D48) (by decide)) ?_
  refine wp_nmI (fun D54 e_D54 => ?_)
  have h_D54 : Inv g S D54 := by rw [e_D54]; exact inv_i63 h_D48 (show Rg 0 3 _ from (rg_w rc_0 (by decide)))
  refine wp_rq (iR_28_44 h_D54) ?_
  refine wp_ix (in_rg hx1 (iA_64 h_D54) (by decide)) ?_
  refine wp_nmI (fun D60 e_D60 => ?_)
  have h_D60 : Inv g S D60 := by rw [e_D60]; exact inv_i64 h_D54 (rg_top _)
  exact ⟨_, rfl, h_D60⟩
set_option maxRecDepth 100000 in
theorem s_X9_forget {g : gh} {S : sh}  {x1 : Int32} {D : dt} (hx1 : Rg 0 149 x1) (h : Inv g S D) : wp (f_X9_forget S 28 x1 D) (fun q => Inv g S q.2) := by
  unfold f_X9_forget
  refine wp_rq (iR_28_40 h) ?_
  refine wp_ix (in_rg hx1 (iA_60 h) (by decide)) ?_
  refine wp_nmI (fun D36 e_D36 => ?_)
  have h_D36 : Inv g S D36 := by rw [e_D36]; exact inv_i60 h (rg_ne3 rc_0 (by decide)) (rg_top _)
  have h_1 : Rg 0 0 (gI D36 60 x1.toNatClampNeg) := by rw [e_D36, gI_pI, if_pos ⟨rfl, rfl⟩]; exact rc_0
  refine wp_rq (iR_28_41 h_D36) ?_
  refine wp_ix (in_rg hx1 (iA_61 h_D36) (by decide)) ?_
  refine wp_nmI (fun D42 e_D42 => ?_)
  have h_D42 : Inv g S D42 := by rw [e_D42]; exact inv_l61 h_D36 (Or.inl (rg_ne3 h_1 (by decide)))
  have h_2 : Rg 0 0 (gI D42 60 x1.toNatClampNeg) := by rw [e_D42, gI_pL]; exact h_1
  refine wp_rq (iR_28_42 h_D42) ?_
  refine wp_ix (in_rg hx1 (iA_62 h_D42) (by decide)) ?_
  refine wp_nmI (fun D48 e_D48 => ?_)
  have h_D48 : Inv g S D48 := by rw [e_D48]; exact inv_l62 h_D42
  have h_3 : Rg 0 0 (gI D48 60 x1.toNatClampNeg) := by rw [e_D48, gI_pL]; exact h_2
  refine wp_rq (iR_28_43 h_D48) ?_
  refine wp_ix (in_rg hx1 (iA_63 h_D48) (by decide)) ?_
  refine wp_nmI (fun D54 e_D54 => ?_)
  have h_D54 : Inv g S D54 := by rw [e_D54]; exact inv_i63 h_D48 (show Rg 0 3 _ from (rg_w rc_0 (by decide)))
  refine wp_rq (iR_28_44 h_D54) ?_
  refine wp_ix (in_rg hx1 (iA_64 h_D54) (by decide)) ?_
  refine wp_nmI (fun D60 e_D60 => ?_)
  have h_D60 : Inv g S D60 := by rw [e_D60]; exact inv_i64 h_D54 (rg_top _)
  exact ⟨_, rfl, h_D60⟩
theorem q_forget_eq {g : gh} {S : sh} {D : dt} {x1 : Int32} (hx1 : Rg 0 149 x1) (h : Inv g S D) : wp (f_X9_forget S 28 x1 D) (fun q => q.2 = pI (pI (pL (pL (pI D 60 x1.toNatClampNeg 0) 61 x1.toNatClampNeg 0) 62 x1.toNatClampNeg 0) 63 x1.toNatClampNeg 0) 64 x1.toNatClampNeg 0) := by
  unfold f_X9_forget
  refine wp_rq (iR_28_40 h) (wp_ix (in_rg hx1 (iA_60 h) (by decide)) (wp_nmI (fun D1 e1 => ?_)))
  refine wp_rq (x := 61) (by rw [e1, gR_pI]; exact iR_28_41 h) (wp_ix (in_rg hx1 (iA_61 h) (by decide)) (wp_nmI (fun D2 e2 => ?_)))
  refine wp_rq (x := 62) (by rw [e2, gR_pL, e1, gR_pI]; exact iR_28_42 h) (wp_ix (in_rg hx1 (iA_62 h) (by decide)) (wp_nmI (fun D3 e3 => ?_)))
  refine wp_rq (x := 63) (by rw [e3, gR_pL, e2, gR_pL, e1, gR_pI]; exact iR_28_43 h) (wp_ix (in_rg hx1 (iA_63 h) (by decide)) (wp_nmI (fun D4 e4 => ?_)))
  refine wp_rq (x := 64) (by rw [e4, gR_pI, e3, gR_pL, e2, gR_pL, e1, gR_pI]; exact iR_28_44 h) (wp_ix (in_rg hx1 (iA_64 h) (by decide)) (wp_nmI (fun D5 e5 => ⟨_, rfl, ?_⟩)))
  show D5 = _
  rw [e5, e4, e3, e2, e1]
set_option maxRecDepth 100000 in
theorem s_X9_same {g : gh} {S : sh}  {x1 : Int32} {x2 : Int32} {D : dt} (hx1 : Rg 0 74 x1) (hx2 : Rg 0 74 x2) (hfz : g.1 12 = 0) (h : Inv g S D) : wp (f_X9_same S 28 x1 x2 D) (fun q => Inv g S q.2) := by
  unfold f_X9_same
  refine wp_rq (iR_28_40 h) ?_
  refine wp_rq (iR_28_40 h) ?_
  refine wp_ix (in_rg hx1 (iA_60 h) (by decide)) ?_
  refine wp_ix (in_rg hx2 (iA_60 h) (by decide)) ?_
  refine wp_nmI (fun D66 e_D66 => ?_)
  refine wp_rq (x := 61) (by rw [e_D66, gR_pI]; exact (iR_28_41 h)) ?_
  refine wp_rq (x := 61) (by rw [e_D66, gR_pI]; exact (iR_28_41 h)) ?_
  refine wp_ix (in_rg hx1 (iA_61 h) (by decide)) ?_
  refine wp_ix (in_rg hx2 (iA_61 h) (by decide)) ?_
  refine wp_nmI (fun D77 e_D77 => ?_)
  have h_D77 : Inv g S D77 := by rw [e_D77, e_D66]; exact inv_kl60 h (fun _ => Or.inl hfz) (by rw [gL_pI]; exact h.k.1 _)
  refine wp_rq (iR_28_42 h_D77) ?_
  refine wp_rq (iR_28_42 h_D77) ?_
  refine wp_ix (in_rg hx1 (iA_62 h_D77) (by decide)) ?_
  refine wp_ix (in_rg hx2 (iA_62 h_D77) (by decide)) ?_
  refine wp_nmI (fun D88 e_D88 => ?_)
  have h_D88 : Inv g S D88 := by rw [e_D88]; exact inv_l62 h_D77
  refine wp_rq (iR_28_43 h_D88) ?_
  refine wp_rq (iR_28_43 h_D88) ?_
  refine wp_ix (in_rg hx1 (iA_63 h_D88) (by decide)) ?_
  refine wp_ix (in_rg hx2 (iA_63 h_D88) (by decide)) ?_
  refine wp_nmI (fun D99 e_D99 => ?_)
  have h_D99 : Inv g S D99 := by rw [e_D99]; exact inv_i63 h_D88 (iI_63 h_D88 _)
  refine wp_rq (iR_28_44 h_D99) ?_
  refine wp_rq (iR_28_44 h_D99) ?_
  refine wp_ix (in_rg hx1 (iA_64 h_D99) (by decide)) ?_
  refine wp_ix (in_rg hx2 (iA_64 h_D99) (by decide)) ?_
  refine wp_nmI (fun D110 e_D110 => ?_)
  have h_D110 : Inv g S D110 := by rw [e_D110]; exact inv_i64 h_D99 (rg_top _)
  exact ⟨_, rfl, h_D110⟩
set_option maxRecDepth 100000 in
theorem s_X9_lesser  {x0 : Int64} {x2 : Int64}  : wp (f_X9_lesser x0 x2) (fun q => True) := by
  unfold f_X9_lesser
  refine wp_pqs (s_X9_isBelow ) (fun r5 h_r5 => ?_)
  refine wp_if (fun c_1 => ?_) (fun c_1 => ?_)
  ·
    have h_2 : Rg 0 0 _ := rg_eq1 h_r5 rc_0 c_1 (by decide)
    exact ⟨_, rfl, trivial⟩
  ·
    have h_3 : Rg 1 1 _ := rg_ne1 h_r5 rc_0 c_1 (by decide)
    exact ⟨_, rfl, trivial⟩
set_option maxRecDepth 100000 in
theorem s_X9_greater  {x0 : Int64} {x2 : Int64}  : wp (f_X9_greater x0 x2) (fun q => True) := by
  unfold f_X9_greater
  refine wp_pqs (s_X9_isBelow ) (fun r5 h_r5 => ?_)
  refine wp_if (fun c_1 => ?_) (fun c_1 => ?_)
  ·
    have h_2 : Rg 0 0 _ := rg_eq1 h_r5 rc_0 c_1 (by decide)
    exact ⟨_, rfl, trivial⟩
  ·
    have h_3 : Rg 1 1 _ := rg_ne1 h_r5 rc_0 c_1 (by decide)
    exact ⟨_, rfl, trivial⟩
set_option maxRecDepth 100000 in
theorem s_X9_join_143 {g : gh} {S : sh}  {xs1 : Int64} {D : dt}  (h : Inv g S D) : wp (f_X9_join_143 S 28 xs1 D) (fun q => Inv g S q.2) := by
  unfold f_X9_join_143
  refine wp_nmI (fun D83 e_D83 => ?_)
  have h_D83 : Inv g S D83 := by rw [e_D83]; exact inv_l28 h (by decide) (Or.inl (by decide))
  exact ⟨_, rfl, h_D83⟩
set_option maxRecDepth 100000 in
theorem s_X9_join_116 {g : gh} {S : sh}  {x1 : Int32} {x5 : Int64} {xs1 : Int64} {D : dt} (hx1 : Rg 0 74 x1) (hj : gI D 28 47 ≠ 3) (h : Inv g S D) : wp (f_X9_join_116 S 28 x1 x5 28 xs1 D) (fun q => Inv g S q.2) := by
  unfold f_X9_join_116
  refine wp_nmI (fun D84 e_D84 => ?_)
  have h_D84 : Inv g S D84 := by rw [e_D84]; exact inv_l28 h (by decide) (Or.inr (Or.inl hj))
  refine wp_rq (iR_28_42 h_D84) ?_
  refine wp_ix (in_rg hx1 (iA_62 h_D84) (by decide)) ?_
  refine wp_if (fun c_1 => ?_) (fun c_1 => ?_)
  ·
    refine wp_rq (iR_28_42 h_D84) ?_
    refine wp_ix (in_rg hx1 (iA_62 h_D84) (by decide)) ?_
    exact s_X9_join_143 h_D84
  ·
    have h_2 : RgL (-9223372036854775808) 9223372036854775806 _ := rgl_lt1 (rgl_top _) (rgl_top _) (nle64 (fun q => c_1 ((lg_cmp_le _ _).mpr q))) (by decide)
    have h_3 : RgL (-9223372036854775807) 9223372036854775807 _ := rgl_lt2 (rgl_top _) (rgl_top _) (nle64 (fun q => c_1 ((lg_cmp_le _ _).mpr q))) (by decide)
    exact s_X9_join_143 h_D84
set_option maxRecDepth 100000 in
theorem s_X9_join_89 {g : gh} {S : sh}  {x1 : Int32} {x2 : Int32} {x3 : Int64} {x5 : Int64} {D : dt} (hx1 : Rg 0 74 x1) (hx2 : Rg 2 5 x2) (hn3 : x2 ≠ 3) (h : Inv g S D) : wp (f_X9_join_89 S 28 x1 x2 x3 x5 D) (fun q => Inv g S q.2) := by
  unfold f_X9_join_89
  refine wp_nmI (fun D96 e_D96 => ?_)
  have h_D96 : Inv g S D96 := by rw [e_D96]; exact inv_i28 h (Or.inr (Or.inl ⟨rfl, hn3⟩)) (rg_top _)
  have h_1 : Rg 2 5 (gI D96 28 47) := by rw [e_D96, gI_pI, if_pos ⟨rfl, rfl⟩]; exact hx2
  refine wp_rq (iR_28_41 h_D96) ?_
  refine wp_ix (in_rg hx1 (iA_61 h_D96) (by decide)) ?_
  refine wp_if (fun c_2 => ?_) (fun c_2 => ?_)
  ·
    refine wp_rq (iR_28_41 h_D96) ?_
    refine wp_ix (in_rg hx1 (iA_61 h_D96) (by decide)) ?_
    exact s_X9_join_116 hx1 (by rw [e_D96, gI_pI, if_pos ⟨rfl, rfl⟩]; exact hn3) h_D96
  ·
    have h_3 : RgL (-9223372036854775808) 9223372036854775806 _ := rgl_lt1 (rgl_top _) (rgl_top _) (nle64 (fun q => c_2 ((lg_cmp_ge _ _).mpr q))) (by decide)
    have h_4 : RgL (-9223372036854775807) 9223372036854775807 _ := rgl_lt2 (rgl_top _) (rgl_top _) (nle64 (fun q => c_2 ((lg_cmp_ge _ _).mpr q))) (by decide)
    exact s_X9_join_116 hx1 (by rw [e_D96, gI_pI, if_pos ⟨rfl, rfl⟩]; exact hn3) h_D96
set_option maxRecDepth 100000 in
theorem s_X9_join_149 {g : gh} {S : sh}  {x1 : Int32} {x2 : Int32} {x3 : Int64} {x5 : Int64} {x7 : Int32} {x8 : Int32} {D : dt} (hx1 : Rg 0 74 x1) (hx7 : Rg 0 3 x7) (hk2 : stm x2 (gL D 61 x1.toNatClampNeg)) (h : Inv g S D) : wp (f_X9_join_149 S 28 x1 x2 x3 x5 x7 x8 D) (fun q => Inv g S q.2) := by
  unfold f_X9_join_149
  refine wp_rq (iR_28_41 h) ?_
  refine wp_ix (in_rg hx1 (iA_61 h) (by decide)) ?_
  refine wp_if (fun c_1 => ?_) (fun c_1 => ?_)
  ·
    refine wp_rq (iR_28_43 h) ?_
    refine wp_ix (in_rg hx1 (iA_63 h) (by decide)) ?_
    refine wp_if (fun c_2 => ?_) (fun c_2 => ?_)
    ·
      refine wp_rq (iR_28_44 h) ?_
      refine wp_ix (in_rg hx1 (iA_64 h) (by decide)) ?_
      refine wp_if (fun c_3 => ?_) (fun c_3 => ?_)
      ·
        refine wp_if (fun c_4 => ?_) (fun c_4 => ?_)
        ·
          have h_5 : Rg 5 5 _ := rg_eq1 (rg_top _) rc_5 c_4 (by decide)
          exact ⟨_, rfl, h⟩
        ·
          refine wp_nmI (fun D127 e_D127 => ?_)
          refine wp_nmI (fun D128 e_D128 => ?_)
          have h_D128 : Inv g S D128 := by rw [e_D128, e_D127]; exact inv_kl28 h (fun e => by rw [(lg_cmp_eq _ _).mp c_1]; exact hk2 e)
          refine wp_nmI (fun D129 e_D129 => ?_)
          have h_D129 : Inv g S D129 := by rw [e_D129]; exact inv_l28 h_D128 (by decide) (Or.inl (by decide))
          exact ⟨_, rfl, h_D129⟩
      ·
        exact ⟨_, rfl, h⟩
    ·
      exact ⟨_, rfl, h⟩
  ·
    exact ⟨_, rfl, h⟩
set_option maxRecDepth 100000 in
theorem s_X9_join {g : gh} {S : sh}  {x1 : Int32} {x2 : Int32} {x3 : Int64} {x5 : Int64} {x7 : Int32} {x8 : Int32} {D : dt} (hx1 : Rg 0 74 x1) (hx7 : Rg 0 3 x7) (h : Inv g S D) : wp (f_X9_join S 28 x1 x2 x3 x5 x7 x8 D) (fun q => Inv g S q.2) := by
  unfold f_X9_join
  refine wp_nmI (fun D130 e_D130 => ?_)
  have h_D130 : Inv g S D130 := by rw [e_D130]; exact inv_i28 h (Or.inr (Or.inl ⟨rfl, rg_ne3 rc_0 (by decide)⟩)) (rg_top _)
  have h_1 : Rg 0 0 (gI D130 28 47) := by rw [e_D130, gI_pI, if_pos ⟨rfl, rfl⟩]; exact rc_0
  refine wp_nmI (fun D131 e_D131 => ?_)
  have h_D131 : Inv g S D131 := by rw [e_D131]; exact inv_l28 h_D130 (by decide) (Or.inr (Or.inl (rg_ne3 h_1 (by decide))))
  have h_2 : Rg 0 0 (gI D131 28 47) := by rw [e_D131, gI_pL]; exact h_1
  refine wp_nmI (fun D132 e_D132 => ?_)
  have h_D132 : Inv g S D132 := by rw [e_D132]; exact inv_l28 h_D131 (by decide) (Or.inl (by decide))
  have h_3 : Rg 0 0 (gI D132 28 47) := by rw [e_D132, gI_pL]; exact h_2
  refine wp_rq (iR_28_40 h_D132) ?_
  refine wp_ix (in_rg hx1 (iA_60 h_D132) (by decide)) ?_
  refine wp_if (fun c_4 => ?_) (fun c_4 => ?_)
  ·
    refine wp_if (fun c_5 => ?_) (fun c_5 => ?_)
    ·
      have h_6 : Rg 1 1 _ := rg_eq1 (rg_top _) rc_1 c_5 (by decide)
      refine wp_nmI (fun D148 e_D148 => ?_)
      have h_D148 : Inv g S D148 := by rw [e_D148]; exact inv_i28 h_D132 (Or.inr (Or.inl ⟨rfl, rg_ne3 rc_1 (by decide)⟩)) (rg_top _)
      have h_7 : Rg 1 1 (gI D148 28 47) := by rw [e_D148, gI_pI, if_pos ⟨rfl, rfl⟩]; exact rc_1
      refine wp_rq (iR_28_41 h_D148) ?_
      refine wp_ix (in_rg hx1 (iA_61 h_D148) (by decide)) ?_
      refine wp_pqs (s_X9_lesser ) (fun r155 _ => ?_)
      refine wp_nmI (fun D156 e_D156 => ?_)
      have h_D156 : Inv g S D156 := by rw [e_D156]; exact inv_l28 h_D148 (by decide) (Or.inr (Or.inl (rg_ne3 h_7 (by decide))))
      have h_8 : Rg 1 1 (gI D156 28 47) := by rw [e_D156, gI_pL]; exact h_7
      refine wp_rq (iR_28_42 h_D156) ?_
      refine wp_ix (in_rg hx1 (iA_62 h_D156) (by decide)) ?_
      refine wp_pqs (s_X9_greater ) (fun r163 _ => ?_)
      refine wp_nmI (fun D164 e_D164 => ?_)
      have h_D164 : Inv g S D164 := by rw [e_D164]; exact inv_l28 h_D156 (by decide) (Or.inl (by decide))
      have h_9 : Rg 1 1 (gI D164 28 47) := by rw [e_D164, gI_pL]; exact h_8
      exact ⟨_, rfl, h_D164⟩
    ·
      refine wp_if (fun c_10 => ?_) (fun c_10 => ?_)
      ·
        have h_11 : Rg 2 2 _ := rg_eq1 (rg_top _) rc_2 c_10 (by decide)
        exact s_X9_join_89 hx1 (rg_w h_11 (by decide)) (by rw [c_10]; decide) h_D132
      ·
        refine wp_if (fun c_12 => ?_) (fun c_12 => ?_)
        ·
          have h_13 : Rg 5 5 _ := rg_eq1 (rg_top _) rc_5 c_12 (by decide)
          refine wp_rq (iR_28_43 h_D132) ?_
          refine wp_ix (in_rg hx1 (iA_63 h_D132) (by decide)) ?_
          refine wp_if (fun c_14 => ?_) (fun c_14 => ?_)
          ·
            exact s_X9_join_89 hx1 (rg_w h_13 (by decide)) (by rw [c_12]; decide) h_D132
          ·
            exact s_X9_join_149 hx1 hx7 (fun e => h_D132.k.1 _ (c_4.symm.trans e)) h_D132
        ·
          exact s_X9_join_149 hx1 hx7 (fun e => h_D132.k.1 _ (c_4.symm.trans e)) h_D132
  ·
    exact ⟨_, rfl, h_D132⟩
set_option maxRecDepth 100000 in
theorem s_X9_goTo_569 {g : gh} {S : sh} {k519 : Nat → Int32 → Int32 → Int32 → dt → Option (Unit × dt)} {n519 : Nat} (hk519 : ∀ (x1 : Int32) (x2 : Int32) (x3 : Int32) (D : dt), Rg 0 199 x1 → Rg 0 1 x2 → Rg 0 512 x3 → 512 - x3.toInt < (n519 : Int) → Inv g S D → wp (k519 28 x1 x2 x3 D) (fun q => Inv g S q.2)) {x1 : Int32} {x2 : Int32} {x3 : Int32} {xs1 : Int32} {xs2 : Int32} {D : dt} (hx1 : Rg 0 199 x1) (hx2 : Rg 0 1 x2) (hx3 : Rg 0 511 x3) (hxs1 : Rg 0 102399 xs1) (hxs2 : Rg 0 1 xs2) (hm519 : 512 - x3.toInt < ((n519 + 1 : Nat) : Int)) (h : Inv g S D) : wp (f_X9_goTo_569 S k519 28 x1 x2 x3 54 xs1 xs2 D) (fun q => Inv g S q.2) := by
  unfold f_X9_goTo_569
  refine wp_ix (in_rg hxs1 (iA_54 h) (by decide)) ?_
  refine wp_nmI (fun D288 e_D288 => ?_)
  have h_D288 : Inv g S D288 := by rw [e_D288]; exact inv_i54 h (rg_top _)
  refine wp_nmI (fun y289 e_y289 => ?_)
  have h_y289 : Rg 1 512 y289 := rg_eq e_y289 (rg_add hx3 rc_1 (by decide) : Rg 1 512 _)
  exact hk519 _ _ _ _ hx1 hx2 (rg_w h_y289 (by decide)) (by rw [e_y289]; exact ms_up hx3 (by decide) hm519) h_D288
set_option maxRecDepth 100000 in
theorem s_X9_goTo_564 {g : gh} {S : sh} {k519 : Nat → Int32 → Int32 → Int32 → dt → Option (Unit × dt)} {n519 : Nat} (hk519 : ∀ (x1 : Int32) (x2 : Int32) (x3 : Int32) (D : dt), Rg 0 199 x1 → Rg 0 1 x2 → Rg 0 512 x3 → 512 - x3.toInt < (n519 : Int) → Inv g S D → wp (k519 28 x1 x2 x3 D) (fun q => Inv g S q.2)) {x1 : Int32} {x2 : Int32} {x3 : Int32} {xs1 : Int32} {D : dt} (hx1 : Rg 0 199 x1) (hx2 : Rg 0 1 x2) (hx3 : Rg 0 511 x3) (hxs1 : Rg 0 102399 xs1) (hm519 : 512 - x3.toInt < ((n519 + 1 : Nat) : Int)) (h : Inv g S D) : wp (f_X9_goTo_564 S k519 28 x1 x2 x3 54 xs1 D) (fun q => Inv g S q.2) := by
  unfold f_X9_goTo_564
  exact s_X9_goTo_569 hk519 hx1 hx2 hx3 hxs1 (rg_w rc_1 (by decide)) hm519 h
set_option maxRecDepth 100000 in
theorem s_X9_goTo_568 {g : gh} {S : sh} {k519 : Nat → Int32 → Int32 → Int32 → dt → Option (Unit × dt)} {n519 : Nat} (hk519 : ∀ (x1 : Int32) (x2 : Int32) (x3 : Int32) (D : dt), Rg 0 199 x1 → Rg 0 1 x2 → Rg 0 512 x3 → 512 - x3.toInt < (n519 : Int) → Inv g S D → wp (k519 28 x1 x2 x3 D) (fun q => Inv g S q.2)) {x1 : Int32} {x2 : Int32} {x3 : Int32} {xs1 : Int32} {D : dt} (hx1 : Rg 0 199 x1) (hx2 : Rg 0 1 x2) (hx3 : Rg 0 511 x3) (hxs1 : Rg 0 102399 xs1) (hm519 : 512 - x3.toInt < ((n519 + 1 : Nat) : Int)) (h : Inv g S D) : wp (f_X9_goTo_568 S k519 28 x1 x2 x3 54 xs1 D) (fun q => Inv g S q.2) := by
  unfold f_X9_goTo_568
  exact s_X9_goTo_569 hk519 hx1 hx2 hx3 hxs1 (rg_w rc_0 (by decide)) hm519 h
set_option maxRecDepth 100000 in
theorem s_X9_goTo_519 {g : gh} {S : sh}  : ∀ (n : Nat) (x1 : Int32) (x2 : Int32) (x3 : Int32) (D : dt), Rg 0 199 x1 → Rg 0 1 x2 → Rg 0 512 x3 → 512 - x3.toInt < (n : Int) → Inv g S D → wp (f_X9_goTo_519 S n 28 x1 x2 x3 D) (fun q => Inv g S q.2) := by
  intro n
  induction n with
  | zero =>
    intro x1 x2 x3 D hx1 hx2 hx3 hm h
    exact (ms_0 hx3 (by decide) hm).elim
  | succ n ih =>
    intro x1 x2 x3 D hx1 hx2 hx3 hm h
    rw [f_X9_goTo_519.eq_2]
    refine wp_if (fun c_1 => ?_) (fun c_1 => ?_)
    ·
      have h_2 : Rg 512 512 _ := rg_le2 rc_512 hx3 c_1 (by decide)
      exact ⟨_, rfl, h⟩
    ·
      have h_3 : Rg 0 511 _ := rg_lt1 hx3 rc_512 (nle32 c_1) (by decide)
      refine wp_nmI (fun y291 e_y291 => ?_)
      have h_y291 : Rg 0 102399 y291 := rg_eq e_y291 (rg_add (rg_mul rc_512 hx1 (by decide) : Rg 0 101888 _) h_3 (by decide) : Rg 0 102399 _)
      refine wp_rq (iR_28_34 h) ?_
      refine wp_rq (iR_28_45 h) ?_
      refine wp_ix (in_rg h_3 (iA_65 h) (by decide)) ?_
      refine wp_if (fun c_4 => ?_) (fun c_4 => ?_)
      ·
        have h_5 : Rg 0 0 _ := rg_eq1 (rg_top _) rc_0 c_4 (by decide)
        exact s_X9_goTo_568 ih hx1 hx2 h_3 h_y291 hm h
      ·
        refine wp_if (fun c_6 => ?_) (fun c_6 => ?_)
        ·
          have h_7 : Rg 0 0 _ := rg_eq1 hx2 rc_0 c_6 (by decide)
          refine wp_rq (iR_28_34 h) ?_
          refine wp_ix (in_rg h_y291 (iA_54 h) (by decide)) ?_
          refine wp_if (fun c_8 => ?_) (fun c_8 => ?_)
          ·
            have h_9 : Rg 0 0 _ := rg_eq1 (rg_top _) rc_0 c_8 (by decide)
            exact s_X9_goTo_568 ih hx1 (rg_w h_7 (by decide)) h_3 h_y291 hm h
          ·
            exact s_X9_goTo_564 ih hx1 (rg_w h_7 (by decide)) h_3 h_y291 hm h
        ·
          have h_10 : Rg 1 1 _ := rg_ne1 hx2 rc_0 c_6 (by decide)
          exact s_X9_goTo_564 ih hx1 (rg_w h_10 (by decide)) h_3 h_y291 hm h
set_option maxRecDepth 100000 in
theorem s_X9_goTo_482 {g : gh} {S : sh} {k277 : Nat → Int32 → Int32 → Int32 → dt → Option (Unit × dt)} {n277 : Nat} (hk277 : ∀ (x1 : Int32) (x2 : Int32) (x3 : Int32) (D : dt), Rg 0 199 x1 → Rg 0 1 x2 → Rg 0 64 x3 → 64 - x3.toInt < (n277 : Int) → Inv g S D → wp (k277 28 x1 x2 x3 D) (fun q => Inv g S q.2)) {x1 : Int32} {x2 : Int32} {x3 : Int32} {x4 : Int32} {x5 : Int32} {xs1 : Int32} {xs2 : Int64} {D : dt} (hx1 : Rg 0 199 x1) (hx2 : Rg 0 1 x2) (hx3 : Rg 0 63 x3) (hx4 : Rg 0 12799 x4) (hx5 : Rg 11 74 x5) (hxs1 : Rg 0 12799 xs1) (hm277 : 64 - x3.toInt < ((n277 + 1 : Nat) : Int)) (h : Inv g S D) : wp (f_X9_goTo_482 S k277 28 x1 x2 x3 x4 x5 57 xs1 xs2 D) (fun q => Inv g S q.2) := by
  unfold f_X9_goTo_482
  refine wp_ix (in_rg hxs1 (iA_57 h) (by decide)) ?_
  refine wp_nmI (fun D310 e_D310 => ?_)
  have h_D310 : Inv g S D310 := by rw [e_D310]; exact inv_l57 h
  refine wp_rq (iR_28_38 h_D310) ?_
  refine wp_rq (iR_28_43 h_D310) ?_
  refine wp_ix (in_rg hx5 (iA_63 h_D310) (by decide)) ?_
  refine wp_ix (in_rg hx4 (iA_58 h_D310) (by decide)) ?_
  refine wp_nmI (fun D321 e_D321 => ?_)
  have h_D321 : Inv g S D321 := by rw [e_D321]; exact inv_i58 h_D310 (iI_63 h_D310 _)
  refine wp_rq (iR_28_39 h_D321) ?_
  refine wp_rq (iR_28_44 h_D321) ?_
  refine wp_ix (in_rg hx5 (iA_64 h_D321) (by decide)) ?_
  refine wp_ix (in_rg hx4 (iA_59 h_D321) (by decide)) ?_
  refine wp_nmI (fun D332 e_D332 => ?_)
  have h_D332 : Inv g S D332 := by rw [e_D332]; exact inv_i59 h_D321 (rg_top _)
  refine wp_nmI (fun y333 e_y333 => ?_)
  have h_y333 : Rg 1 64 y333 := rg_eq e_y333 (rg_add hx3 rc_1 (by decide) : Rg 1 64 _)
  exact hk277 _ _ _ _ hx1 hx2 (rg_w h_y333 (by decide)) (by rw [e_y333]; exact ms_up hx3 (by decide) hm277) h_D332
theorem s_X9_goTo_432 {g : gh} {S : sh} {k277 : Nat → Int32 → Int32 → Int32 → dt → Option (Unit × dt)} {n277 : Nat} (hk277 : ∀ (x1 : Int32) (x2 : Int32) (x3 : Int32) (D : dt), Rg 0 199 x1 → Rg 0 1 x2 → Rg 0 64 x3 → 64 - x3.toInt < (n277 : Int) → Inv g S D → wp (k277 28 x1 x2 x3 D) (fun q => Inv g S q.2)) {x1 x2 x3 x4 x5 xs1 xs2 : Int32} {D : dt} (hx1 : Rg 0 199 x1) (hx2 : Rg 0 1 x2) (hx3 : Rg 0 63 x3) (hx4 : Rg 0 12799 x4) (hx5 : Rg 11 74 x5) (hxs1 : Rg 0 12799 xs1) (he : xs1 = x4) (hs : (x2 = 0 → xs2 = gI D 28 47) ∧ (¬ x2 = 0 → xs2 = gI D 60 x5.toNatClampNeg)) (hm277 : 64 - x3.toInt < ((n277 + 1 : Nat) : Int)) (h : Inv g S D) : wp (f_X9_goTo_432 S k277 28 x1 x2 x3 x4 x5 55 xs1 xs2 D) (fun q => Inv g S q.2) := by
  subst he
  have i0 := in_rg hx4 (iA_55 h) (by decide)
  have i1 := in_rg hx4 (iA_56 h) (by decide)
  have j0 := in_rg (rg_w hx5 (by decide) : Rg 0 149 _) (iA_61 h) (by decide)
  have j1 := in_rg (rg_w hx5 (by decide) : Rg 0 149 _) (iA_62 h) (by decide)
  unfold f_X9_goTo_432
  refine wp_ix i0 (wp_nmI (fun D1 e1 => ?_))
  have go : ∀ L : Int64, stm xs2 L → wp (f_X9_goTo_457 S k277 28 x1 x2 x3 xs1 x5 56 xs1 L D1) (fun q => Inv g S q.2) := by
    intro L hL
    unfold f_X9_goTo_457
    refine wp_ix i1 (wp_nmI (fun D2 e2 => ?_))
    have h2 : Inv g S D2 := by rw [e2, e1]; exact inv_kl55 h hL
    exact wp_rq (iR_28_37 h2) (wp_if (fun _ => s_X9_goTo_482 hk277 hx1 hx2 hx3 hx4 hx5 hx4 hm277 h2) (fun _ => wp_rq (iR_28_42 h2) (wp_ix j1 (s_X9_goTo_482 hk277 hx1 hx2 hx3 hx4 hx5 hx4 hm277 h2))))
  refine wp_rq (x := 56) (by rw [e1, gR_pI]; exact iR_28_36 h) (wp_if (fun c => go _ ?_) (fun c => wp_rq (x := 61) (by rw [e1, gR_pI]; exact iR_28_41 h) (wp_ix j0 (go _ ?_))))
  · rw [hs.1 c, e1, gL_pI]
    exact h.k.2.2.2
  · rw [hs.2 c, e1, gL_pI]
    exact h.k.1 _
set_option maxRecDepth 100000 in
theorem s_X9_goTo_405 {g : gh} {S : sh} {k277 : Nat → Int32 → Int32 → Int32 → dt → Option (Unit × dt)} {n277 : Nat} (hk277 : ∀ (x1 : Int32) (x2 : Int32) (x3 : Int32) (D : dt), Rg 0 199 x1 → Rg 0 1 x2 → Rg 0 64 x3 → 64 - x3.toInt < (n277 : Int) → Inv g S D → wp (k277 28 x1 x2 x3 D) (fun q => Inv g S q.2)) {x1 : Int32} {x2 : Int32} {x3 : Int32} {x4 : Int32} {x5 : Int32} {xs1 : Int32} {xs2 : Int32} {xs3 : Int64} {xs4 : Int64} {xs5 : Int32} {xs6 : Int32} {D : dt} (hx1 : Rg 0 199 x1) (hx2 : Rg 0 1 x2) (hx3 : Rg 0 63 x3) (hx4 : Rg 0 12799 x4) (hx5 : Rg 11 74 x5) (hxs1 : Rg 11 74 xs1) (hxs5 : Rg 0 3 xs5) (hm277 : 64 - x3.toInt < ((n277 + 1 : Nat) : Int)) (h : Inv g S D) : wp (f_X9_goTo_405 S k277 28 x1 x2 x3 x4 x5 28 xs1 xs2 xs3 xs4 xs5 xs6 D) (fun q => Inv g S q.2) := by
  unfold f_X9_goTo_405
  refine wp_cqs (s_X9_join (rg_w hxs1 (by decide)) hxs5 h) (fun _ D359 h_D359 => ?_)
  refine wp_rq (iR_28_35 h_D359) ?_
  refine wp_if (fun c_1 => ?_) (fun c_1 => ?_)
  ·
    have h_2 : Rg 0 0 _ := rg_eq1 hx2 rc_0 c_1 (by decide)
    exact s_X9_goTo_432 hk277 hx1 (rg_w h_2 (by decide)) hx3 hx4 hx5 hx4 rfl ⟨fun _ => rfl, fun n => absurd c_1 n⟩ hm277 h_D359
  ·
    have h_3 : Rg 1 1 _ := rg_ne1 hx2 rc_0 c_1 (by decide)
    refine wp_rq (iR_28_40 h_D359) ?_
    refine wp_ix (in_rg hx5 (iA_60 h_D359) (by decide)) ?_
    exact s_X9_goTo_432 hk277 hx1 (rg_w h_3 (by decide)) hx3 hx4 hx5 hx4 rfl ⟨fun e => absurd e c_1, fun _ => rfl⟩ hm277 h_D359
set_option maxRecDepth 100000 in
theorem s_X9_goTo_384 {g : gh} {S : sh} {k277 : Nat → Int32 → Int32 → Int32 → dt → Option (Unit × dt)} {n277 : Nat} (hk277 : ∀ (x1 : Int32) (x2 : Int32) (x3 : Int32) (D : dt), Rg 0 199 x1 → Rg 0 1 x2 → Rg 0 64 x3 → 64 - x3.toInt < (n277 : Int) → Inv g S D → wp (k277 28 x1 x2 x3 D) (fun q => Inv g S q.2)) {x1 : Int32} {x2 : Int32} {x3 : Int32} {x4 : Int32} {x5 : Int32} {xs1 : Int32} {xs2 : Int32} {xs3 : Int64} {xs4 : Int64} {xs5 : Int32} {D : dt} (hx1 : Rg 0 199 x1) (hx2 : Rg 0 1 x2) (hx3 : Rg 0 63 x3) (hx4 : Rg 0 12799 x4) (hx5 : Rg 11 74 x5) (hxs1 : Rg 11 74 xs1) (hxs5 : Rg 0 3 xs5) (hm277 : 64 - x3.toInt < ((n277 + 1 : Nat) : Int)) (h : Inv g S D) : wp (f_X9_goTo_384 S k277 28 x1 x2 x3 x4 x5 28 xs1 xs2 xs3 xs4 xs5 D) (fun q => Inv g S q.2) := by
  unfold f_X9_goTo_384
  refine wp_if (fun c_1 => ?_) (fun c_1 => ?_)
  ·
    have h_2 : Rg 0 0 _ := rg_eq1 hx2 rc_0 c_1 (by decide)
    refine wp_rq (iR_28_39 h) ?_
    refine wp_ix (in_rg hx4 (iA_59 h) (by decide)) ?_
    exact s_X9_goTo_405 hk277 hx1 (rg_w h_2 (by decide)) hx3 hx4 hx5 hxs1 hxs5 hm277 h
  ·
    have h_3 : Rg 1 1 _ := rg_ne1 hx2 rc_0 c_1 (by decide)
    refine wp_rq (iR_28_44 h) ?_
    refine wp_ix (in_rg hx5 (iA_64 h) (by decide)) ?_
    exact s_X9_goTo_405 hk277 hx1 (rg_w h_3 (by decide)) hx3 hx4 hx5 hxs1 hxs5 hm277 h
set_option maxRecDepth 100000 in
theorem s_X9_goTo_363 {g : gh} {S : sh} {k277 : Nat → Int32 → Int32 → Int32 → dt → Option (Unit × dt)} {n277 : Nat} (hk277 : ∀ (x1 : Int32) (x2 : Int32) (x3 : Int32) (D : dt), Rg 0 199 x1 → Rg 0 1 x2 → Rg 0 64 x3 → 64 - x3.toInt < (n277 : Int) → Inv g S D → wp (k277 28 x1 x2 x3 D) (fun q => Inv g S q.2)) {x1 : Int32} {x2 : Int32} {x3 : Int32} {x4 : Int32} {x5 : Int32} {xs1 : Int32} {xs2 : Int32} {xs3 : Int64} {xs4 : Int64} {D : dt} (hx1 : Rg 0 199 x1) (hx2 : Rg 0 1 x2) (hx3 : Rg 0 63 x3) (hx4 : Rg 0 12799 x4) (hx5 : Rg 11 74 x5) (hxs1 : Rg 11 74 xs1) (hm277 : 64 - x3.toInt < ((n277 + 1 : Nat) : Int)) (h : Inv g S D) : wp (f_X9_goTo_363 S k277 28 x1 x2 x3 x4 x5 28 xs1 xs2 xs3 xs4 D) (fun q => Inv g S q.2) := by
  unfold f_X9_goTo_363
  refine wp_if (fun c_1 => ?_) (fun c_1 => ?_)
  ·
    have h_2 : Rg 0 0 _ := rg_eq1 hx2 rc_0 c_1 (by decide)
    refine wp_rq (iR_28_38 h) ?_
    refine wp_ix (in_rg hx4 (iA_58 h) (by decide)) ?_
    exact s_X9_goTo_384 hk277 hx1 (rg_w h_2 (by decide)) hx3 hx4 hx5 hxs1 (iI_58 h _) hm277 h
  ·
    have h_3 : Rg 1 1 _ := rg_ne1 hx2 rc_0 c_1 (by decide)
    refine wp_rq (iR_28_43 h) ?_
    refine wp_ix (in_rg hx5 (iA_63 h) (by decide)) ?_
    exact s_X9_goTo_384 hk277 hx1 (rg_w h_3 (by decide)) hx3 hx4 hx5 hxs1 (iI_63 h _) hm277 h
set_option maxRecDepth 100000 in
theorem s_X9_goTo_342 {g : gh} {S : sh} {k277 : Nat → Int32 → Int32 → Int32 → dt → Option (Unit × dt)} {n277 : Nat} (hk277 : ∀ (x1 : Int32) (x2 : Int32) (x3 : Int32) (D : dt), Rg 0 199 x1 → Rg 0 1 x2 → Rg 0 64 x3 → 64 - x3.toInt < (n277 : Int) → Inv g S D → wp (k277 28 x1 x2 x3 D) (fun q => Inv g S q.2)) {x1 : Int32} {x2 : Int32} {x3 : Int32} {x4 : Int32} {x5 : Int32} {xs1 : Int32} {xs2 : Int32} {xs3 : Int64} {D : dt} (hx1 : Rg 0 199 x1) (hx2 : Rg 0 1 x2) (hx3 : Rg 0 63 x3) (hx4 : Rg 0 12799 x4) (hx5 : Rg 11 74 x5) (hxs1 : Rg 11 74 xs1) (hm277 : 64 - x3.toInt < ((n277 + 1 : Nat) : Int)) (h : Inv g S D) : wp (f_X9_goTo_342 S k277 28 x1 x2 x3 x4 x5 28 xs1 xs2 xs3 D) (fun q => Inv g S q.2) := by
  unfold f_X9_goTo_342
  refine wp_if (fun c_1 => ?_) (fun c_1 => ?_)
  ·
    have h_2 : Rg 0 0 _ := rg_eq1 hx2 rc_0 c_1 (by decide)
    refine wp_rq (iR_28_37 h) ?_
    refine wp_ix (in_rg hx4 (iA_57 h) (by decide)) ?_
    exact s_X9_goTo_363 hk277 hx1 (rg_w h_2 (by decide)) hx3 hx4 hx5 hxs1 hm277 h
  ·
    have h_3 : Rg 1 1 _ := rg_ne1 hx2 rc_0 c_1 (by decide)
    refine wp_rq (iR_28_42 h) ?_
    refine wp_ix (in_rg hx5 (iA_62 h) (by decide)) ?_
    exact s_X9_goTo_363 hk277 hx1 (rg_w h_3 (by decide)) hx3 hx4 hx5 hxs1 hm277 h
set_option maxRecDepth 100000 in
theorem s_X9_goTo_321 {g : gh} {S : sh} {k277 : Nat → Int32 → Int32 → Int32 → dt → Option (Unit × dt)} {n277 : Nat} (hk277 : ∀ (x1 : Int32) (x2 : Int32) (x3 : Int32) (D : dt), Rg 0 199 x1 → Rg 0 1 x2 → Rg 0 64 x3 → 64 - x3.toInt < (n277 : Int) → Inv g S D → wp (k277 28 x1 x2 x3 D) (fun q => Inv g S q.2)) {x1 : Int32} {x2 : Int32} {x3 : Int32} {x4 : Int32} {x5 : Int32} {xs1 : Int32} {xs2 : Int32} {D : dt} (hx1 : Rg 0 199 x1) (hx2 : Rg 0 1 x2) (hx3 : Rg 0 63 x3) (hx4 : Rg 0 12799 x4) (hx5 : Rg 11 74 x5) (hxs1 : Rg 11 74 xs1) (hm277 : 64 - x3.toInt < ((n277 + 1 : Nat) : Int)) (h : Inv g S D) : wp (f_X9_goTo_321 S k277 28 x1 x2 x3 x4 x5 28 xs1 xs2 D) (fun q => Inv g S q.2) := by
  unfold f_X9_goTo_321
  refine wp_if (fun c_1 => ?_) (fun c_1 => ?_)
  ·
    have h_2 : Rg 0 0 _ := rg_eq1 hx2 rc_0 c_1 (by decide)
    refine wp_rq (iR_28_36 h) ?_
    refine wp_ix (in_rg hx4 (iA_56 h) (by decide)) ?_
    exact s_X9_goTo_342 hk277 hx1 (rg_w h_2 (by decide)) hx3 hx4 hx5 hxs1 hm277 h
  ·
    have h_3 : Rg 1 1 _ := rg_ne1 hx2 rc_0 c_1 (by decide)
    refine wp_rq (iR_28_41 h) ?_
    refine wp_ix (in_rg hx5 (iA_61 h) (by decide)) ?_
    exact s_X9_goTo_342 hk277 hx1 (rg_w h_3 (by decide)) hx3 hx4 hx5 hxs1 hm277 h
set_option maxRecDepth 100000 in
theorem s_X9_goTo_277 {g : gh} {S : sh}  : ∀ (n : Nat) (x1 : Int32) (x2 : Int32) (x3 : Int32) (D : dt), Rg 0 199 x1 → Rg 0 1 x2 → Rg 0 64 x3 → 64 - x3.toInt < (n : Int) → Inv g S D → wp (f_X9_goTo_277 S n 28 x1 x2 x3 D) (fun q => Inv g S q.2) := by
  intro n
  induction n with
  | zero =>
    intro x1 x2 x3 D hx1 hx2 hx3 hm h
    exact (ms_0 hx3 (by decide) hm).elim
  | succ n ih =>
    intro x1 x2 x3 D hx1 hx2 hx3 hm h
    rw [f_X9_goTo_277.eq_2]
    refine wp_if (fun c_1 => ?_) (fun c_1 => ?_)
    ·
      have h_2 : Rg 64 64 _ := rg_le2 rc_64 hx3 c_1 (by decide)
      refine wp_nmI (fun y415 e_y415 => ?_)
      have h_y415 : Rg 0 0 y415 := rg_eq e_y415 rc_0
      exact s_X9_goTo_519  LF _ _ _ _ hx1 hx2 (rg_w h_y415 (by decide)) (ms_in h_y415 (by decide)) h
    ·
      have h_3 : Rg 0 63 _ := rg_lt1 hx3 rc_64 (nle32 c_1) (by decide)
      refine wp_nmI (fun y416 e_y416 => ?_)
      have h_y416 : Rg 0 12799 y416 := rg_eq e_y416 (rg_add (rg_mul rc_64 hx1 (by decide) : Rg 0 12736 _) h_3 (by decide) : Rg 0 12799 _)
      refine wp_nmI (fun y417 e_y417 => ?_)
      have h_y417 : Rg 11 74 y417 := rg_eq e_y417 (rg_add rc_11 h_3 (by decide) : Rg 11 74 _)
      refine wp_if (fun c_4 => ?_) (fun c_4 => ?_)
      ·
        have h_5 : Rg 0 0 _ := rg_eq1 hx2 rc_0 c_4 (by decide)
        refine wp_rq (iR_28_35 h) ?_
        refine wp_ix (in_rg h_y416 (iA_55 h) (by decide)) ?_
        exact s_X9_goTo_321 ih hx1 (rg_w h_5 (by decide)) h_3 h_y416 h_y417 h_y417 hm h
      ·
        have h_6 : Rg 1 1 _ := rg_ne1 hx2 rc_0 c_4 (by decide)
        refine wp_rq (iR_28_40 h) ?_
        refine wp_ix (in_rg h_y417 (iA_60 h) (by decide)) ?_
        exact s_X9_goTo_321 ih hx1 (rg_w h_6 (by decide)) h_3 h_y416 h_y417 h_y417 hm h
set_option maxRecDepth 100000 in
theorem s_X9_goTo_268 {g : gh} {S : sh} {k24 : Nat → Int32 → Int32 → Int32 → dt → Option (Unit × dt)} {n24 : Nat} (hk24 : ∀ (x1 : Int32) (x2 : Int32) (x3 : Int32) (D : dt), Rg 0 199 x1 → Rg 0 1 x2 → Rg 0 11 x3 → 11 - x3.toInt < (n24 : Int) → Inv g S D → wp (k24 28 x1 x2 x3 D) (fun q => Inv g S q.2)) {x1 : Int32} {x2 : Int32} {x3 : Int32} {xs1 : Int32} {xs2 : Int32} {D : dt} (hx1 : Rg 0 199 x1) (hx2 : Rg 0 1 x2) (hx3 : Rg 0 10 x3) (hxs1 : Rg 0 2199 xs1) (hm24 : 11 - x3.toInt < ((n24 + 1 : Nat) : Int)) (h : Inv g S D) : wp (f_X9_goTo_268 S k24 28 x1 x2 x3 53 xs1 xs2 D) (fun q => Inv g S q.2) := by
  unfold f_X9_goTo_268
  refine wp_ix (in_rg hxs1 (iA_53 h) (by decide)) ?_
  refine wp_nmI (fun D430 e_D430 => ?_)
  have h_D430 : Inv g S D430 := by rw [e_D430]; exact inv_i53 h (rg_top _)
  refine wp_nmI (fun y431 e_y431 => ?_)
  have h_y431 : Rg 1 11 y431 := rg_eq e_y431 (rg_add hx3 rc_1 (by decide) : Rg 1 11 _)
  exact hk24 _ _ _ _ hx1 hx2 (rg_w h_y431 (by decide)) (by rw [e_y431]; exact ms_up hx3 (by decide) hm24) h_D430
set_option maxRecDepth 100000 in
theorem s_X9_goTo_241 {g : gh} {S : sh} {k24 : Nat → Int32 → Int32 → Int32 → dt → Option (Unit × dt)} {n24 : Nat} (hk24 : ∀ (x1 : Int32) (x2 : Int32) (x3 : Int32) (D : dt), Rg 0 199 x1 → Rg 0 1 x2 → Rg 0 11 x3 → 11 - x3.toInt < (n24 : Int) → Inv g S D → wp (k24 28 x1 x2 x3 D) (fun q => Inv g S q.2)) {x1 : Int32} {x2 : Int32} {x3 : Int32} {x4 : Int32} {xs1 : Int32} {xs2 : Int32} {D : dt} (hx1 : Rg 0 199 x1) (hx2 : Rg 0 1 x2) (hx3 : Rg 0 10 x3) (hx4 : Rg 0 2199 x4) (hxs1 : Rg 0 2199 xs1) (hxs2 : Rg 0 3 xs2) (hm24 : 11 - x3.toInt < ((n24 + 1 : Nat) : Int)) (h : Inv g S D) : wp (f_X9_goTo_241 S k24 28 x1 x2 x3 x4 52 xs1 xs2 D) (fun q => Inv g S q.2) := by
  unfold f_X9_goTo_241
  refine wp_ix (in_rg hxs1 (iA_52 h) (by decide)) ?_
  refine wp_nmI (fun D433 e_D433 => ?_)
  have h_D433 : Inv g S D433 := by rw [e_D433]; exact inv_i52 h hxs2
  refine wp_rq (iR_28_33 h_D433) ?_
  refine wp_rq (iR_28_29 h_D433) ?_
  refine wp_ix (in_rg hx4 (iA_49 h_D433) (by decide)) ?_
  refine wp_if (fun c_1 => ?_) (fun c_1 => ?_)
  ·
    have h_2 : Rg 0 0 _ := rg_eq1 (rg_top _) rc_0 c_1 (by decide)
    exact s_X9_goTo_268 hk24 hx1 hx2 hx3 hx4 hm24 h_D433
  ·
    refine wp_rq (iR_28_44 h_D433) ?_
    refine wp_ix (in_rg hx3 (iA_64 h_D433) (by decide)) ?_
    exact s_X9_goTo_268 hk24 hx1 hx2 hx3 hx4 hm24 h_D433
set_option maxRecDepth 100000 in
theorem s_X9_goTo_214 {g : gh} {S : sh} {k24 : Nat → Int32 → Int32 → Int32 → dt → Option (Unit × dt)} {n24 : Nat} (hk24 : ∀ (x1 : Int32) (x2 : Int32) (x3 : Int32) (D : dt), Rg 0 199 x1 → Rg 0 1 x2 → Rg 0 11 x3 → 11 - x3.toInt < (n24 : Int) → Inv g S D → wp (k24 28 x1 x2 x3 D) (fun q => Inv g S q.2)) {x1 : Int32} {x2 : Int32} {x3 : Int32} {x4 : Int32} {xs1 : Int32} {xs2 : Int64} {D : dt} (hx1 : Rg 0 199 x1) (hx2 : Rg 0 1 x2) (hx3 : Rg 0 10 x3) (hx4 : Rg 0 2199 x4) (hxs1 : Rg 0 2199 xs1) (hm24 : 11 - x3.toInt < ((n24 + 1 : Nat) : Int)) (h : Inv g S D) : wp (f_X9_goTo_214 S k24 28 x1 x2 x3 x4 51 xs1 xs2 D) (fun q => Inv g S q.2) := by
  unfold f_X9_goTo_214
  refine wp_ix (in_rg hxs1 (iA_51 h) (by decide)) ?_
  refine wp_nmI (fun D450 e_D450 => ?_)
  have h_D450 : Inv g S D450 := by rw [e_D450]; exact inv_l51 h
  refine wp_rq (iR_28_32 h_D450) ?_
  refine wp_rq (iR_28_29 h_D450) ?_
  refine wp_ix (in_rg hx4 (iA_49 h_D450) (by decide)) ?_
  refine wp_if (fun c_1 => ?_) (fun c_1 => ?_)
  ·
    have h_2 : Rg 0 0 _ := rg_eq1 (rg_top _) rc_0 c_1 (by decide)
    exact s_X9_goTo_241 hk24 hx1 hx2 hx3 hx4 hx4 (rg_w rc_0 (by decide)) hm24 h_D450
  ·
    refine wp_rq (iR_28_43 h_D450) ?_
    refine wp_ix (in_rg hx3 (iA_63 h_D450) (by decide)) ?_
    exact s_X9_goTo_241 hk24 hx1 hx2 hx3 hx4 hx4 (iI_63 h_D450 _) hm24 h_D450
theorem s_X9_goTo_166 {g : gh} {S : sh} {k24 : Nat → Int32 → Int32 → Int32 → dt → Option (Unit × dt)} {n24 : Nat} (hk24 : ∀ (x1 : Int32) (x2 : Int32) (x3 : Int32) (D : dt), Rg 0 199 x1 → Rg 0 1 x2 → Rg 0 11 x3 → 11 - x3.toInt < (n24 : Int) → Inv g S D → wp (k24 28 x1 x2 x3 D) (fun q => Inv g S q.2)) {x1 x2 x3 x4 xs1 xs2 : Int32} {D : dt} (hx1 : Rg 0 199 x1) (hx2 : Rg 0 1 x2) (hx3 : Rg 0 10 x3) (hx4 : Rg 0 2199 x4) (hxs1 : Rg 0 2199 xs1) (he : xs1 = x4) (hs : (x2 = 0 → xs2 = gI D 28 47) ∧ (¬ x2 = 0 → xs2 = gI D 60 x3.toNatClampNeg)) (hm24 : 11 - x3.toInt < ((n24 + 1 : Nat) : Int)) (h : Inv g S D) : wp (f_X9_goTo_166 S k24 28 x1 x2 x3 x4 49 xs1 xs2 D) (fun q => Inv g S q.2) := by
  subst he
  have i0 := in_rg hx4 (iA_49 h) (by decide)
  have i1 := in_rg hx4 (iA_50 h) (by decide)
  have j0 := in_rg (rg_w hx3 (by decide) : Rg 0 149 _) (iA_61 h) (by decide)
  have j1 := in_rg (rg_w hx3 (by decide) : Rg 0 149 _) (iA_62 h) (by decide)
  unfold f_X9_goTo_166
  refine wp_ix i0 (wp_nmI (fun D1 e1 => ?_))
  have go : ∀ L : Int64, stm xs2 L → wp (f_X9_goTo_190 S k24 28 x1 x2 x3 xs1 50 xs1 L D1) (fun q => Inv g S q.2) := by
    intro L hL
    unfold f_X9_goTo_190
    refine wp_ix i1 (wp_nmI (fun D2 e2 => ?_))
    have h2 : Inv g S D2 := by rw [e2, e1]; exact inv_kl49 h hL
    exact wp_rq (iR_28_31 h2) (wp_if (fun _ => s_X9_goTo_214 hk24 hx1 hx2 hx3 hx4 hx4 hm24 h2) (fun _ => wp_rq (iR_28_42 h2) (wp_ix j1 (s_X9_goTo_214 hk24 hx1 hx2 hx3 hx4 hx4 hm24 h2))))
  refine wp_rq (x := 50) (by rw [e1, gR_pI]; exact iR_28_30 h) (wp_if (fun c => go _ ?_) (fun c => wp_rq (x := 61) (by rw [e1, gR_pI]; exact iR_28_41 h) (wp_ix j0 (go _ ?_))))
  · rw [hs.1 c, e1, gL_pI]
    exact h.k.2.2.2
  · rw [hs.2 c, e1, gL_pI]
    exact h.k.1 _
set_option maxRecDepth 100000 in
theorem s_X9_goTo_140 {g : gh} {S : sh} {k24 : Nat → Int32 → Int32 → Int32 → dt → Option (Unit × dt)} {n24 : Nat} (hk24 : ∀ (x1 : Int32) (x2 : Int32) (x3 : Int32) (D : dt), Rg 0 199 x1 → Rg 0 1 x2 → Rg 0 11 x3 → 11 - x3.toInt < (n24 : Int) → Inv g S D → wp (k24 28 x1 x2 x3 D) (fun q => Inv g S q.2)) {x1 : Int32} {x2 : Int32} {x3 : Int32} {x4 : Int32} {xs1 : Int32} {xs2 : Int32} {xs3 : Int64} {xs4 : Int64} {xs5 : Int32} {xs6 : Int32} {D : dt} (hx1 : Rg 0 199 x1) (hx2 : Rg 0 1 x2) (hx3 : Rg 0 10 x3) (hx4 : Rg 0 2199 x4) (hxs1 : Rg 0 10 xs1) (hxs5 : Rg 0 3 xs5) (hm24 : 11 - x3.toInt < ((n24 + 1 : Nat) : Int)) (h : Inv g S D) : wp (f_X9_goTo_140 S k24 28 x1 x2 x3 x4 28 xs1 xs2 xs3 xs4 xs5 xs6 D) (fun q => Inv g S q.2) := by
  unfold f_X9_goTo_140
  refine wp_cqs (s_X9_join (rg_w hxs1 (by decide)) hxs5 h) (fun _ D491 h_D491 => ?_)
  refine wp_rq (iR_28_29 h_D491) ?_
  refine wp_if (fun c_1 => ?_) (fun c_1 => ?_)
  ·
    have h_2 : Rg 0 0 _ := rg_eq1 hx2 rc_0 c_1 (by decide)
    exact s_X9_goTo_166 hk24 hx1 (rg_w h_2 (by decide)) hx3 hx4 hx4 rfl ⟨fun _ => rfl, fun n => absurd c_1 n⟩ hm24 h_D491
  ·
    have h_3 : Rg 1 1 _ := rg_ne1 hx2 rc_0 c_1 (by decide)
    refine wp_rq (iR_28_40 h_D491) ?_
    refine wp_ix (in_rg hx3 (iA_60 h_D491) (by decide)) ?_
    exact s_X9_goTo_166 hk24 hx1 (rg_w h_3 (by decide)) hx3 hx4 hx4 rfl ⟨fun e => absurd e c_1, fun _ => rfl⟩ hm24 h_D491
set_option maxRecDepth 100000 in
theorem s_X9_goTo_120 {g : gh} {S : sh} {k24 : Nat → Int32 → Int32 → Int32 → dt → Option (Unit × dt)} {n24 : Nat} (hk24 : ∀ (x1 : Int32) (x2 : Int32) (x3 : Int32) (D : dt), Rg 0 199 x1 → Rg 0 1 x2 → Rg 0 11 x3 → 11 - x3.toInt < (n24 : Int) → Inv g S D → wp (k24 28 x1 x2 x3 D) (fun q => Inv g S q.2)) {x1 : Int32} {x2 : Int32} {x3 : Int32} {x4 : Int32} {xs1 : Int32} {xs2 : Int32} {xs3 : Int64} {xs4 : Int64} {xs5 : Int32} {D : dt} (hx1 : Rg 0 199 x1) (hx2 : Rg 0 1 x2) (hx3 : Rg 0 10 x3) (hx4 : Rg 0 2199 x4) (hxs1 : Rg 0 10 xs1) (hxs5 : Rg 0 3 xs5) (hm24 : 11 - x3.toInt < ((n24 + 1 : Nat) : Int)) (h : Inv g S D) : wp (f_X9_goTo_120 S k24 28 x1 x2 x3 x4 28 xs1 xs2 xs3 xs4 xs5 D) (fun q => Inv g S q.2) := by
  unfold f_X9_goTo_120
  refine wp_if (fun c_1 => ?_) (fun c_1 => ?_)
  ·
    have h_2 : Rg 0 0 _ := rg_eq1 hx2 rc_0 c_1 (by decide)
    refine wp_rq (iR_28_33 h) ?_
    refine wp_ix (in_rg hx4 (iA_53 h) (by decide)) ?_
    exact s_X9_goTo_140 hk24 hx1 (rg_w h_2 (by decide)) hx3 hx4 hxs1 hxs5 hm24 h
  ·
    have h_3 : Rg 1 1 _ := rg_ne1 hx2 rc_0 c_1 (by decide)
    refine wp_rq (iR_28_44 h) ?_
    refine wp_ix (in_rg hx3 (iA_64 h) (by decide)) ?_
    exact s_X9_goTo_140 hk24 hx1 (rg_w h_3 (by decide)) hx3 hx4 hxs1 hxs5 hm24 h
set_option maxRecDepth 100000 in
theorem s_X9_goTo_100 {g : gh} {S : sh} {k24 : Nat → Int32 → Int32 → Int32 → dt → Option (Unit × dt)} {n24 : Nat} (hk24 : ∀ (x1 : Int32) (x2 : Int32) (x3 : Int32) (D : dt), Rg 0 199 x1 → Rg 0 1 x2 → Rg 0 11 x3 → 11 - x3.toInt < (n24 : Int) → Inv g S D → wp (k24 28 x1 x2 x3 D) (fun q => Inv g S q.2)) {x1 : Int32} {x2 : Int32} {x3 : Int32} {x4 : Int32} {xs1 : Int32} {xs2 : Int32} {xs3 : Int64} {xs4 : Int64} {D : dt} (hx1 : Rg 0 199 x1) (hx2 : Rg 0 1 x2) (hx3 : Rg 0 10 x3) (hx4 : Rg 0 2199 x4) (hxs1 : Rg 0 10 xs1) (hm24 : 11 - x3.toInt < ((n24 + 1 : Nat) : Int)) (h : Inv g S D) : wp (f_X9_goTo_100 S k24 28 x1 x2 x3 x4 28 xs1 xs2 xs3 xs4 D) (fun q => Inv g S q.2) := by
  unfold f_X9_goTo_100
  refine wp_if (fun c_1 => ?_) (fun c_1 => ?_)
  ·
    have h_2 : Rg 0 0 _ := rg_eq1 hx2 rc_0 c_1 (by decide)
    refine wp_rq (iR_28_32 h) ?_
    refine wp_ix (in_rg hx4 (iA_52 h) (by decide)) ?_
    exact s_X9_goTo_120 hk24 hx1 (rg_w h_2 (by decide)) hx3 hx4 hxs1 (iI_52 h _) hm24 h
  ·
    have h_3 : Rg 1 1 _ := rg_ne1 hx2 rc_0 c_1 (by decide)
    refine wp_rq (iR_28_43 h) ?_
    refine wp_ix (in_rg hx3 (iA_63 h) (by decide)) ?_
    exact s_X9_goTo_120 hk24 hx1 (rg_w h_3 (by decide)) hx3 hx4 hxs1 (iI_63 h _) hm24 h
set_option maxRecDepth 100000 in
theorem s_X9_goTo_80 {g : gh} {S : sh} {k24 : Nat → Int32 → Int32 → Int32 → dt → Option (Unit × dt)} {n24 : Nat} (hk24 : ∀ (x1 : Int32) (x2 : Int32) (x3 : Int32) (D : dt), Rg 0 199 x1 → Rg 0 1 x2 → Rg 0 11 x3 → 11 - x3.toInt < (n24 : Int) → Inv g S D → wp (k24 28 x1 x2 x3 D) (fun q => Inv g S q.2)) {x1 : Int32} {x2 : Int32} {x3 : Int32} {x4 : Int32} {xs1 : Int32} {xs2 : Int32} {xs3 : Int64} {D : dt} (hx1 : Rg 0 199 x1) (hx2 : Rg 0 1 x2) (hx3 : Rg 0 10 x3) (hx4 : Rg 0 2199 x4) (hxs1 : Rg 0 10 xs1) (hm24 : 11 - x3.toInt < ((n24 + 1 : Nat) : Int)) (h : Inv g S D) : wp (f_X9_goTo_80 S k24 28 x1 x2 x3 x4 28 xs1 xs2 xs3 D) (fun q => Inv g S q.2) := by
  unfold f_X9_goTo_80
  refine wp_if (fun c_1 => ?_) (fun c_1 => ?_)
  ·
    have h_2 : Rg 0 0 _ := rg_eq1 hx2 rc_0 c_1 (by decide)
    refine wp_rq (iR_28_31 h) ?_
    refine wp_ix (in_rg hx4 (iA_51 h) (by decide)) ?_
    exact s_X9_goTo_100 hk24 hx1 (rg_w h_2 (by decide)) hx3 hx4 hxs1 hm24 h
  ·
    have h_3 : Rg 1 1 _ := rg_ne1 hx2 rc_0 c_1 (by decide)
    refine wp_rq (iR_28_42 h) ?_
    refine wp_ix (in_rg hx3 (iA_62 h) (by decide)) ?_
    exact s_X9_goTo_100 hk24 hx1 (rg_w h_3 (by decide)) hx3 hx4 hxs1 hm24 h
set_option maxRecDepth 100000 in
theorem s_X9_goTo_60 {g : gh} {S : sh} {k24 : Nat → Int32 → Int32 → Int32 → dt → Option (Unit × dt)} {n24 : Nat} (hk24 : ∀ (x1 : Int32) (x2 : Int32) (x3 : Int32) (D : dt), Rg 0 199 x1 → Rg 0 1 x2 → Rg 0 11 x3 → 11 - x3.toInt < (n24 : Int) → Inv g S D → wp (k24 28 x1 x2 x3 D) (fun q => Inv g S q.2)) {x1 : Int32} {x2 : Int32} {x3 : Int32} {x4 : Int32} {xs1 : Int32} {xs2 : Int32} {D : dt} (hx1 : Rg 0 199 x1) (hx2 : Rg 0 1 x2) (hx3 : Rg 0 10 x3) (hx4 : Rg 0 2199 x4) (hxs1 : Rg 0 10 xs1) (hm24 : 11 - x3.toInt < ((n24 + 1 : Nat) : Int)) (h : Inv g S D) : wp (f_X9_goTo_60 S k24 28 x1 x2 x3 x4 28 xs1 xs2 D) (fun q => Inv g S q.2) := by
  unfold f_X9_goTo_60
  refine wp_if (fun c_1 => ?_) (fun c_1 => ?_)
  ·
    have h_2 : Rg 0 0 _ := rg_eq1 hx2 rc_0 c_1 (by decide)
    refine wp_rq (iR_28_30 h) ?_
    refine wp_ix (in_rg hx4 (iA_50 h) (by decide)) ?_
    exact s_X9_goTo_80 hk24 hx1 (rg_w h_2 (by decide)) hx3 hx4 hxs1 hm24 h
  ·
    have h_3 : Rg 1 1 _ := rg_ne1 hx2 rc_0 c_1 (by decide)
    refine wp_rq (iR_28_41 h) ?_
    refine wp_ix (in_rg hx3 (iA_61 h) (by decide)) ?_
    exact s_X9_goTo_80 hk24 hx1 (rg_w h_3 (by decide)) hx3 hx4 hxs1 hm24 h
set_option maxRecDepth 100000 in
theorem s_X9_goTo_24 {g : gh} {S : sh}  : ∀ (n : Nat) (x1 : Int32) (x2 : Int32) (x3 : Int32) (D : dt), Rg 0 199 x1 → Rg 0 1 x2 → Rg 0 11 x3 → 11 - x3.toInt < (n : Int) → Inv g S D → wp (f_X9_goTo_24 S n 28 x1 x2 x3 D) (fun q => Inv g S q.2) := by
  intro n
  induction n with
  | zero =>
    intro x1 x2 x3 D hx1 hx2 hx3 hm h
    exact (ms_0 hx3 (by decide) hm).elim
  | succ n ih =>
    intro x1 x2 x3 D hx1 hx2 hx3 hm h
    rw [f_X9_goTo_24.eq_2]
    refine wp_if (fun c_1 => ?_) (fun c_1 => ?_)
    ·
      have h_2 : Rg 11 11 _ := rg_le2 rc_11 hx3 c_1 (by decide)
      refine wp_nmI (fun y547 e_y547 => ?_)
      have h_y547 : Rg 0 0 y547 := rg_eq e_y547 rc_0
      exact s_X9_goTo_277  LF _ _ _ _ hx1 hx2 (rg_w h_y547 (by decide)) (ms_in h_y547 (by decide)) h
    ·
      have h_3 : Rg 0 10 _ := rg_lt1 hx3 rc_11 (nle32 c_1) (by decide)
      refine wp_nmI (fun y548 e_y548 => ?_)
      have h_y548 : Rg 0 2199 y548 := rg_eq e_y548 (rg_add (rg_mul rc_11 hx1 (by decide) : Rg 0 2189 _) h_3 (by decide) : Rg 0 2199 _)
      refine wp_if (fun c_4 => ?_) (fun c_4 => ?_)
      ·
        have h_5 : Rg 0 0 _ := rg_eq1 hx2 rc_0 c_4 (by decide)
        refine wp_rq (iR_28_29 h) ?_
        refine wp_ix (in_rg h_y548 (iA_49 h) (by decide)) ?_
        exact s_X9_goTo_60 ih hx1 (rg_w h_5 (by decide)) h_3 h_y548 h_3 hm h
      ·
        have h_6 : Rg 1 1 _ := rg_ne1 hx2 rc_0 c_4 (by decide)
        refine wp_rq (iR_28_40 h) ?_
        refine wp_ix (in_rg h_3 (iA_60 h) (by decide)) ?_
        exact s_X9_goTo_60 ih hx1 (rg_w h_6 (by decide)) h_3 h_y548 h_3 hm h
set_option maxRecDepth 100000 in
theorem s_X9_goTo_14 {g : gh} {S : sh}  {x1 : Int32} {xs0 : Int32} {D : dt} (hx1 : Rg 0 199 x1) (hxs0 : Rg 0 1 xs0) (h : Inv g S D) : wp (f_X9_goTo_14 S 28 x1 xs0 D) (fun q => Inv g S q.2) := by
  unfold f_X9_goTo_14
  refine wp_rq (iR_28_27 h) ?_
  refine wp_ix (in_rg hx1 (iA_47 h) (by decide)) ?_
  refine wp_nmI (fun D565 e_D565 => ?_)
  have h_D565 : Inv g S D565 := by rw [e_D565]; exact inv_i47 h (rg_top _)
  refine wp_nmI (fun y566 e_y566 => ?_)
  have h_y566 : Rg 0 0 y566 := rg_eq e_y566 rc_0
  exact s_X9_goTo_24  LF _ _ _ _ hx1 hxs0 (rg_w h_y566 (by decide)) (ms_in h_y566 (by decide)) h_D565
set_option maxRecDepth 100000 in
theorem s_X9_goTo {g : gh} {S : sh}  {x1 : Int32} {D : dt} (hx1 : Rg 0 199 x1) (h : Inv g S D) : wp (f_X9_goTo S 28 x1 D) (fun q => Inv g S q.2) := by
  unfold f_X9_goTo
  refine wp_rq (iR_28_27 h) ?_
  refine wp_ix (in_rg hx1 (iA_47 h) (by decide)) ?_
  refine wp_if (fun c_1 => ?_) (fun c_1 => ?_)
  ·
    have h_2 : Rg 0 0 _ := rg_eq1 (rg_top _) rc_0 c_1 (by decide)
    exact s_X9_goTo_14 hx1 (rg_w rc_1 (by decide)) h
  ·
    exact s_X9_goTo_14 hx1 (rg_w rc_0 (by decide)) h
set_option maxRecDepth 100000 in
theorem s_X9_isWay {g : gh} {S : sh} {D : dt}  {x1 : Int32}  (h : Inv g S D) : wp (f_X9_isWay S D 28 x1) (fun q => Rg 0 1 q ∧ (q ≠ 0 → Rg 0 199 x1)) := by
  unfold f_X9_isWay
  refine wp_if (fun c_1 => ?_) (fun c_1 => ?_)
  ·
    have h_2 : Rg (-2147483648) 199 _ := rg_le1 (rg_top _) (iF_28_46 h) c_1 (by decide)
    exact ⟨_, rfl, (rg_w rc_0 (by decide)), (fun ne => absurd rfl ne)⟩
  ·
    have h_3 : Rg 1 2147483647 _ := rg_lt2 (iF_28_46 h) (rg_top _) (nle32 c_1) (by decide)
    refine wp_if (fun c_4 => ?_) (fun c_4 => ?_)
    ·
      exact ⟨_, rfl, (rg_w rc_0 (by decide)), (fun ne => absurd rfl ne)⟩
    ·
      have h_5 : Rg 1 199 _ := rg_lt1 h_3 (iF_28_0 h) (nle32 c_4) (by decide)
      have h_6 : Rg 2 200 _ := rg_lt2 h_3 (iF_28_0 h) (nle32 c_4) (by decide)
      refine wp_rq (iR_28_28 h) ?_
      refine wp_ix (in_rg h_5 (iA_48 h) (by decide)) ?_
      refine wp_if (fun c_7 => ?_) (fun c_7 => ?_)
      ·
        have h_8 : Rg 0 0 _ := rg_eq1 (rg_top _) rc_0 c_7 (by decide)
        exact ⟨_, rfl, (rg_w rc_1 (by decide)), (fun _ => (rg_w h_5 (by decide)))⟩
      ·
        exact ⟨_, rfl, (rg_w rc_0 (by decide)), (fun ne => absurd rfl ne)⟩
def tsP (g : gh) (S : sh) (x1 : Int32) (q : Unit × dt) : Prop := (gI q.2 28 50 = 1 → gL q.2 28 51 ≠ gL q.2 28 52 → gI q.2 60 (g.2 31 x1.toNatClampNeg).toNatClampNeg ≠ 3) ∧ Inv g S q.2
theorem q_ts0 {g : gh} {S : sh} {x1 : Int32} {D : dt} (hx1 : Rg 0 199 x1) (h : Inv g S D) : wp (f_X9_takeSecond_57 S 28 x1 0 D) (tsP g S x1) := by
  unfold f_X9_takeSecond_57 f_X9_takeSecond_78 f_X9_takeSecond_107 f_X9_takeSecond_136
  have i33 := in_rg hx1 (iA_33 h) (by decide)
  refine wp_if (fun _ => wp_nmI (fun D1 e1 => ?_)) (fun n => absurd rfl n)
  have h1 : Inv g S D1 := by rw [e1]; exact inv_i28 h (Or.inl (by decide)) (rg_top _)
  refine wp_if (fun _ => wp_rq (iR_28_5 h1) (wp_ix i33 (wp_nmI (fun D2 e2 => ?_)))) (fun n => absurd rfl n)
  have h2 : Inv g S D2 := by rw [e2]; exact inv_l28 h1 (by decide) (Or.inl (by decide))
  refine wp_if (fun _ => wp_rq (iR_28_5 h2) (wp_ix i33 (wp_nmI (fun D3 e3 => ⟨_, rfl, ?_, ?_⟩)))) (fun n => absurd rfl n)
  · intro _ n
    refine absurd ?_ n
    show gL D3 28 51 = gL D3 28 52
    rw [e3, gL_pL, gL_pL, if_neg (by decide), if_pos ⟨rfl, rfl⟩, e2, gL_pL, if_pos ⟨rfl, rfl⟩, gI_pL]
  · show Inv g S D3
    rw [e3]
    exact inv_l28 h2 (by decide) (Or.inl (by decide))
theorem q_ts1 {g : gh} {S : sh} {x1 : Int32} {D : dt} (hx1 : Rg 0 199 x1) (h31 : Rg 0 10 (g.2 31 x1.toNatClampNeg)) (h : Inv g S D) : wp (f_X9_takeSecond_57 S 28 x1 1 D) (tsP g S x1) := by
  unfold f_X9_takeSecond_57 f_X9_takeSecond_78 f_X9_takeSecond_107 f_X9_takeSecond_136
  have i31 := in_rg hx1 (iA_31 h) (by decide)
  have r : ∀ {D' : dt}, Inv g S D' → Rg 0 10 (gI D' 31 x1.toNatClampNeg) := fun h' => rg_eq (h'.p 31 _ rfl) h31
  refine wp_if (fun n => absurd n (by decide)) (fun _ => wp_rq (iR_28_40 h) (wp_rq (iR_28_3 h) (wp_ix i31 (wp_ix (in_rg (r h) (iA_60 h) (by decide)) (wp_nmI (fun D1 e1 => ?_))))))
  have h1 : Inv g S D1 := by rw [e1]; exact inv_i28 h (Or.inl (by decide)) (rg_top _)
  refine wp_if (fun n => absurd n (by decide)) (fun _ => wp_rq (iR_28_41 h1) (wp_rq (iR_28_3 h1) (wp_ix i31 (wp_ix (in_rg (r h1) (iA_61 h) (by decide)) (wp_nmI (fun D2 e2 => ?_))))))
  have h2 : Inv g S D2 := by rw [e2]; exact inv_l28 h1 (by decide) (Or.inl (by decide))
  refine wp_if (fun n => absurd n (by decide)) (fun _ => wp_rq (iR_28_42 h2) (wp_rq (iR_28_3 h2) (wp_ix i31 (wp_ix (in_rg (r h2) (iA_62 h) (by decide)) (wp_nmI (fun D3 e3 => ⟨_, rfl, ?_, ?_⟩))))))
  · intro e _ z
    have e : gI D3 28 50 = 1 := e
    have z : gI D3 60 (g.2 31 x1.toNatClampNeg).toNatClampNeg = 3 := z
    rw [e3, gI_pL, e2, gI_pL, e1, gI_pI, if_pos ⟨rfl, rfl⟩, h.p 31 _ rfl] at e
    rw [e3, gI_pL, e2, gI_pL, e1, gI_pI, if_neg (fun q => by omega)] at z
    exact absurd (e.symm.trans z) (by decide)
  · show Inv g S D3
    rw [e3]
    exact inv_l28 h2 (by decide) (Or.inl (by decide))
theorem s_X9_takeSecond {g : gh} {S : sh} {x1 : Int32} {D : dt} (hx1 : Rg 0 199 x1) (h30_x1 : Rg 0 10 (g.2 30 x1.toNatClampNeg)) (h31_x1 : Rg 0 10 (g.2 31 x1.toNatClampNeg)) (h : Inv g S D) : wp (f_X9_takeSecond S 28 x1 D) (fun q => (gI q.2 28 50 = 1 → gL q.2 28 51 ≠ gL q.2 28 52 → gI q.2 60 (g.2 31 x1.toNatClampNeg).toNatClampNeg ≠ 3) ∧ Inv g S q.2) := by
  unfold f_X9_takeSecond f_X9_takeSecond_56 f_X9_takeSecond_52
  have i : ∀ {k : Option (Unit × dt)}, wp k (tsP g S x1) → wp (ix x1 (sA S 29) k) (tsP g S x1) := fun w => wp_ix (in_rg hx1 (iA_29 h) (by decide)) w
  show wp _ (tsP g S x1)
  exact wp_rq (iR_28_1 h) (i (wp_if (fun _ => q_ts0 hx1 h) (fun _ => wp_rq (iR_28_1 h) (i (wp_if (fun _ => q_ts1 hx1 h31_x1 h) (fun _ => wp_rq (iR_28_1 h) (i (wp_if (fun _ => q_ts1 hx1 h31_x1 h) (fun _ => wp_rq (iR_28_1 h) (i (wp_if (fun _ => q_ts0 hx1 h) (fun _ => q_ts1 hx1 h31_x1 h))))))))))))
def mk9 : Nat → Int64
  | 0 => 0
  | i + 1 => (j_lshl (mk9 i) (1 : Int32)) ||| (1 : Int64)
theorem mk9_64 : mk9 64 = -1 := by decide +kernel
theorem mask_end {x0 : Int64} : wp (f_X9_isBelow (-1) x0) (fun q => q = 0) := by
  unfold f_X9_isBelow
  refine wp_if (fun _ => ⟨_, rfl, rfl⟩) (fun c => ?_)
  exfalso
  have c := Int64.lt_iff_toInt_lt.mp (nle64 (fun q => c ((lg_cmp_ge _ _).mpr q)))
  have e : ((-1 : Int64) ^^^ (-9223372036854775808 : Int64)).toInt = 9223372036854775807 := by decide
  have b := i64_hi (x0 ^^^ (-9223372036854775808 : Int64))
  omega
theorem q_mask_2 {x0 : Int64} : ∀ (j n : Nat), j ≤ 64 → j < n → wp (f_X9_mask_2 n x0 (mk9 (64 - j))) (fun _ => True) := by
  intro j
  induction j with
  | zero =>
    intro n _ hn
    obtain ⟨n, rfl⟩ : ∃ m, n = m + 1 := ⟨n - 1, by omega⟩
    rw [f_X9_mask_2.eq_2]
    show wp (pq (f_X9_isBelow (mk9 64) x0) _) _
    rw [mk9_64]
    exact wp_pqs mask_end (fun r e => wp_if (fun _ => ⟨_, rfl, trivial⟩) (fun c => absurd e c))
  | succ j ih =>
    intro n hj hn
    obtain ⟨n, rfl⟩ : ∃ m, n = m + 1 := ⟨n - 1, by omega⟩
    rw [f_X9_mask_2.eq_2]
    refine wp_pqs s_X9_isBelow (fun r _ => wp_if (fun _ => ⟨_, rfl, trivial⟩) (fun _ => wp_nmI (fun y ey => ?_)))
    have e : y = mk9 (64 - j) := by
      rw [ey, show 64 - j = (64 - (j + 1)) + 1 by omega]
      rfl
    rw [e]
    exact ih n (by omega) (by omega)
theorem s_X9_mask {x0 : Int64} : wp (f_X9_mask x0) (fun q => True) := by
  unfold f_X9_mask
  refine wp_nmI (fun y ey => ?_)
  subst ey
  exact q_mask_2 64 LF (by decide) (by decide)
set_option maxRecDepth 100000 in
theorem s_X9_reckonMoved_122 {g : gh} {S : sh}   {D : dt}  (h : Inv g S D) : wp (f_X9_reckonMoved_122 S D) (fun q => Inv g S q.2) := by
  unfold f_X9_reckonMoved_122
  exact ⟨_, rfl, h⟩
set_option maxRecDepth 100000 in
theorem s_X9_reckonMoved_109 {g : gh} {S : sh}  {x4 : Int64} {x12 : Int32} {x13 : Int32} {x16 : Int64} {D : dt} (hx13 : Rg 0 10 x13) (h : Inv g S D) : wp (f_X9_reckonMoved_109 S 28 x4 x12 x13 x16 D) (fun q => Inv g S q.2) := by
  unfold f_X9_reckonMoved_109
  refine wp_cqs (s_X9_number (rg_w hx13 (by decide)) h) (fun _ D60 h_D60 => ?_)
  exact s_X9_reckonMoved_122 h_D60
set_option maxRecDepth 100000 in
theorem s_X9_reckonMoved_205 {g : gh} {S : sh}  {xs1 : Int32} {xs2 : Int64} {xs3 : Int64} {D : dt} (hxs1 : Rg 0 10 xs1) (hxs2 : RgL 0 0 xs2) (h : Inv g S D) : wp (f_X9_reckonMoved_205 S 28 xs1 xs2 xs3 D) (fun q => Inv g S q.2) := by
  unfold f_X9_reckonMoved_205
  refine wp_cqs (s_X9_number (rg_w hxs1 (by decide)) h) (fun _ D62 h_D62 => ?_)
  exact ⟨_, rfl, h_D62⟩
set_option maxRecDepth 100000 in
theorem s_X9_reckonMoved_162 {g : gh} {S : sh}  {xs1 : Int32} {xs2 : Int64} {xs3 : Int64} {D : dt} (hxs1 : Rg 0 10 xs1) (h : Inv g S D) : wp (f_X9_reckonMoved_162 S 28 xs1 xs2 xs3 D) (fun q => Inv g S q.2) := by
  unfold f_X9_reckonMoved_162
  refine wp_cqs (s_X9_number (rg_w hxs1 (by decide)) h) (fun _ D64 h_D64 => ?_)
  exact ⟨_, rfl, h_D64⟩
set_option maxRecDepth 100000 in
theorem s_X9_reckonMoved_147 {g : gh} {S : sh}  {x6 : Int64} {x12 : Int32} {x14 : Int32} {xs1 : Int32} {xs2 : Int64} {D : dt} (hx14 : Rg 0 1 x14) (hxs1 : Rg 0 10 xs1) (h : Inv g S D) : wp (f_X9_reckonMoved_147 S x6 x12 x14 28 xs1 xs2 D) (fun q => Inv g S q.2) := by
  unfold f_X9_reckonMoved_147
  refine wp_if (fun c_1 => ?_) (fun c_1 => ?_)
  ·
    have h_2 : Rg 0 0 _ := rg_eq1 hx14 rc_0 c_1 (by decide)
    exact s_X9_reckonMoved_162 hxs1 h
  ·
    have h_3 : Rg 1 1 _ := rg_ne1 hx14 rc_0 c_1 (by decide)
    exact s_X9_reckonMoved_162 hxs1 h
set_option maxRecDepth 100000 in
theorem s_X9_reckonMoved_244 {g : gh} {S : sh}  {x8 : Int64} {x10 : Int64} {x13 : Int32} {D : dt} (hx13 : Rg 0 10 x13) (h : Inv g S D) : wp (f_X9_reckonMoved_244 S 28 x8 x10 x13 D) (fun q => Inv g S q.2) := by
  unfold f_X9_reckonMoved_244
  refine wp_cqs (s_X9_number (rg_w hx13 (by decide)) h) (fun _ D67 h_D67 => ?_)
  exact ⟨_, rfl, h_D67⟩
set_option maxRecDepth 100000 in
theorem s_X9_reckonMoved_63 {g : gh} {S : sh}  {x1 : Int32} {x2 : Int32} {x3 : Int32} {x4 : Int64} {x6 : Int64} {x8 : Int64} {x10 : Int64} {x12 : Int32} {x13 : Int32} {x14 : Int32} {xs0 : Int32} {D : dt} (hx1 : Rg 0 199 x1) (hx2 : Rg 6 15 x2) (hx3 : Rg 0 1 x3) (hx13 : Rg 0 10 x13) (hx14 : Rg 0 1 x14) (hxs0 : Rg 0 1 xs0) (h30_x1 : Rg 0 10 (g.2 30 x1.toNatClampNeg)) (h31_x1 : Rg 0 10 (g.2 31 x1.toNatClampNeg)) (h : Inv g S D) : wp (f_X9_reckonMoved_63 S 28 x1 x2 x3 x4 x6 x8 x10 x12 x13 x14 xs0 D) (fun q => Inv g S q.2) := by
  unfold f_X9_reckonMoved_63
  refine wp_if (fun c_1 => ?_) (fun c_1 => ?_)
  ·
    have h_2 : Rg 6 6 _ := rg_eq1 hx2 rc_6 c_1 (by decide)
    refine wp_nmI (fun y98 e_y98 => ?_)
    refine wp_if (fun c_3 => ?_) (fun c_3 => ?_)
    ·
      have h_4 : Rg 0 0 _ := rg_eq1 hx14 rc_0 c_3 (by decide)
      exact s_X9_reckonMoved_122 h
    ·
      have h_5 : Rg 1 1 _ := rg_ne1 hx14 rc_0 c_3 (by decide)
      refine wp_if (fun c_6 => ?_) (fun c_6 => ?_)
      ·
        refine wp_if (fun c_7 => ?_) (fun c_7 => ?_)
        ·
          have h_8 : Rg 0 0 _ := rg_eq1 hx3 rc_0 c_7 (by decide)
          refine wp_pqs (s_X9_isBelow ) (fun r103 h_r103 => ?_)
          refine wp_if (fun c_9 => ?_) (fun c_9 => ?_)
          ·
            have h_10 : Rg 0 0 _ := rg_eq1 h_r103 rc_0 c_9 (by decide)
            exact s_X9_reckonMoved_109 hx13 h
          ·
            have h_11 : Rg 1 1 _ := rg_ne1 h_r103 rc_0 c_9 (by decide)
            exact s_X9_reckonMoved_122 h
        ·
          have h_12 : Rg 1 1 _ := rg_ne1 hx3 rc_0 c_7 (by decide)
          exact s_X9_reckonMoved_109 hx13 h
      ·
        exact s_X9_reckonMoved_122 h
  ·
    have h_13 : Rg 7 15 _ := rg_ne1 hx2 rc_6 c_1 (by decide)
    refine wp_if (fun c_14 => ?_) (fun c_14 => ?_)
    ·
      have h_15 : Rg 0 0 _ := rg_eq1 hxs0 rc_0 c_14 (by decide)
      refine wp_if (fun c_16 => ?_) (fun c_16 => ?_)
      ·
        have h_17 : Rg 13 13 _ := rg_eq1 h_13 rc_13 c_16 (by decide)
        refine wp_rq (iR_28_5 h) ?_
        refine wp_ix (in_rg hx1 (iA_33 h) (by decide)) ?_
        refine wp_if (fun c_18 => ?_) (fun c_18 => ?_)
        ·
          have h_19 : Rg 64 64 _ := rg_eq1 (rg_top _) rc_64 c_18 (by decide)
          exact s_X9_reckonMoved_205 hx13 rcl_0 h
        ·
          refine wp_rq (iR_28_5 h) ?_
          refine wp_ix (in_rg hx1 (iA_33 h) (by decide)) ?_
          exact s_X9_reckonMoved_205 hx13 rcl_0 h
      ·
        refine wp_if (fun c_20 => ?_) (fun c_20 => ?_)
        ·
          have h_21 : Rg 11 11 _ := rg_eq1 h_13 rc_11 c_20 (by decide)
          refine wp_rq (iR_28_4 h) ?_
          refine wp_ix (in_rg hx1 (iA_32 h) (by decide)) ?_
          refine wp_if (fun c_22 => ?_) (fun c_22 => ?_)
          ·
            have h_23 : Rg 0 0 _ := rg_eq1 (iI_32 h _) rc_0 c_22 (by decide)
            exact s_X9_reckonMoved_244 hx13 h
          ·
            refine wp_rq (iR_28_4 h) ?_
            refine wp_ix (in_rg hx1 (iA_32 h) (by decide)) ?_
            refine wp_pqs (s_X9_isBelow ) (fun r84 h_r84 => ?_)
            refine wp_if (fun c_24 => ?_) (fun c_24 => ?_)
            ·
              have h_25 : Rg 0 0 _ := rg_eq1 h_r84 rc_0 c_24 (by decide)
              exact ⟨_, rfl, h⟩
            ·
              have h_26 : Rg 1 1 _ := rg_ne1 h_r84 rc_0 c_24 (by decide)
              exact s_X9_reckonMoved_244 hx13 h
        ·
          exact ⟨_, rfl, h⟩
    ·
      have h_27 : Rg 1 1 _ := rg_ne1 hxs0 rc_0 c_14 (by decide)
      refine wp_if (fun c_28 => ?_) (fun c_28 => ?_)
      ·
        have h_29 : Rg 0 0 _ := rg_eq1 hx14 rc_0 c_28 (by decide)
        exact s_X9_reckonMoved_147 (rg_w h_29 (by decide)) hx13 h
      ·
        have h_30 : Rg 1 1 _ := rg_ne1 hx14 rc_0 c_28 (by decide)
        exact s_X9_reckonMoved_147 (rg_w h_30 (by decide)) hx13 h
set_option maxRecDepth 100000 in
theorem s_X9_reckonMoved_58 {g : gh} {S : sh}  {x1 : Int32} {x2 : Int32} {x3 : Int32} {x4 : Int64} {x6 : Int64} {x8 : Int64} {x10 : Int64} {x12 : Int32} {x13 : Int32} {x14 : Int32} {D : dt} (hx1 : Rg 0 199 x1) (hx2 : Rg 7 12 x2) (hx3 : Rg 0 1 x3) (hx13 : Rg 0 10 x13) (hx14 : Rg 0 1 x14) (h30_x1 : Rg 0 10 (g.2 30 x1.toNatClampNeg)) (h31_x1 : Rg 0 10 (g.2 31 x1.toNatClampNeg)) (h : Inv g S D) : wp (f_X9_reckonMoved_58 S 28 x1 x2 x3 x4 x6 x8 x10 x12 x13 x14 D) (fun q => Inv g S q.2) := by
  unfold f_X9_reckonMoved_58
  exact s_X9_reckonMoved_63 hx1 (rg_w hx2 (by decide)) hx3 hx13 hx14 (rg_w rc_1 (by decide)) h30_x1 h31_x1 h
set_option maxRecDepth 100000 in
theorem s_X9_reckonMoved_62 {g : gh} {S : sh}  {x1 : Int32} {x2 : Int32} {x3 : Int32} {x4 : Int64} {x6 : Int64} {x8 : Int64} {x10 : Int64} {x12 : Int32} {x13 : Int32} {x14 : Int32} {D : dt} (hx1 : Rg 0 199 x1) (hx2 : Rg 6 15 x2) (hx3 : Rg 0 1 x3) (hx13 : Rg 0 10 x13) (hx14 : Rg 0 1 x14) (h30_x1 : Rg 0 10 (g.2 30 x1.toNatClampNeg)) (h31_x1 : Rg 0 10 (g.2 31 x1.toNatClampNeg)) (h : Inv g S D) : wp (f_X9_reckonMoved_62 S 28 x1 x2 x3 x4 x6 x8 x10 x12 x13 x14 D) (fun q => Inv g S q.2) := by
  unfold f_X9_reckonMoved_62
  exact s_X9_reckonMoved_63 hx1 hx2 hx3 hx13 hx14 (rg_w rc_0 (by decide)) h30_x1 h31_x1 h
set_option maxRecDepth 100000 in
theorem s_X9_reckonMoved_21 {g : gh} {S : sh}  {x1 : Int32} {x2 : Int32} {x3 : Int32} {x4 : Int64} {x6 : Int64} {x8 : Int64} {x10 : Int64} {x12 : Int32} {x13 : Int32} {xs0 : Int32} {D : dt} (hx1 : Rg 0 199 x1) (hx2 : Rg 6 15 x2) (hx3 : Rg 0 1 x3) (hx13 : Rg 0 10 x13) (hxs0 : Rg 0 1 xs0) (h30_x1 : Rg 0 10 (g.2 30 x1.toNatClampNeg)) (h31_x1 : Rg 0 10 (g.2 31 x1.toNatClampNeg)) (h : Inv g S D) : wp (f_X9_reckonMoved_21 S 28 x1 x2 x3 x4 x6 x8 x10 x12 x13 xs0 D) (fun q => Inv g S q.2) := by
  unfold f_X9_reckonMoved_21
  refine wp_if (fun c_1 => ?_) (fun c_1 => ?_)
  ·
    have h_2 : Rg 7 7 _ := rg_eq1 hx2 rc_7 c_1 (by decide)
    exact s_X9_reckonMoved_58 hx1 (rg_w h_2 (by decide)) hx3 hx13 hxs0 h30_x1 h31_x1 h
  ·
    refine wp_if (fun c_3 => ?_) (fun c_3 => ?_)
    ·
      have h_4 : Rg 12 12 _ := rg_eq1 hx2 rc_12 c_3 (by decide)
      refine wp_if (fun c_5 => ?_) (fun c_5 => ?_)
      ·
        have h_6 : Rg 0 0 _ := rg_eq1 hx3 rc_0 c_5 (by decide)
        refine wp_if (fun c_7 => ?_) (fun c_7 => ?_)
        ·
          have h_8 : RgL 2147483648 9223372036854775807 _ := rgl_le2 rcl_2147483648 (rgl_top _) ((lg_cmp_ge _ _).mp c_7) (by decide)
          exact s_X9_reckonMoved_62 hx1 (rg_w h_4 (by decide)) (rg_w h_6 (by decide)) hx13 hxs0 h30_x1 h31_x1 h
        ·
          have h_9 : RgL (-9223372036854775808) 2147483647 _ := rgl_lt1 (rgl_top _) rcl_2147483648 (nle64 (fun q => c_7 ((lg_cmp_ge _ _).mpr q))) (by decide)
          exact s_X9_reckonMoved_58 hx1 (rg_w h_4 (by decide)) (rg_w h_6 (by decide)) hx13 hxs0 h30_x1 h31_x1 h
      ·
        have h_10 : Rg 1 1 _ := rg_ne1 hx3 rc_0 c_5 (by decide)
        refine wp_if (fun c_11 => ?_) (fun c_11 => ?_)
        ·
          have h_12 : RgL (-9223372036854775808) (-1) _ := rgl_lt1 (rgl_top _) rcl_0 ((lg_cmp_lt _ _).mp c_11) (by decide)
          exact s_X9_reckonMoved_62 hx1 (rg_w h_4 (by decide)) (rg_w h_10 (by decide)) hx13 hxs0 h30_x1 h31_x1 h
        ·
          have h_13 : RgL 0 9223372036854775807 _ := rgl_le2 rcl_0 (rgl_top _) (nlt64 (fun q => c_11 ((lg_cmp_lt _ _).mpr q))) (by decide)
          exact s_X9_reckonMoved_58 hx1 (rg_w h_4 (by decide)) (rg_w h_10 (by decide)) hx13 hxs0 h30_x1 h31_x1 h
    ·
      exact s_X9_reckonMoved_62 hx1 hx2 hx3 hx13 hxs0 h30_x1 h31_x1 h
set_option maxRecDepth 100000 in
theorem s_X9_reckonMoved {g : gh} {S : sh}  {x1 : Int32} {x2 : Int32} {x3 : Int32} {x4 : Int64} {x6 : Int64} {x8 : Int64} {x10 : Int64} {x12 : Int32} {D : dt} (hx1 : Rg 0 199 x1) (hx2 : Rg 6 15 x2) (hx3 : Rg 0 1 x3) (h30_x1 : Rg 0 10 (g.2 30 x1.toNatClampNeg)) (h31_x1 : Rg 0 10 (g.2 31 x1.toNatClampNeg)) (h : Inv g S D) : wp (f_X9_reckonMoved S 28 x1 x2 x3 x4 x6 x8 x10 x12 D) (fun q => Inv g S q.2) := by
  unfold f_X9_reckonMoved
  refine wp_rq (iR_28_2 h) ?_
  refine wp_ix (in_rg hx1 (iA_30 h) (by decide)) ?_
  refine wp_nmI (fun y115 e_y115 => ?_)
  have h_y115 : Rg 0 10 y115 := rg_eq e_y115 (rg_eq (h.p 30 _ rfl) h30_x1)
  refine wp_if (fun c_1 => ?_) (fun c_1 => ?_)
  ·
    exact s_X9_reckonMoved_21 hx1 hx2 hx3 h_y115 (rg_w rc_1 (by decide)) h30_x1 h31_x1 h
  ·
    exact s_X9_reckonMoved_21 hx1 hx2 hx3 h_y115 (rg_w rc_0 (by decide)) h30_x1 h31_x1 h
set_option maxRecDepth 100000 in
theorem s_X9_reckonRange_802 {g : gh} {S : sh}  {x1 : Int32} {x2 : Int32} {x3 : Int32} {x5 : Int64} {x7 : Int64} {x9 : Int64} {x11 : Int64} {x20 : Int32} {D : dt} (hx1 : Rg 0 199 x1) (hx2 : Rg 6 15 x2) (hx3 : Rg 0 1 x3) (h30_x1 : Rg 0 10 (g.2 30 x1.toNatClampNeg)) (h31_x1 : Rg 0 10 (g.2 31 x1.toNatClampNeg)) (h : Inv g S D) : wp (f_X9_reckonRange_802 S 28 x1 x2 x3 x5 x7 x9 x11 x20 D) (fun q => Inv g S q.2) := by
  unfold f_X9_reckonRange_802
  refine wp_cqs (s_X9_reckonMoved hx1 hx2 hx3 h30_x1 h31_x1 h) (fun _ D148 h_D148 => ?_)
  exact ⟨_, rfl, h_D148⟩
set_option maxRecDepth 100000 in
theorem s_X9_reckonRange_733 {g : gh} {S : sh}  {xs1 : Int32} {xs2 : Int64} {xs3 : Int64} {D : dt} (hxs1 : Rg 0 10 xs1) (h : Inv g S D) : wp (f_X9_reckonRange_733 S 28 xs1 xs2 xs3 D) (fun q => Inv g S q.2) := by
  unfold f_X9_reckonRange_733
  refine wp_cqs (s_X9_number (rg_w hxs1 (by decide)) h) (fun _ D150 h_D150 => ?_)
  exact ⟨_, rfl, h_D150⟩
set_option maxRecDepth 100000 in
theorem s_X9_reckonRange_724 {g : gh} {S : sh}  {x7 : Int64} {xs1 : Int32} {xs2 : Int64} {D : dt} (hxs1 : Rg 0 10 xs1) (h : Inv g S D) : wp (f_X9_reckonRange_724 S x7 28 xs1 xs2 D) (fun q => Inv g S q.2) := by
  unfold f_X9_reckonRange_724
  exact s_X9_reckonRange_733 hxs1 h
set_option maxRecDepth 100000 in
theorem s_X9_reckonRange_714 {g : gh} {S : sh}  {x7 : Int64} {x11 : Int64} {x22 : Int32} {x23 : Int32} {xs1 : Int32} {xs2 : Int64} {D : dt} (hx22 : Rg 0 1 x22) (hx23 : Rg 0 1 x23) (hxs1 : Rg 0 10 xs1) (h : Inv g S D) : wp (f_X9_reckonRange_714 S x7 x11 x22 x23 28 xs1 xs2 D) (fun q => Inv g S q.2) := by
  unfold f_X9_reckonRange_714
  refine wp_if (fun c_1 => ?_) (fun c_1 => ?_)
  ·
    have h_2 : Rg 0 0 _ := rg_eq1 hx23 rc_0 c_1 (by decide)
    refine wp_if (fun c_3 => ?_) (fun c_3 => ?_)
    ·
      have h_4 : Rg 0 0 _ := rg_eq1 hx22 rc_0 c_3 (by decide)
      exact s_X9_reckonRange_724 hxs1 h
    ·
      have h_5 : Rg 1 1 _ := rg_ne1 hx22 rc_0 c_3 (by decide)
      exact s_X9_reckonRange_733 hxs1 h
  ·
    have h_6 : Rg 1 1 _ := rg_ne1 hx23 rc_0 c_1 (by decide)
    exact s_X9_reckonRange_724 hxs1 h
set_option maxRecDepth 100000 in
theorem s_X9_reckonRange_698 {g : gh} {S : sh}  {x4 : Int32} {x5 : Int64} {x7 : Int64} {x11 : Int64} {x22 : Int32} {xs0 : Int32} {D : dt} (hx4 : Rg 0 10 x4) (hx22 : Rg 0 1 x22) (hxs0 : Rg 0 1 xs0) (h : Inv g S D) : wp (f_X9_reckonRange_698 S 28 x4 x5 x7 x11 x22 xs0 D) (fun q => Inv g S q.2) := by
  unfold f_X9_reckonRange_698
  refine wp_if (fun c_1 => ?_) (fun c_1 => ?_)
  ·
    have h_2 : Rg 0 0 _ := rg_eq1 hxs0 rc_0 c_1 (by decide)
    exact s_X9_reckonRange_714 hx22 (rg_w h_2 (by decide)) hx4 h
  ·
    have h_3 : Rg 1 1 _ := rg_ne1 hxs0 rc_0 c_1 (by decide)
    exact s_X9_reckonRange_714 hx22 (rg_w h_3 (by decide)) hx4 h
set_option maxRecDepth 100000 in
theorem s_X9_reckonRange_697 {g : gh} {S : sh}  {x4 : Int32} {x5 : Int64} {x7 : Int64} {x11 : Int64} {x22 : Int32} {D : dt} (hx4 : Rg 0 10 x4) (hx22 : Rg 0 1 x22) (h : Inv g S D) : wp (f_X9_reckonRange_697 S 28 x4 x5 x7 x11 x22 D) (fun q => Inv g S q.2) := by
  unfold f_X9_reckonRange_697
  exact s_X9_reckonRange_698 hx4 hx22 (rg_w rc_0 (by decide)) h
set_option maxRecDepth 100000 in
theorem s_X9_reckonRange_676 {g : gh} {S : sh}  {x4 : Int32} {x5 : Int64} {x7 : Int64} {x11 : Int64} {xs0 : Int32} {D : dt} (hx4 : Rg 0 10 x4) (hxs0 : Rg 0 1 xs0) (h : Inv g S D) : wp (f_X9_reckonRange_676 S 28 x4 x5 x7 x11 xs0 D) (fun q => Inv g S q.2) := by
  unfold f_X9_reckonRange_676
  refine wp_if (fun c_1 => ?_) (fun c_1 => ?_)
  ·
    have h_2 : Rg 0 0 _ := rg_eq1 hxs0 rc_0 c_1 (by decide)
    exact s_X9_reckonRange_697 hx4 (rg_w h_2 (by decide)) h
  ·
    have h_3 : Rg 1 1 _ := rg_ne1 hxs0 rc_0 c_1 (by decide)
    refine wp_pqs (s_X9_isBelow ) (fun r156 h_r156 => ?_)
    refine wp_if (fun c_4 => ?_) (fun c_4 => ?_)
    ·
      have h_5 : Rg 0 0 _ := rg_eq1 h_r156 rc_0 c_4 (by decide)
      exact s_X9_reckonRange_697 hx4 (rg_w h_3 (by decide)) h
    ·
      have h_6 : Rg 1 1 _ := rg_ne1 h_r156 rc_0 c_4 (by decide)
      exact s_X9_reckonRange_698 hx4 (rg_w h_3 (by decide)) (rg_w rc_1 (by decide)) h
set_option maxRecDepth 100000 in
theorem s_X9_reckonRange_675 {g : gh} {S : sh}  {x4 : Int32} {x5 : Int64} {x7 : Int64} {x11 : Int64} {D : dt} (hx4 : Rg 0 10 x4) (h : Inv g S D) : wp (f_X9_reckonRange_675 S 28 x4 x5 x7 x11 D) (fun q => Inv g S q.2) := by
  unfold f_X9_reckonRange_675
  exact s_X9_reckonRange_676 hx4 (rg_w rc_0 (by decide)) h
set_option maxRecDepth 100000 in
theorem s_X9_reckonRange_644 {g : gh} {S : sh}  {xs1 : Int32} {xs2 : Int64} {xs3 : Int64} {D : dt} (hxs1 : Rg 0 10 xs1) (h : Inv g S D) : wp (f_X9_reckonRange_644 S 28 xs1 xs2 xs3 D) (fun q => Inv g S q.2) := by
  unfold f_X9_reckonRange_644
  refine wp_cqs (s_X9_number (rg_w hxs1 (by decide)) h) (fun _ D159 h_D159 => ?_)
  exact ⟨_, rfl, h_D159⟩
set_option maxRecDepth 100000 in
theorem s_X9_reckonRange_627 {g : gh} {S : sh}  {x7 : Int64} {x11 : Int64} {x22 : Int32} {xs1 : Int32} {xs2 : Int64} {D : dt} (hx22 : Rg 0 1 x22) (hxs1 : Rg 0 10 xs1) (hnz : (x22 ≠ 0 → ¬ x11 = 0)) (h : Inv g S D) : wp (f_X9_reckonRange_627 S x7 x11 x22 28 xs1 xs2 D) (fun q => Inv g S q.2) := by
  unfold f_X9_reckonRange_627
  refine wp_if (fun c_1 => ?_) (fun c_1 => ?_)
  ·
    have h_2 : Rg 0 0 _ := rg_eq1 hx22 rc_0 c_1 (by decide)
    exact s_X9_reckonRange_644 hxs1 h
  ·
    have h_3 : Rg 1 1 _ := rg_ne1 hx22 rc_0 c_1 (by decide)
    refine wp_pqs (s_X9_over (hnz c_1)) (fun r162 _ => ?_)
    exact s_X9_reckonRange_644 hxs1 h
set_option maxRecDepth 100000 in
theorem s_X9_reckonRange_606 {g : gh} {S : sh}  {x4 : Int32} {x5 : Int64} {x7 : Int64} {x11 : Int64} {xs0 : Int32} {D : dt} (hx4 : Rg 0 10 x4) (hxs0 : Rg 0 1 xs0) (hnz : (xs0 ≠ 0 → ¬ x11 = 0)) (h : Inv g S D) : wp (f_X9_reckonRange_606 S 28 x4 x5 x7 x11 xs0 D) (fun q => Inv g S q.2) := by
  unfold f_X9_reckonRange_606
  refine wp_if (fun c_1 => ?_) (fun c_1 => ?_)
  ·
    have h_2 : Rg 0 0 _ := rg_eq1 hxs0 rc_0 c_1 (by decide)
    exact s_X9_reckonRange_627 (rg_w h_2 (by decide)) hx4 (by first | exact hnz | exact (fun ne => absurd rfl ne)) h
  ·
    have h_3 : Rg 1 1 _ := rg_ne1 hxs0 rc_0 c_1 (by decide)
    refine wp_pqs (s_X9_over (hnz c_1)) (fun r165 _ => ?_)
    exact s_X9_reckonRange_627 (rg_w h_3 (by decide)) hx4 (by first | exact hnz | exact (fun ne => absurd rfl ne)) h
set_option maxRecDepth 100000 in
theorem s_X9_reckonRange_605 {g : gh} {S : sh}  {x4 : Int32} {x5 : Int64} {x7 : Int64} {x11 : Int64} {D : dt} (hx4 : Rg 0 10 x4) (h : Inv g S D) : wp (f_X9_reckonRange_605 S 28 x4 x5 x7 x11 D) (fun q => Inv g S q.2) := by
  unfold f_X9_reckonRange_605
  exact s_X9_reckonRange_606 hx4 (rg_w rc_0 (by decide)) (by first | exact hnz | exact (fun ne => absurd rfl ne)) h
set_option maxRecDepth 100000 in
theorem s_X9_reckonRange_390 {g : gh} {S : sh}  {x1 : Int32} {x2 : Int32} {x3 : Int32} {x4 : Int32} {x5 : Int64} {x7 : Int64} {x9 : Int64} {x11 : Int64} {x18 : Int64} {x20 : Int32} {xs0 : Int32} {D : dt} (hx1 : Rg 0 199 x1) (hx2 : Rg 0 15 x2) (hx3 : Rg 0 1 x3) (hx4 : Rg 0 10 x4) (hx18 : RgL (-1) 4294967295 x18) (hxs0 : Rg 0 1 xs0) (h30_x1 : Rg 0 10 (g.2 30 x1.toNatClampNeg)) (h31_x1 : Rg 0 10 (g.2 31 x1.toNatClampNeg)) (h : Inv g S D) : wp (f_X9_reckonRange_390 S 28 x1 x2 x3 x4 x5 x7 x9 x11 x18 x20 xs0 D) (fun q => Inv g S q.2) := by
  unfold f_X9_reckonRange_390
  refine wp_if (fun c_1 => ?_) (fun c_1 => ?_)
  ·
    have h_2 : Rg 0 0 _ := rg_eq1 hx2 rc_0 c_1 (by decide)
    refine wp_pqs (s_X9_isBelow ) (fun r168 h_r168 => ?_)
    refine wp_if (fun c_3 => ?_) (fun c_3 => ?_)
    ·
      have h_4 : Rg 0 0 _ := rg_eq1 h_r168 rc_0 c_3 (by decide)
      refine wp_pqs (s_X9_isBelow ) (fun r171 h_r171 => ?_)
      refine wp_if (fun c_5 => ?_) (fun c_5 => ?_)
      ·
        have h_6 : Rg 0 0 _ := rg_eq1 h_r171 rc_0 c_5 (by decide)
        refine wp_cqs (s_X9_number (rg_w hx4 (by decide)) h) (fun _ D174 h_D174 => ?_)
        exact ⟨_, rfl, h_D174⟩
      ·
        have h_7 : Rg 1 1 _ := rg_ne1 h_r171 rc_0 c_5 (by decide)
        exact ⟨_, rfl, h⟩
    ·
      have h_8 : Rg 1 1 _ := rg_ne1 h_r168 rc_0 c_3 (by decide)
      exact ⟨_, rfl, h⟩
  ·
    have h_9 : Rg 1 15 _ := rg_ne1 hx2 rc_0 c_1 (by decide)
    refine wp_if (fun c_10 => ?_) (fun c_10 => ?_)
    ·
      have h_11 : Rg 1 1 _ := rg_eq1 h_9 rc_1 c_10 (by decide)
      refine wp_pqs (s_X9_isBelow ) (fun r177 h_r177 => ?_)
      refine wp_if (fun c_12 => ?_) (fun c_12 => ?_)
      ·
        have h_13 : Rg 0 0 _ := rg_eq1 h_r177 rc_0 c_12 (by decide)
        refine wp_cqs (s_X9_number (rg_w hx4 (by decide)) h) (fun _ D180 h_D180 => ?_)
        exact ⟨_, rfl, h_D180⟩
      ·
        have h_14 : Rg 1 1 _ := rg_ne1 h_r177 rc_0 c_12 (by decide)
        exact ⟨_, rfl, h⟩
    ·
      have h_15 : Rg 2 15 _ := rg_ne1 h_9 rc_1 c_10 (by decide)
      refine wp_if (fun c_16 => ?_) (fun c_16 => ?_)
      ·
        have h_17 : Rg 2 2 _ := rg_eq1 h_15 rc_2 c_16 (by decide)
        refine wp_pqs (s_X9_isBelow ) (fun r183 h_r183 => ?_)
        refine wp_if (fun c_18 => ?_) (fun c_18 => ?_)
        ·
          have h_19 : Rg 0 0 _ := rg_eq1 h_r183 rc_0 c_18 (by decide)
          refine wp_pqs (s_X9_isBelow ) (fun r186 h_r186 => ?_)
          refine wp_if (fun c_20 => ?_) (fun c_20 => ?_)
          ·
            have h_21 : Rg 0 0 _ := rg_eq1 h_r186 rc_0 c_20 (by decide)
            refine wp_pqs (s_X9_isBelow ) (fun r189 h_r189 => ?_)
            refine wp_if (fun c_22 => ?_) (fun c_22 => ?_)
            ·
              have h_23 : Rg 0 0 _ := rg_eq1 h_r189 rc_0 c_22 (by decide)
              refine wp_cqs (s_X9_number (rg_w hx4 (by decide)) h) (fun _ D192 h_D192 => ?_)
              exact ⟨_, rfl, h_D192⟩
            ·
              have h_24 : Rg 1 1 _ := rg_ne1 h_r189 rc_0 c_22 (by decide)
              exact ⟨_, rfl, h⟩
          ·
            have h_25 : Rg 1 1 _ := rg_ne1 h_r186 rc_0 c_20 (by decide)
            exact ⟨_, rfl, h⟩
        ·
          have h_26 : Rg 1 1 _ := rg_ne1 h_r183 rc_0 c_18 (by decide)
          exact ⟨_, rfl, h⟩
      ·
        have h_27 : Rg 3 15 _ := rg_ne1 h_15 rc_2 c_16 (by decide)
        refine wp_if (fun c_28 => ?_) (fun c_28 => ?_)
        ·
          have h_29 : Rg 3 3 _ := rg_eq1 h_27 rc_3 c_28 (by decide)
          refine wp_rq (iR_28_4 h) ?_
          refine wp_ix (in_rg hx1 (iA_32 h) (by decide)) ?_
          refine wp_if (fun c_30 => ?_) (fun c_30 => ?_)
          ·
            have h_31 : Rg 0 0 _ := rg_eq1 (iI_32 h _) rc_0 c_30 (by decide)
            refine wp_if (fun c_32 => ?_) (fun c_32 => ?_)
            ·
              have h_33 : Rg 0 0 _ := rg_eq1 hxs0 rc_0 c_32 (by decide)
              exact s_X9_reckonRange_605 hx4 h
            ·
              have h_34 : Rg 1 1 _ := rg_ne1 hxs0 rc_0 c_32 (by decide)
              refine wp_if (fun c_35 => ?_) (fun c_35 => ?_)
              ·
                have h_36 : RgL 0 0 _ := rgl_eq1 (rgl_top _) rcl_0 ((lg_cmp_eq _ _).mp c_35) (by decide)
                exact s_X9_reckonRange_605 hx4 h
              ·
                exact s_X9_reckonRange_606 hx4 (rg_w rc_1 (by decide)) (fun _ e => c_35 ((lg_cmp_eq _ _).mpr e)) h
          ·
            exact ⟨_, rfl, h⟩
        ·
          have h_37 : Rg 4 15 _ := rg_ne1 h_27 rc_3 c_28 (by decide)
          refine wp_if (fun c_38 => ?_) (fun c_38 => ?_)
          ·
            have h_39 : Rg 4 4 _ := rg_eq1 h_37 rc_4 c_38 (by decide)
            refine wp_pqs (s_X9_greater ) (fun r204 _ => ?_)
            refine wp_pqs (s_X9_greater ) (fun r206 _ => ?_)
            refine wp_pqs (s_X9_mask ) (fun r208 _ => ?_)
            refine wp_cqs (s_X9_number (rg_w hx4 (by decide)) h) (fun _ D210 h_D210 => ?_)
            exact ⟨_, rfl, h_D210⟩
          ·
            have h_40 : Rg 5 15 _ := rg_ne1 h_37 rc_4 c_38 (by decide)
            refine wp_if (fun c_41 => ?_) (fun c_41 => ?_)
            ·
              have h_42 : Rg 5 5 _ := rg_eq1 h_40 rc_5 c_41 (by decide)
              refine wp_pqs (s_X9_lesser ) (fun r213 _ => ?_)
              refine wp_cqs (s_X9_number (rg_w hx4 (by decide)) h) (fun _ D215 h_D215 => ?_)
              exact ⟨_, rfl, h_D215⟩
            ·
              have h_43 : Rg 6 15 _ := rg_ne1 h_40 rc_5 c_41 (by decide)
              refine wp_if (fun c_44 => ?_) (fun c_44 => ?_)
              ·
                have h_45 : Rg 6 6 _ := rg_eq1 h_43 rc_6 c_44 (by decide)
                exact s_X9_reckonRange_802 hx1 (rg_w h_45 (by decide)) hx3 h30_x1 h31_x1 h
              ·
                have h_46 : Rg 7 15 _ := rg_ne1 h_43 rc_6 c_44 (by decide)
                refine wp_if (fun c_47 => ?_) (fun c_47 => ?_)
                ·
                  have h_48 : Rg 7 7 _ := rg_eq1 h_46 rc_7 c_47 (by decide)
                  exact s_X9_reckonRange_802 hx1 (rg_w h_48 (by decide)) hx3 h30_x1 h31_x1 h
                ·
                  have h_49 : Rg 8 15 _ := rg_ne1 h_46 rc_7 c_47 (by decide)
                  refine wp_if (fun c_50 => ?_) (fun c_50 => ?_)
                  ·
                    have h_51 : Rg 8 8 _ := rg_eq1 h_49 rc_8 c_50 (by decide)
                    exact s_X9_reckonRange_802 hx1 (rg_w h_51 (by decide)) hx3 h30_x1 h31_x1 h
                  ·
                    have h_52 : Rg 9 15 _ := rg_ne1 h_49 rc_8 c_50 (by decide)
                    refine wp_if (fun c_53 => ?_) (fun c_53 => ?_)
                    ·
                      have h_54 : Rg 9 9 _ := rg_eq1 h_52 rc_9 c_53 (by decide)
                      refine wp_rq (iR_28_4 h) ?_
                      refine wp_ix (in_rg hx1 (iA_32 h) (by decide)) ?_
                      refine wp_if (fun c_55 => ?_) (fun c_55 => ?_)
                      ·
                        have h_56 : Rg 0 0 _ := rg_eq1 (iI_32 h _) rc_0 c_55 (by decide)
                        refine wp_if (fun c_57 => ?_) (fun c_57 => ?_)
                        ·
                          have h_58 : Rg 0 0 _ := rg_eq1 hxs0 rc_0 c_57 (by decide)
                          exact s_X9_reckonRange_675 hx4 h
                        ·
                          have h_59 : Rg 1 1 _ := rg_ne1 hxs0 rc_0 c_57 (by decide)
                          refine wp_if (fun c_60 => ?_) (fun c_60 => ?_)
                          ·
                            have h_61 : RgL 0 0 _ := rgl_eq1 (rgl_top _) rcl_0 ((lg_cmp_eq _ _).mp c_60) (by decide)
                            exact s_X9_reckonRange_675 hx4 h
                          ·
                            exact s_X9_reckonRange_676 hx4 (rg_w rc_1 (by decide)) h
                      ·
                        exact ⟨_, rfl, h⟩
                    ·
                      have h_62 : Rg 10 15 _ := rg_ne1 h_52 rc_9 c_53 (by decide)
                      refine wp_if (fun c_63 => ?_) (fun c_63 => ?_)
                      ·
                        have h_64 : Rg 10 10 _ := rg_eq1 h_62 rc_10 c_63 (by decide)
                        refine wp_pqs (s_X9_greater ) (fun r230 _ => ?_)
                        refine wp_pqs (s_X9_mask ) (fun r232 _ => ?_)
                        refine wp_cqs (s_X9_number (rg_w hx4 (by decide)) h) (fun _ D234 h_D234 => ?_)
                        exact ⟨_, rfl, h_D234⟩
                      ·
                        have h_65 : Rg 11 15 _ := rg_ne1 h_62 rc_10 c_63 (by decide)
                        exact s_X9_reckonRange_802 hx1 (rg_w h_65 (by decide)) hx3 h30_x1 h31_x1 h
set_option maxRecDepth 100000 in
theorem s_X9_reckonRange_374 {g : gh} {S : sh}  {x1 : Int32} {x2 : Int32} {x3 : Int32} {x4 : Int32} {x5 : Int64} {x7 : Int64} {x9 : Int64} {x11 : Int64} {x18 : Int64} {xs0 : Int32} {xs1 : Int32} {D : dt} (hx1 : Rg 0 199 x1) (hx2 : Rg 0 15 x2) (hx3 : Rg 0 1 x3) (hx4 : Rg 0 10 x4) (hx18 : RgL (-1) 4294967295 x18) (hxs1 : Rg 31 63 xs1) (h30_x1 : Rg 0 10 (g.2 30 x1.toNatClampNeg)) (h31_x1 : Rg 0 10 (g.2 31 x1.toNatClampNeg)) (h : Inv g S D) : wp (f_X9_reckonRange_374 S 28 x1 x2 x3 x4 x5 x7 x9 x11 x18 xs0 xs1 D) (fun q => Inv g S q.2) := by
  unfold f_X9_reckonRange_374
  refine wp_nmI (fun y235 e_y235 => ?_)
  refine wp_if (fun c_1 => ?_) (fun c_1 => ?_)
  ·
    exact s_X9_reckonRange_390 hx1 hx2 hx3 hx4 hx18 (rg_w rc_1 (by decide)) h30_x1 h31_x1 h
  ·
    exact s_X9_reckonRange_390 hx1 hx2 hx3 hx4 hx18 (rg_w rc_0 (by decide)) h30_x1 h31_x1 h
set_option maxRecDepth 100000 in
theorem s_X9_reckonRange_349 {g : gh} {S : sh}  {x1 : Int32} {x2 : Int32} {x3 : Int32} {x4 : Int32} {x5 : Int64} {x7 : Int64} {x9 : Int64} {x11 : Int64} {xs0 : Int64} {D : dt} (hx1 : Rg 0 199 x1) (hx2 : Rg 0 15 x2) (hx3 : Rg 0 1 x3) (hx4 : Rg 0 10 x4) (hxs0 : RgL (-1) 4294967295 xs0) (h30_x1 : Rg 0 10 (g.2 30 x1.toNatClampNeg)) (h31_x1 : Rg 0 10 (g.2 31 x1.toNatClampNeg)) (h : Inv g S D) : wp (f_X9_reckonRange_349 S 28 x1 x2 x3 x4 x5 x7 x9 x11 xs0 D) (fun q => Inv g S q.2) := by
  unfold f_X9_reckonRange_349
  refine wp_cqs (s_X9_number (rg_w hx4 (by decide)) h) (fun _ D238 h_D238 => ?_)
  refine wp_if (fun c_1 => ?_) (fun c_1 => ?_)
  ·
    have h_2 : Rg 0 0 _ := rg_eq1 hx3 rc_0 c_1 (by decide)
    exact s_X9_reckonRange_374 hx1 hx2 (rg_w h_2 (by decide)) hx4 hxs0 (rg_w rc_31 (by decide)) h30_x1 h31_x1 h_D238
  ·
    have h_3 : Rg 1 1 _ := rg_ne1 hx3 rc_0 c_1 (by decide)
    exact s_X9_reckonRange_374 hx1 hx2 (rg_w h_3 (by decide)) hx4 hxs0 (rg_w rc_63 (by decide)) h30_x1 h31_x1 h_D238
set_option maxRecDepth 100000 in
theorem s_X9_reckonRange_307 {g : gh} {S : sh}  {x1 : Int32} {x2 : Int32} {x3 : Int32} {x4 : Int32} {x5 : Int64} {x7 : Int64} {x9 : Int64} {x11 : Int64} {xs0 : Int32} {D : dt} (hx1 : Rg 0 199 x1) (hx2 : Rg 0 15 x2) (hx3 : Rg 0 1 x3) (hx4 : Rg 0 10 x4) (hxs0 : Rg 0 1 xs0) (h30_x1 : Rg 0 10 (g.2 30 x1.toNatClampNeg)) (h31_x1 : Rg 0 10 (g.2 31 x1.toNatClampNeg)) (h13 : (g.2 29 x1.toNatClampNeg >>> ((4 : Int32) &&& 31) = 13 → Rg 0 64 (g.2 33 x1.toNatClampNeg))) (h : Inv g S D) : wp (f_X9_reckonRange_307 S 28 x1 x2 x3 x4 x5 x7 x9 x11 xs0 D) (fun q => Inv g S q.2) := by
  unfold f_X9_reckonRange_307
  refine wp_if (fun c_1 => ?_) (fun c_1 => ?_)
  ·
    have h_2 : Rg 0 0 _ := rg_eq1 hxs0 rc_0 c_1 (by decide)
    refine wp_if (fun c_3 => ?_) (fun c_3 => ?_)
    ·
      have h_4 : Rg 0 0 _ := rg_eq1 hx3 rc_0 c_3 (by decide)
      exact s_X9_reckonRange_349 hx1 hx2 (rg_w h_4 (by decide)) hx4 (rgl_w rcl_4294967295 (by decide)) h30_x1 h31_x1 h
    ·
      have h_5 : Rg 1 1 _ := rg_ne1 hx3 rc_0 c_3 (by decide)
      exact s_X9_reckonRange_349 hx1 hx2 (rg_w h_5 (by decide)) hx4 (rgl_w rcl_m1 (by decide)) h30_x1 h31_x1 h
  ·
    have h_6 : Rg 1 1 _ := rg_ne1 hxs0 rc_0 c_1 (by decide)
    refine wp_pqs (s_X9_reckon hx1 h30_x1 h31_x1 (by first | exact h13 | exact (fun ne => absurd rfl ne)) h) (fun r243 _ => ?_)
    refine wp_cqs (s_X9_number (rg_w hx4 (by decide)) h) (fun _ D245 h_D245 => ?_)
    exact ⟨_, rfl, h_D245⟩
set_option maxRecDepth 100000 in
theorem s_X9_reckonRange_306 {g : gh} {S : sh}  {x1 : Int32} {x2 : Int32} {x3 : Int32} {x4 : Int32} {x5 : Int64} {x7 : Int64} {x9 : Int64} {x11 : Int64} {D : dt} (hx1 : Rg 0 199 x1) (hx2 : Rg 0 15 x2) (hx3 : Rg 0 1 x3) (hx4 : Rg 0 10 x4) (h30_x1 : Rg 0 10 (g.2 30 x1.toNatClampNeg)) (h31_x1 : Rg 0 10 (g.2 31 x1.toNatClampNeg)) (h13 : (g.2 29 x1.toNatClampNeg >>> ((4 : Int32) &&& 31) = 13 → Rg 0 64 (g.2 33 x1.toNatClampNeg))) (h : Inv g S D) : wp (f_X9_reckonRange_306 S 28 x1 x2 x3 x4 x5 x7 x9 x11 D) (fun q => Inv g S q.2) := by
  unfold f_X9_reckonRange_306
  exact s_X9_reckonRange_307 hx1 hx2 hx3 hx4 (rg_w rc_0 (by decide)) h30_x1 h31_x1 (by first | exact h13 | exact (fun ne => absurd rfl ne)) h
set_option maxRecDepth 100000 in
theorem s_X9_reckonRange_270 {g : gh} {S : sh}  {x1 : Int32} {x2 : Int32} {x3 : Int32} {x4 : Int32} {x5 : Int64} {x7 : Int64} {x9 : Int64} {x11 : Int64} {D : dt} (hx1 : Rg 0 199 x1) (hx2 : Rg 8 13 x2) (hx3 : Rg 0 1 x3) (hx4 : Rg 0 10 x4) (h30_x1 : Rg 0 10 (g.2 30 x1.toNatClampNeg)) (h31_x1 : Rg 0 10 (g.2 31 x1.toNatClampNeg)) (h13 : (g.2 29 x1.toNatClampNeg >>> ((4 : Int32) &&& 31) = 13 → Rg 0 64 (g.2 33 x1.toNatClampNeg))) (h : Inv g S D) : wp (f_X9_reckonRange_270 S 28 x1 x2 x3 x4 x5 x7 x9 x11 D) (fun q => Inv g S q.2) := by
  unfold f_X9_reckonRange_270
  refine wp_if (fun c_1 => ?_) (fun c_1 => ?_)
  ·
    exact s_X9_reckonRange_307 hx1 (rg_w hx2 (by decide)) hx3 hx4 (rg_w rc_1 (by decide)) h30_x1 h31_x1 (by first | exact h13 | exact (fun ne => absurd rfl ne)) h
  ·
    exact s_X9_reckonRange_307 hx1 (rg_w hx2 (by decide)) hx3 hx4 (rg_w rc_0 (by decide)) h30_x1 h31_x1 (by first | exact h13 | exact (fun ne => absurd rfl ne)) h
set_option maxRecDepth 100000 in
theorem s_X9_reckonRange_234 {g : gh} {S : sh}  {x1 : Int32} {x2 : Int32} {x3 : Int32} {x4 : Int32} {x5 : Int64} {x7 : Int64} {x9 : Int64} {xs0 : Int64} {D : dt} (hx1 : Rg 0 199 x1) (hx2 : Rg 0 15 x2) (hx3 : Rg 0 1 x3) (hx4 : Rg 0 10 x4) (h30_x1 : Rg 0 10 (g.2 30 x1.toNatClampNeg)) (h31_x1 : Rg 0 10 (g.2 31 x1.toNatClampNeg)) (h13 : (g.2 29 x1.toNatClampNeg >>> ((4 : Int32) &&& 31) = 13 → Rg 0 64 (g.2 33 x1.toNatClampNeg))) (h : Inv g S D) : wp (f_X9_reckonRange_234 S 28 x1 x2 x3 x4 x5 x7 x9 xs0 D) (fun q => Inv g S q.2) := by
  unfold f_X9_reckonRange_234
  refine wp_if (fun c_1 => ?_) (fun c_1 => ?_)
  ·
    have h_2 : Rg 11 11 _ := rg_eq1 hx2 rc_11 c_1 (by decide)
    refine wp_if (fun c_3 => ?_) (fun c_3 => ?_)
    ·
      exact s_X9_reckonRange_307 hx1 (rg_w h_2 (by decide)) hx3 hx4 (rg_w rc_1 (by decide)) h30_x1 h31_x1 (by first | exact h13 | exact (fun ne => absurd rfl ne)) h
    ·
      exact s_X9_reckonRange_307 hx1 (rg_w h_2 (by decide)) hx3 hx4 (rg_w rc_0 (by decide)) h30_x1 h31_x1 (by first | exact h13 | exact (fun ne => absurd rfl ne)) h
  ·
    refine wp_if (fun c_4 => ?_) (fun c_4 => ?_)
    ·
      have h_5 : Rg 8 8 _ := rg_eq1 hx2 rc_8 c_4 (by decide)
      exact s_X9_reckonRange_270 hx1 (rg_w h_5 (by decide)) hx3 hx4 h30_x1 h31_x1 (by first | exact h13 | exact (fun ne => absurd rfl ne)) h
    ·
      refine wp_if (fun c_6 => ?_) (fun c_6 => ?_)
      ·
        have h_7 : Rg 13 13 _ := rg_eq1 hx2 rc_13 c_6 (by decide)
        exact s_X9_reckonRange_270 hx1 (rg_w h_7 (by decide)) hx3 hx4 h30_x1 h31_x1 (by first | exact h13 | exact (fun ne => absurd rfl ne)) h
      ·
        refine wp_if (fun c_8 => ?_) (fun c_8 => ?_)
        ·
          refine wp_if (fun c_9 => ?_) (fun c_9 => ?_)
          ·
            exact s_X9_reckonRange_307 hx1 hx2 hx3 hx4 (rg_w rc_1 (by decide)) h30_x1 h31_x1 (by first | exact h13 | exact (fun ne => absurd rfl ne)) h
          ·
            exact s_X9_reckonRange_306 hx1 hx2 hx3 hx4 h30_x1 h31_x1 (by first | exact h13 | exact (fun ne => absurd rfl ne)) h
        ·
          exact s_X9_reckonRange_306 hx1 hx2 hx3 hx4 h30_x1 h31_x1 (by first | exact h13 | exact (fun ne => absurd rfl ne)) h
set_option maxRecDepth 100000 in
theorem s_X9_reckonRange_205 {g : gh} {S : sh}  {x1 : Int32} {x2 : Int32} {x3 : Int32} {x4 : Int32} {x5 : Int64} {x7 : Int64} {x11 : Int64} {x14 : Int32} {x16 : Int32} {xs0 : Int64} {D : dt} (hx1 : Rg 0 199 x1) (hx2 : Rg 0 15 x2) (hx3 : Rg 0 1 x3) (hx4 : Rg 0 10 x4) (hx14 : Rg 0 1 x14) (hx16 : Rg 0 1 x16) (h30_x1 : Rg 0 10 (g.2 30 x1.toNatClampNeg)) (h31_x1 : Rg 0 10 (g.2 31 x1.toNatClampNeg)) (h13 : (g.2 29 x1.toNatClampNeg >>> ((4 : Int32) &&& 31) = 13 → Rg 0 64 (g.2 33 x1.toNatClampNeg))) (h : Inv g S D) : wp (f_X9_reckonRange_205 S 28 x1 x2 x3 x4 x5 x7 x11 x14 x16 xs0 D) (fun q => Inv g S q.2) := by
  unfold f_X9_reckonRange_205
  refine wp_if (fun c_1 => ?_) (fun c_1 => ?_)
  ·
    have h_2 : Rg 0 0 _ := rg_eq1 hx14 rc_0 c_1 (by decide)
    exact s_X9_reckonRange_234 hx1 hx2 hx3 hx4 h30_x1 h31_x1 (by first | exact h13 | exact (fun ne => absurd rfl ne)) h
  ·
    have h_3 : Rg 1 1 _ := rg_ne1 hx14 rc_0 c_1 (by decide)
    refine wp_if (fun c_4 => ?_) (fun c_4 => ?_)
    ·
      have h_5 : Rg 0 0 _ := rg_eq1 hx16 rc_0 c_4 (by decide)
      exact s_X9_reckonRange_234 hx1 hx2 hx3 hx4 h30_x1 h31_x1 (by first | exact h13 | exact (fun ne => absurd rfl ne)) h
    ·
      have h_6 : Rg 1 1 _ := rg_ne1 hx16 rc_0 c_4 (by decide)
      exact s_X9_reckonRange_234 hx1 hx2 hx3 hx4 h30_x1 h31_x1 (by first | exact h13 | exact (fun ne => absurd rfl ne)) h
set_option maxRecDepth 100000 in
theorem s_X9_reckonRange_178 {g : gh} {S : sh}  {x1 : Int32} {x2 : Int32} {x3 : Int32} {x4 : Int32} {x5 : Int64} {x9 : Int64} {x11 : Int64} {x14 : Int32} {x16 : Int32} {xs0 : Int64} {D : dt} (hx1 : Rg 0 199 x1) (hx2 : Rg 0 15 x2) (hx3 : Rg 0 1 x3) (hx4 : Rg 0 10 x4) (hx14 : Rg 0 1 x14) (hx16 : Rg 0 1 x16) (h30_x1 : Rg 0 10 (g.2 30 x1.toNatClampNeg)) (h31_x1 : Rg 0 10 (g.2 31 x1.toNatClampNeg)) (h13 : (g.2 29 x1.toNatClampNeg >>> ((4 : Int32) &&& 31) = 13 → Rg 0 64 (g.2 33 x1.toNatClampNeg))) (h : Inv g S D) : wp (f_X9_reckonRange_178 S 28 x1 x2 x3 x4 x5 x9 x11 x14 x16 xs0 D) (fun q => Inv g S q.2) := by
  unfold f_X9_reckonRange_178
  refine wp_if (fun c_1 => ?_) (fun c_1 => ?_)
  ·
    have h_2 : Rg 0 0 _ := rg_eq1 hx14 rc_0 c_1 (by decide)
    exact s_X9_reckonRange_205 hx1 hx2 hx3 hx4 (rg_w h_2 (by decide)) hx16 h30_x1 h31_x1 (by first | exact h13 | exact (fun ne => absurd rfl ne)) h
  ·
    have h_3 : Rg 1 1 _ := rg_ne1 hx14 rc_0 c_1 (by decide)
    refine wp_if (fun c_4 => ?_) (fun c_4 => ?_)
    ·
      have h_5 : Rg 0 0 _ := rg_eq1 hx16 rc_0 c_4 (by decide)
      exact s_X9_reckonRange_205 hx1 hx2 hx3 hx4 (rg_w h_3 (by decide)) (rg_w h_5 (by decide)) h30_x1 h31_x1 (by first | exact h13 | exact (fun ne => absurd rfl ne)) h
    ·
      have h_6 : Rg 1 1 _ := rg_ne1 hx16 rc_0 c_4 (by decide)
      exact s_X9_reckonRange_205 hx1 hx2 hx3 hx4 (rg_w h_3 (by decide)) (rg_w h_6 (by decide)) h30_x1 h31_x1 (by first | exact h13 | exact (fun ne => absurd rfl ne)) h
set_option maxRecDepth 100000 in
theorem s_X9_reckonRange_149 {g : gh} {S : sh}  {x1 : Int32} {x2 : Int32} {x3 : Int32} {x4 : Int32} {x7 : Int64} {x9 : Int64} {x11 : Int64} {x13 : Int32} {x14 : Int32} {x15 : Int32} {x16 : Int32} {xs0 : Int64} {D : dt} (hx1 : Rg 0 199 x1) (hx2 : Rg 0 15 x2) (hx3 : Rg 0 1 x3) (hx4 : Rg 0 10 x4) (hx13 : Rg 0 1 x13) (hx14 : Rg 0 1 x14) (hx15 : Rg 0 1 x15) (hx16 : Rg 0 1 x16) (h30_x1 : Rg 0 10 (g.2 30 x1.toNatClampNeg)) (h31_x1 : Rg 0 10 (g.2 31 x1.toNatClampNeg)) (h13 : (g.2 29 x1.toNatClampNeg >>> ((4 : Int32) &&& 31) = 13 → Rg 0 64 (g.2 33 x1.toNatClampNeg))) (h : Inv g S D) : wp (f_X9_reckonRange_149 S 28 x1 x2 x3 x4 x7 x9 x11 x13 x14 x15 x16 xs0 D) (fun q => Inv g S q.2) := by
  unfold f_X9_reckonRange_149
  refine wp_if (fun c_1 => ?_) (fun c_1 => ?_)
  ·
    have h_2 : Rg 0 0 _ := rg_eq1 hx13 rc_0 c_1 (by decide)
    exact s_X9_reckonRange_178 hx1 hx2 hx3 hx4 hx14 hx16 h30_x1 h31_x1 (by first | exact h13 | exact (fun ne => absurd rfl ne)) h
  ·
    have h_3 : Rg 1 1 _ := rg_ne1 hx13 rc_0 c_1 (by decide)
    refine wp_if (fun c_4 => ?_) (fun c_4 => ?_)
    ·
      have h_5 : Rg 0 0 _ := rg_eq1 hx15 rc_0 c_4 (by decide)
      exact s_X9_reckonRange_178 hx1 hx2 hx3 hx4 hx14 hx16 h30_x1 h31_x1 (by first | exact h13 | exact (fun ne => absurd rfl ne)) h
    ·
      have h_6 : Rg 1 1 _ := rg_ne1 hx15 rc_0 c_4 (by decide)
      exact s_X9_reckonRange_178 hx1 hx2 hx3 hx4 hx14 hx16 h30_x1 h31_x1 (by first | exact h13 | exact (fun ne => absurd rfl ne)) h
set_option maxRecDepth 100000 in
theorem s_X9_reckonRange_122 {g : gh} {S : sh}  {x1 : Int32} {x2 : Int32} {x3 : Int32} {x4 : Int32} {x5 : Int64} {x7 : Int64} {x9 : Int64} {x11 : Int64} {x13 : Int32} {x14 : Int32} {x15 : Int32} {xs0 : Int32} {D : dt} (hx1 : Rg 0 199 x1) (hx2 : Rg 0 15 x2) (hx3 : Rg 0 1 x3) (hx4 : Rg 0 10 x4) (hx13 : Rg 0 1 x13) (hx14 : Rg 0 1 x14) (hx15 : Rg 0 1 x15) (hxs0 : Rg 0 1 xs0) (h30_x1 : Rg 0 10 (g.2 30 x1.toNatClampNeg)) (h31_x1 : Rg 0 10 (g.2 31 x1.toNatClampNeg)) (h13 : (g.2 29 x1.toNatClampNeg >>> ((4 : Int32) &&& 31) = 13 → Rg 0 64 (g.2 33 x1.toNatClampNeg))) (h : Inv g S D) : wp (f_X9_reckonRange_122 S 28 x1 x2 x3 x4 x5 x7 x9 x11 x13 x14 x15 xs0 D) (fun q => Inv g S q.2) := by
  unfold f_X9_reckonRange_122
  refine wp_if (fun c_1 => ?_) (fun c_1 => ?_)
  ·
    have h_2 : Rg 0 0 _ := rg_eq1 hx13 rc_0 c_1 (by decide)
    exact s_X9_reckonRange_149 hx1 hx2 hx3 hx4 (rg_w h_2 (by decide)) hx14 hx15 hxs0 h30_x1 h31_x1 (by first | exact h13 | exact (fun ne => absurd rfl ne)) h
  ·
    have h_3 : Rg 1 1 _ := rg_ne1 hx13 rc_0 c_1 (by decide)
    refine wp_if (fun c_4 => ?_) (fun c_4 => ?_)
    ·
      have h_5 : Rg 0 0 _ := rg_eq1 hx15 rc_0 c_4 (by decide)
      exact s_X9_reckonRange_149 hx1 hx2 hx3 hx4 (rg_w h_3 (by decide)) hx14 (rg_w h_5 (by decide)) hxs0 h30_x1 h31_x1 (by first | exact h13 | exact (fun ne => absurd rfl ne)) h
    ·
      have h_6 : Rg 1 1 _ := rg_ne1 hx15 rc_0 c_4 (by decide)
      exact s_X9_reckonRange_149 hx1 hx2 hx3 hx4 (rg_w h_3 (by decide)) hx14 (rg_w h_6 (by decide)) hxs0 h30_x1 h31_x1 (by first | exact h13 | exact (fun ne => absurd rfl ne)) h
set_option maxRecDepth 100000 in
theorem s_X9_reckonRange_107 {g : gh} {S : sh}  {x1 : Int32} {x2 : Int32} {x3 : Int32} {x4 : Int32} {x5 : Int64} {x7 : Int64} {x9 : Int64} {x11 : Int64} {x13 : Int32} {x14 : Int32} {xs0 : Int32} {D : dt} (hx1 : Rg 0 199 x1) (hx2 : Rg 0 15 x2) (hx3 : Rg 0 1 x3) (hx4 : Rg 0 10 x4) (hx13 : Rg 0 1 x13) (hx14 : Rg 0 1 x14) (hxs0 : Rg 0 1 xs0) (h30_x1 : Rg 0 10 (g.2 30 x1.toNatClampNeg)) (h31_x1 : Rg 0 10 (g.2 31 x1.toNatClampNeg)) (h13 : (g.2 29 x1.toNatClampNeg >>> ((4 : Int32) &&& 31) = 13 → Rg 0 64 (g.2 33 x1.toNatClampNeg))) (h : Inv g S D) : wp (f_X9_reckonRange_107 S 28 x1 x2 x3 x4 x5 x7 x9 x11 x13 x14 xs0 D) (fun q => Inv g S q.2) := by
  unfold f_X9_reckonRange_107
  refine wp_if (fun c_1 => ?_) (fun c_1 => ?_)
  ·
    exact s_X9_reckonRange_122 hx1 hx2 hx3 hx4 hx13 hx14 hxs0 (rg_w rc_1 (by decide)) h30_x1 h31_x1 (by first | exact h13 | exact (fun ne => absurd rfl ne)) h
  ·
    exact s_X9_reckonRange_122 hx1 hx2 hx3 hx4 hx13 hx14 hxs0 (rg_w rc_0 (by decide)) h30_x1 h31_x1 (by first | exact h13 | exact (fun ne => absurd rfl ne)) h
set_option maxRecDepth 100000 in
theorem s_X9_reckonRange_92 {g : gh} {S : sh}  {x1 : Int32} {x2 : Int32} {x3 : Int32} {x4 : Int32} {x5 : Int64} {x7 : Int64} {x9 : Int64} {x11 : Int64} {x13 : Int32} {xs0 : Int32} {D : dt} (hx1 : Rg 0 199 x1) (hx2 : Rg 0 15 x2) (hx3 : Rg 0 1 x3) (hx4 : Rg 0 10 x4) (hx13 : Rg 0 1 x13) (hxs0 : Rg 0 1 xs0) (h30_x1 : Rg 0 10 (g.2 30 x1.toNatClampNeg)) (h31_x1 : Rg 0 10 (g.2 31 x1.toNatClampNeg)) (h13 : (g.2 29 x1.toNatClampNeg >>> ((4 : Int32) &&& 31) = 13 → Rg 0 64 (g.2 33 x1.toNatClampNeg))) (h : Inv g S D) : wp (f_X9_reckonRange_92 S 28 x1 x2 x3 x4 x5 x7 x9 x11 x13 xs0 D) (fun q => Inv g S q.2) := by
  unfold f_X9_reckonRange_92
  refine wp_if (fun c_1 => ?_) (fun c_1 => ?_)
  ·
    exact s_X9_reckonRange_107 hx1 hx2 hx3 hx4 hx13 hxs0 (rg_w rc_1 (by decide)) h30_x1 h31_x1 (by first | exact h13 | exact (fun ne => absurd rfl ne)) h
  ·
    exact s_X9_reckonRange_107 hx1 hx2 hx3 hx4 hx13 hxs0 (rg_w rc_0 (by decide)) h30_x1 h31_x1 (by first | exact h13 | exact (fun ne => absurd rfl ne)) h
