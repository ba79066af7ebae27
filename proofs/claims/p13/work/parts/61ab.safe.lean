theorem q_copyFoundTo {g : gh} {S : sh} {o1 : Nat} {x2 : Int32} {D : dt} (k : sK S o1 = 6) (he : 0 ≤ x2.toInt) (hl : x2.toInt < (gI D o1 3).toInt) (hf : FdN S D (gI D o1 2).toInt) (h : Inv g S D) : wp (f_X2_copyFoundTo S 7 o1 x2 D) (fun q => Inv g S q.2) := by
  unfold f_X2_copyFoundTo
  refine wp_nmI (fun y ey => ?_)
  subst ey
  exact q_copyFoundTo_2 k he LF 0 D rfl hl (by decide) (by decide) hf h
set_option maxRecDepth 100000 in
theorem s_X1_begin {g : gh} {S : sh}   {D : dt}  (h : Inv g S D) : wp (f_X1_begin S 11 D) (fun q => Inv g S q.2) := by
  unfold f_X1_begin
  refine wp_rq (iR_11_2 h) ?_
  refine wp_cqs (s_J7_fillL12 h) (fun _ D38 h_D38 => ?_)
  refine wp_rq (iR_11_2 h_D38) ?_
  refine wp_ix (in_rg rc_1 (iA_12 h_D38) (by decide)) ?_
  refine wp_nmI (fun D44 e_D44 => ?_)
  have h_D44 : Inv g S D44 := by rw [e_D44]; exact inv_l12 h_D38
  refine wp_rq (iR_11_2 h_D44) ?_
  refine wp_ix (in_rg rc_10 (iA_12 h_D44) (by decide)) ?_
  refine wp_nmI (fun D50 e_D50 => ?_)
  have h_D50 : Inv g S D50 := by rw [e_D50]; exact inv_l12 h_D44
  refine wp_rq (iR_11_1 h_D50) ?_
  refine wp_rq (iR_7_2 h_D50) ?_
  refine wp_cqs (s_J7_fill_031fb rc_0 h_D50) (fun _ D60 h_D60 => ?_)
  refine wp_nmI (fun D61 e_D61 => ?_)
  have h_D61 : Inv g S D61 := by rw [e_D61]; exact inv_i11 h_D60 (rg_top _)
  refine wp_nmI (fun D62 e_D62 => ?_)
  have h_D62 : Inv g S D62 := by rw [e_D62]; exact inv_i11 h_D61 (rg_top _)
  refine wp_nmI (fun D63 e_D63 => ?_)
  have h_D63 : Inv g S D63 := by rw [e_D63]; exact inv_i11 h_D62 (rg_top _)
  refine wp_nmI (fun D64 e_D64 => ?_)
  have h_D64 : Inv g S D64 := by rw [e_D64]; exact inv_i11 h_D63 (rg_top _)
  exact ⟨_, rfl, h_D64⟩
set_option maxRecDepth 100000 in
theorem s_X1_goTo {g : gh} {S : sh}  {x1 : Int32} {D : dt}  (h : Inv g S D) : wp (f_X1_goTo S 11 x1 D) (fun q => Rg 1 1 q.1 ∧ Inv g S q.2) := by
  unfold f_X1_goTo
  refine wp_nmI (fun D2 e_D2 => ?_)
  have h_D2 : Inv g S D2 := by rw [e_D2]; exact inv_i11 h (rg_top _)
  exact ⟨_, rfl, rc_1, h_D2⟩
set_option maxRecDepth 100000 in
theorem s_X1_doPair_113 {g : gh} {S : sh}  {x1 : Int32} {xs1 : Int32} {xs2 : Int64} {D : dt} (hx1 : Rg 0 198 x1) (hxs1 : Rg 0 10 xs1) (h3_x1 : Rg 0 10 (g.2 3 x1.toNatClampNeg)) (h4_x1 : Rg 0 10 (g.2 4 x1.toNatClampNeg)) (hxs1_c_3_x1 : (xs1 ≠ 0 → Rg 1 10 (g.2 3 x1.toNatClampNeg))) (h : Inv g S D) : wp (f_X1_doPair_113 S 11 x1 12 xs1 xs2 D) (fun q => Rg 1 5 q.1 ∧ Inv g S q.2) := by
  unfold f_X1_doPair_113
  refine wp_ix (in_rg hxs1 (iA_12 h) (by decide)) ?_
  refine wp_nmI (fun D67 e_D67 => ?_)
  have h_D67 : Inv g S D67 := by rw [e_D67]; exact inv_l12 h
  refine wp_cqs (s_X1_goTo h_D67) (fun r69 D70 q_r69 => ?_)
  obtain ⟨h_r69, h_D70⟩ := q_r69
  exact ⟨_, rfl, (rg_w h_r69 (by decide)), h_D70⟩
set_option maxRecDepth 100000 in
theorem s_X1_doPair_61 {g : gh} {S : sh}  {x1 : Int32} {x2 : Int32} {x3 : Int32} {D : dt} (hx1 : Rg 0 198 x1) (hx3 : Rg 0 1 x3) (h3_x1 : Rg 0 10 (g.2 3 x1.toNatClampNeg)) (h4_x1 : Rg 0 10 (g.2 4 x1.toNatClampNeg)) (hx3_c_4_x1 : (x3 ≠ 0 → Rg 1 1 (g.2 4 x1.toNatClampNeg))) (h : Inv g S D) : wp (f_X1_doPair_61 S 11 x1 x2 x3 D) (fun q => Rg 1 5 q.1 ∧ Inv g S q.2) := by
  unfold f_X1_doPair_61
  refine wp_rq (iR_11_0 h) ?_
  refine wp_rq (iR_1_4 h) ?_
  refine wp_ix (in_rg (rg_add hx1 rc_1 (by decide) : Rg 1 199 _) (iA_6 h) (by decide)) ?_
  refine wp_nmI (fun y80 e_y80 => ?_)
  refine wp_rq (iR_11_2 h) ?_
  refine wp_rq (iR_11_0 h) ?_
  refine wp_rq (iR_1_1 h) ?_
  refine wp_ix (in_rg hx1 (iA_3 h) (by decide)) ?_
  refine wp_if (fun c_1 => ?_) (fun c_1 => ?_)
  ·
    have h_2 : Rg 0 0 _ := rg_eq1 hx3 rc_0 c_1 (by decide)
    exact s_X1_doPair_113 hx1 (rg_eq (h.p 3 _ rfl) h3_x1) h3_x1 h4_x1 (fun ne => by have h_3 : Rg 1 10 _ := rg_ne1 (rg_eq (h.p 3 _ rfl) h3_x1) rc_0 ne (by decide); exact (rg_eq (h.p 3 _ rfl).symm h_3)) h
  ·
    have h_4 := hx3_c_4_x1 c_1
    have h_5 : Rg 1 1 _ := rg_ne1 hx3 rc_0 c_1 (by decide)
    exact s_X1_doPair_113 hx1 (rg_eq (h.p 3 _ rfl) h3_x1) h3_x1 (rg_w h_4 (by decide)) (fun ne => by have h_6 : Rg 1 10 _ := rg_ne1 (rg_eq (h.p 3 _ rfl) h3_x1) rc_0 ne (by decide); exact (rg_eq (h.p 3 _ rfl).symm h_6)) h
set_option maxRecDepth 100000 in
theorem s_X1_doPair_28 {g : gh} {S : sh}  {x1 : Int32} {x2 : Int32} {xs0 : Int32} {D : dt} (hx1 : Rg 0 199 x1) (hxs0 : Rg 0 1 xs0) (h3_x1 : Rg 0 10 (g.2 3 x1.toNatClampNeg)) (h4_x1 : Rg 0 10 (g.2 4 x1.toNatClampNeg)) (hxs0_c_4_x1 : (xs0 ≠ 0 → Rg 1 1 (g.2 4 x1.toNatClampNeg))) (h : Inv g S D) : wp (f_X1_doPair_28 S 11 x1 x2 xs0 D) (fun q => Rg 1 5 q.1 ∧ Inv g S q.2) := by
  unfold f_X1_doPair_28
  refine wp_rq (iR_11_0 h) ?_
  refine wp_pqs (s_X4_has h) (fun r100 q_r100 => ?_)
  obtain ⟨h_r100, x_r100⟩ := q_r100
  refine wp_if (fun c_1 => ?_) (fun c_1 => ?_)
  ·
    have h_2 : Rg 0 0 _ := rg_eq1 h_r100 rc_0 c_1 (by decide)
    exact ⟨_, rfl, (rg_w rc_5 (by decide)), h⟩
  ·
    have h_3 := x_r100 c_1
    have h_4 : Rg 1 199 _ := rg_eq1 h_3 (rg_add hx1 rc_1 (by decide) : Rg 1 200 _) rfl (by decide)
    have h_5 : Rg 0 198 _ := rg_unadd hx1 h_4 (by decide)
    have h_6 : Rg 1 1 _ := rg_ne1 h_r100 rc_0 c_1 (by decide)
    refine wp_if (fun c_7 => ?_) (fun c_7 => ?_)
    ·
      have h_8 : Rg 0 0 _ := rg_eq1 hxs0 rc_0 c_7 (by decide)
      exact s_X1_doPair_61 h_5 (rg_w h_8 (by decide)) h3_x1 h4_x1 (fun ne => by have h_9 := hxs0_c_4_x1 ne; have h_10 : Rg 1 (-1) _ := rg_ne1 h_8 rc_0 ne (by decide); exact (rg_false h_10 (by decide)).elim) h
    ·
      have h_11 := hxs0_c_4_x1 c_7
      have h_12 : Rg 1 1 _ := rg_ne1 hxs0 rc_0 c_7 (by decide)
      refine wp_rq (iR_11_1 h) ?_
      refine wp_pqs (s_X2_tableNumbered h) (fun r108 h_r108 => ?_)
      refine wp_oq (fun e_z_13 => ?_) (fun z_13 e_z_13 => ?_)
      ·
        exact ⟨_, rfl, (rg_w rc_4 (by decide)), h⟩
      ·
        have k_z_13 := h_r108 _ e_z_13
        exact s_X1_doPair_61 h_5 (rg_w h_12 (by decide)) h3_x1 (rg_w h_11 (by decide)) (fun ne => by have h_14 := hxs0_c_4_x1 ne; exact h_14) h
set_option maxRecDepth 100000 in
theorem s_X1_doPair {g : gh} {S : sh}  {x1 : Int32} {D : dt} (hx1 : Rg 0 199 x1) (h3_x1 : Rg 0 10 (g.2 3 x1.toNatClampNeg)) (h4_x1 : Rg 0 10 (g.2 4 x1.toNatClampNeg)) (h : Inv g S D) : wp (f_X1_doPair S 11 x1 D) (fun q => Rg 1 5 q.1 ∧ Inv g S q.2) := by
  unfold f_X1_doPair
  refine wp_rq (iR_11_0 h) ?_
  refine wp_rq (iR_1_4 h) ?_
  refine wp_ix (in_rg hx1 (iA_6 h) (by decide)) ?_
  refine wp_nmI (fun y120 e_y120 => ?_)
  refine wp_rq (iR_11_0 h) ?_
  refine wp_rq (iR_1_2 h) ?_
  refine wp_ix (in_rg hx1 (iA_4 h) (by decide)) ?_
  refine wp_if (fun c_1 => ?_) (fun c_1 => ?_)
  ·
    have h_2 : Rg 1 1 _ := rg_eq1 (rg_eq (h.p 4 _ rfl) h4_x1) rc_1 c_1 (by decide)
    exact s_X1_doPair_28 hx1 (rg_w rc_1 (by decide)) h3_x1 (rg_w (rg_eq (h.p 4 _ rfl).symm h_2) (by decide)) (fun ne => by exact (rg_eq (h.p 4 _ rfl).symm h_2)) h
  ·
    exact s_X1_doPair_28 hx1 (rg_w rc_0 (by decide)) h3_x1 h4_x1 (fun ne => absurd rfl ne) h
set_option maxRecDepth 100000 in
theorem s_X1_doLoad_93 {g : gh} {S : sh}  {x1 : Int32} {xs1 : Int32} {xs2 : Int64} {D : dt} (hx1 : Rg 0 199 x1) (hxs1 : Rg 0 10 xs1) (h3_x1 : Rg 0 10 (g.2 3 x1.toNatClampNeg)) (h4_x1 : Rg 0 10 (g.2 4 x1.toNatClampNeg)) (hxs1_c_3_x1 : (xs1 ≠ 0 → Rg 1 10 (g.2 3 x1.toNatClampNeg))) (h : Inv g S D) : wp (f_X1_doLoad_93 S 11 x1 12 xs1 xs2 D) (fun q => Rg 1 4 q.1 ∧ Inv g S q.2) := by
  unfold f_X1_doLoad_93
  refine wp_ix (in_rg hxs1 (iA_12 h) (by decide)) ?_
  refine wp_nmI (fun D72 e_D72 => ?_)
  have h_D72 : Inv g S D72 := by rw [e_D72]; exact inv_l12 h
  refine wp_cqs (s_X1_goTo h_D72) (fun r74 D75 q_r74 => ?_)
  obtain ⟨h_r74, h_D75⟩ := q_r74
  exact ⟨_, rfl, (rg_w h_r74 (by decide)), h_D75⟩
set_option maxRecDepth 100000 in
theorem s_X1_doLoad {g : gh} {S : sh}  {x1 : Int32} {D : dt} (hx1 : Rg 0 199 x1) (h3_x1 : Rg 0 10 (g.2 3 x1.toNatClampNeg)) (h4_x1 : Rg 0 10 (g.2 4 x1.toNatClampNeg)) (h : Inv g S D) : wp (f_X1_doLoad S 11 x1 D) (fun q => Rg 1 4 q.1 ∧ Inv g S q.2) := by
  unfold f_X1_doLoad
  refine wp_rq (iR_11_0 h) ?_
  refine wp_pqs (s_X4_width hx1 h) (fun r81 h_r81 => ?_)
  refine wp_rq (iR_11_1 h) ?_
  refine wp_rq (iR_11_2 h) ?_
  refine wp_rq (iR_11_0 h) ?_
  refine wp_rq (iR_1_2 h) ?_
  refine wp_ix (in_rg hx1 (iA_4 h) (by decide)) ?_
  refine wp_ix (in_rg (rg_eq (h.p 4 _ rfl) h4_x1) (iA_12 h) (by decide)) ?_
  refine wp_rq (iR_11_0 h) ?_
  refine wp_rq (iR_1_3 h) ?_
  refine wp_ix (in_rg hx1 (iA_5 h) (by decide)) ?_
  refine wp_cqs (s_X2_find (rg_w h_r81 (by decide)) (rg_w rc_0 (by decide)) h) (fun r110 D111 q_r110 => ?_)
  obtain ⟨h_r110, p_r110, h_D111⟩ := q_r110
  refine wp_if (fun c_1 => ?_) (fun c_1 => ?_)
  ·
    have h_2 : Rg 0 0 _ := rg_eq1 h_r110 rc_0 c_1 (by decide)
    exact ⟨_, rfl, (rg_w rc_4 (by decide)), h_D111⟩
  ·
    have h_3 : Rg 1 1 _ := rg_ne1 h_r110 rc_0 c_1 (by decide)
    refine wp_rq (iR_11_1 h_D111) ?_
    refine wp_pqs (s_X2_foundNumber (rg_w h_r81 (by decide)) (p_r110.1 c_1) h_D111) (fun r118 _ => ?_)
    refine wp_rq (iR_11_2 h_D111) ?_
    refine wp_rq (iR_11_0 h_D111) ?_
    refine wp_rq (iR_1_1 h_D111) ?_
    refine wp_ix (in_rg hx1 (iA_3 h_D111) (by decide)) ?_
    refine wp_rq (iR_11_0 h_D111) ?_
    refine wp_pqs (s_X4_isSignedLoad hx1 h_D111) (fun r137 h_r137 => ?_)
    refine wp_if (fun c_4 => ?_) (fun c_4 => ?_)
    ·
      have h_5 : Rg 0 0 _ := rg_eq1 h_r137 rc_0 c_4 (by decide)
      exact s_X1_doLoad_93 hx1 (rg_eq (h_D111.p 3 _ rfl) h3_x1) h3_x1 h4_x1 (fun ne => by have h_6 : Rg 1 10 _ := rg_ne1 (rg_eq (h_D111.p 3 _ rfl) h3_x1) rc_0 ne (by decide); exact (rg_eq (h_D111.p 3 _ rfl).symm h_6)) h_D111
    ·
      have h_7 : Rg 1 1 _ := rg_ne1 h_r137 rc_0 c_4 (by decide)
      refine wp_pqs (s_X3_withSign (rg_w (rg_mul rc_8 h_r81 (by decide) : Rg 8 64 _) (by decide))) (fun r140 _ => ?_)
      exact s_X1_doLoad_93 hx1 (rg_eq (h_D111.p 3 _ rfl) h3_x1) h3_x1 h4_x1 (fun ne => by have h_8 : Rg 1 10 _ := rg_ne1 (rg_eq (h_D111.p 3 _ rfl) h3_x1) rc_0 ne (by decide); exact (rg_eq (h_D111.p 3 _ rfl).symm h_8)) h_D111
set_option maxRecDepth 100000 in
theorem s_X1_doPut {g : gh} {S : sh}  {x1 : Int32} {x2 : Int64} {D : dt} (hx1 : Rg 0 199 x1) (h3_x1 : Rg 0 10 (g.2 3 x1.toNatClampNeg)) (h4_x1 : Rg 0 10 (g.2 4 x1.toNatClampNeg)) (h : Inv g S D) : wp (f_X1_doPut S 11 x1 x2 D) (fun q => Rg 1 4 q.1 ∧ Inv g S q.2) := by
  unfold f_X1_doPut
  refine wp_rq (iR_11_0 h) ?_
  refine wp_pqs (s_X4_width hx1 h) (fun r52 h_r52 => ?_)
  refine wp_rq (iR_11_1 h) ?_
  refine wp_rq (iR_11_2 h) ?_
  refine wp_rq (iR_11_0 h) ?_
  refine wp_rq (iR_1_1 h) ?_
  refine wp_ix (in_rg hx1 (iA_3 h) (by decide)) ?_
  refine wp_ix (in_rg (rg_eq (h.p 3 _ rfl) h3_x1) (iA_12 h) (by decide)) ?_
  refine wp_rq (iR_11_0 h) ?_
  refine wp_rq (iR_1_3 h) ?_
  refine wp_ix (in_rg hx1 (iA_5 h) (by decide)) ?_
  refine wp_cqs (s_X2_find (rg_w h_r52 (by decide)) (rg_w rc_1 (by decide)) h) (fun r81 D82 q_r81 => ?_)
  obtain ⟨h_r81, p_r81, h_D82⟩ := q_r81
  refine wp_if (fun c_1 => ?_) (fun c_1 => ?_)
  ·
    have h_2 : Rg 0 0 _ := rg_eq1 h_r81 rc_0 c_1 (by decide)
    exact ⟨_, rfl, (rg_w rc_4 (by decide)), h_D82⟩
  ·
    have h_3 : Rg 1 1 _ := rg_ne1 h_r81 rc_0 c_1 (by decide)
    refine wp_rq (iR_11_1 h_D82) ?_
    refine wp_cqs (s_X2_writeFound h_r52 (p_r81.1 c_1) h_D82) (fun _ D89 h_D89 => ?_)
    refine wp_cqs (s_X1_goTo h_D89) (fun r91 D92 q_r91 => ?_)
    obtain ⟨h_r91, h_D92⟩ := q_r91
    exact ⟨_, rfl, (rg_w h_r91 (by decide)), h_D92⟩
set_option maxRecDepth 100000 in
theorem s_X1_doChange_211 {g : gh} {S : sh}  {x1 : Int32} {D : dt} (hx1 : Rg 0 199 x1) (h3_x1 : Rg 0 10 (g.2 3 x1.toNatClampNeg)) (h4_x1 : Rg 0 10 (g.2 4 x1.toNatClampNeg)) (h : Inv g S D) : wp (f_X1_doChange_211 S 11 x1 D) (fun q => Rg 1 4 q.1 ∧ Inv g S q.2) := by
  unfold f_X1_doChange_211
  refine wp_cqs (s_X1_goTo h) (fun r126 D127 q_r126 => ?_)
  obtain ⟨h_r126, h_D127⟩ := q_r126
  exact ⟨_, rfl, (rg_w h_r126 (by decide)), h_D127⟩
set_option maxRecDepth 100000 in
theorem s_X1_doChange_185 {g : gh} {S : sh}  {x1 : Int32} {x2 : Int32} {x3 : Int32} {x4 : Int64} {xs1 : Int64} {D : dt} (hx1 : Rg 0 199 x1) (hx2 : Rg 1 8 x2) (h3_x1 : Rg 0 10 (g.2 3 x1.toNatClampNeg)) (h4_x1 : Rg 0 10 (g.2 4 x1.toNatClampNeg)) (hfd : FdN S D x2.toInt) (h : Inv g S D) : wp (f_X1_doChange_185 S 11 x1 x2 x3 x4 7 xs1 D) (fun q => Rg 1 4 q.1 ∧ Inv g S q.2) := by
  unfold f_X1_doChange_185
  refine wp_cqs (s_X2_writeFound hx2 (by first | exact hfd | exact (fun ne => absurd rfl ne)) h) (fun _ D129 h_D129 => ?_)
  refine wp_if (fun c_1 => ?_) (fun c_1 => ?_)
  ·
    have h_2 : Rg 0 0 _ := rg_eq1 (rg_andr _ (by decide) : Rg 0 1 _) rc_0 c_1 (by decide)
    exact s_X1_doChange_211 hx1 h3_x1 h4_x1 h_D129
  ·
    have h_3 : Rg 1 1 _ := rg_ne1 (rg_andr _ (by decide) : Rg 0 1 _) rc_0 c_1 (by decide)
    refine wp_rq (iR_11_2 h_D129) ?_
    refine wp_rq (iR_11_0 h_D129) ?_
    refine wp_rq (iR_1_2 h_D129) ?_
    refine wp_ix (in_rg hx1 (iA_4 h_D129) (by decide)) ?_
    refine wp_ix (in_rg (rg_eq (h_D129.p 4 _ rfl) h4_x1) (iA_12 h_D129) (by decide)) ?_
    refine wp_nmI (fun D145 e_D145 => ?_)
    have h_D145 : Inv g S D145 := by rw [e_D145]; exact inv_l12 h_D129
    exact s_X1_doChange_211 hx1 h3_x1 h4_x1 h_D145
set_option maxRecDepth 100000 in
theorem s_X1_doChange_137 {g : gh} {S : sh}  {x1 : Int32} {x2 : Int32} {x4 : Int64} {xs1 : Int64} {D : dt} (hx1 : Rg 0 199 x1) (hx2 : Rg 1 8 x2) (h3_x1 : Rg 0 10 (g.2 3 x1.toNatClampNeg)) (h4_x1 : Rg 0 10 (g.2 4 x1.toNatClampNeg)) (hfd : FdN S D x2.toInt) (h : Inv g S D) : wp (f_X1_doChange_137 S 11 x1 x2 x4 7 xs1 D) (fun q => Rg 1 4 q.1 ∧ Inv g S q.2) := by
  unfold f_X1_doChange_137
  refine wp_cqs (s_X2_writeFound hx2 (by first | exact hfd | exact (fun ne => absurd rfl ne)) h) (fun _ D147 h_D147 => ?_)
  refine wp_rq (iR_11_2 h_D147) ?_
  refine wp_ix (in_rg rc_0 (iA_12 h_D147) (by decide)) ?_
  refine wp_nmI (fun D153 e_D153 => ?_)
  have h_D153 : Inv g S D153 := by rw [e_D153]; exact inv_l12 h_D147
  refine wp_cqs (s_X1_goTo h_D153) (fun r155 D156 q_r155 => ?_)
  obtain ⟨h_r155, h_D156⟩ := q_r155
  exact ⟨_, rfl, (rg_w h_r155 (by decide)), h_D156⟩
set_option maxRecDepth 100000 in
theorem s_X1_doChange_116 {g : gh} {S : sh}  {x1 : Int32} {x2 : Int32} {x4 : Int64} {x6 : Int64} {xs0 : Int64} {D : dt} (hx1 : Rg 0 199 x1) (hx2 : Rg 1 8 x2) (h3_x1 : Rg 0 10 (g.2 3 x1.toNatClampNeg)) (h4_x1 : Rg 0 10 (g.2 4 x1.toNatClampNeg)) (hfd : FdN S D x2.toInt) (h : Inv g S D) : wp (f_X1_doChange_116 S 11 x1 x2 x4 x6 xs0 D) (fun q => Rg 1 4 q.1 ∧ Inv g S q.2) := by
  unfold f_X1_doChange_116
  refine wp_rq (iR_11_1 h) ?_
  refine wp_if (fun c_1 => ?_) (fun c_1 => ?_)
  ·
    exact s_X1_doChange_137 hx1 hx2 h3_x1 h4_x1 (by first | exact hfd | exact (fun ne => absurd rfl ne)) h
  ·
    exact s_X1_doChange_137 hx1 hx2 h3_x1 h4_x1 (by first | exact hfd | exact (fun ne => absurd rfl ne)) h
set_option maxRecDepth 100000 in
theorem s_X1_doChange {g : gh} {S : sh}  {x1 : Int32} {D : dt} (hx1 : Rg 0 199 x1) (h3_x1 : Rg 0 10 (g.2 3 x1.toNatClampNeg)) (h4_x1 : Rg 0 10 (g.2 4 x1.toNatClampNeg)) (h : Inv g S D) : wp (f_X1_doChange S 11 x1 D) (fun q => Rg 1 4 q.1 ∧ Inv g S q.2) := by
  unfold f_X1_doChange
  refine wp_rq (iR_11_0 h) ?_
  refine wp_pqs (s_X4_width hx1 h) (fun r167 h_r167 => ?_)
  refine wp_rq (iR_11_0 h) ?_
  refine wp_rq (iR_1_4 h) ?_
  refine wp_ix (in_rg hx1 (iA_6 h) (by decide)) ?_
  refine wp_nmI (fun y177 e_y177 => ?_)
  refine wp_rq (iR_11_1 h) ?_
  refine wp_rq (iR_11_2 h) ?_
  refine wp_rq (iR_11_0 h) ?_
  refine wp_rq (iR_1_1 h) ?_
  refine wp_ix (in_rg hx1 (iA_3 h) (by decide)) ?_
  refine wp_ix (in_rg (rg_eq (h.p 3 _ rfl) h3_x1) (iA_12 h) (by decide)) ?_
  refine wp_rq (iR_11_0 h) ?_
  refine wp_rq (iR_1_3 h) ?_
  refine wp_ix (in_rg hx1 (iA_5 h) (by decide)) ?_
  refine wp_cqs (s_X2_find (rg_w h_r167 (by decide)) (rg_w rc_1 (by decide)) h) (fun r206 D207 q_r206 => ?_)
  obtain ⟨h_r206, p_r206, h_D207⟩ := q_r206
  refine wp_if (fun c_1 => ?_) (fun c_1 => ?_)
  ·
    have h_2 : Rg 0 0 _ := rg_eq1 h_r206 rc_0 c_1 (by decide)
    exact ⟨_, rfl, (rg_w rc_4 (by decide)), h_D207⟩
  ·
    have h_3 : Rg 1 1 _ := rg_ne1 h_r206 rc_0 c_1 (by decide)
    refine wp_rq (iR_11_1 h_D207) ?_
    refine wp_pqs (s_X2_foundNumber (rg_w h_r167 (by decide)) (p_r206.1 c_1) h_D207) (fun r214 _ => ?_)
    refine wp_rq (iR_11_2 h_D207) ?_
    refine wp_rq (iR_11_0 h_D207) ?_
    refine wp_rq (iR_1_2 h_D207) ?_
    refine wp_ix (in_rg hx1 (iA_4 h_D207) (by decide)) ?_
    refine wp_ix (in_rg (rg_eq (h_D207.p 4 _ rfl) h4_x1) (iA_12 h_D207) (by decide)) ?_
    refine wp_nmI (fun y229 e_y229 => ?_)
    refine wp_if (fun c_4 => ?_) (fun c_4 => ?_)
    ·
      have h_5 : Rg 241 241 _ := rg_eq1 (rg_top _) rc_241 c_4 (by decide)
      refine wp_if (fun c_6 => ?_) (fun c_6 => ?_)
      ·
        have h_7 : Rg 8 8 _ := rg_eq1 h_r167 rc_8 c_6 (by decide)
        refine wp_rq (iR_11_2 h_D207) ?_
        refine wp_ix (in_rg rc_0 (iA_12 h_D207) (by decide)) ?_
        exact s_X1_doChange_116 hx1 (rg_w h_7 (by decide)) h3_x1 h4_x1 (p_r206.1 c_1) h_D207
      ·
        have h_8 : Rg 1 7 _ := rg_ne1 h_r167 rc_8 c_6 (by decide)
        refine wp_rq (iR_11_2 h_D207) ?_
        refine wp_ix (in_rg rc_0 (iA_12 h_D207) (by decide)) ?_
        exact s_X1_doChange_116 hx1 (rg_w h_8 (by decide)) h3_x1 h4_x1 (p_r206.1 c_1) h_D207
    ·
      refine wp_rq (iR_11_1 h_D207) ?_
      refine wp_if (fun c_9 => ?_) (fun c_9 => ?_)
      ·
        have h_10 : Rg 225 225 _ := rg_eq1 (rg_top _) rc_225 c_9 (by decide)
        exact s_X1_doChange_185 hx1 h_r167 h3_x1 h4_x1 (p_r206.1 c_1) h_D207
      ·
        refine wp_pqs (s_X3_make (rg_shr (rg_top _) (by decide) : Rg (-134217728) 134217727 _) (rg_w rc_1 (by decide)) (rg_w rc_0 (by decide))) (fun r237 _ => ?_)
        exact s_X1_doChange_185 hx1 h_r167 h3_x1 h4_x1 (p_r206.1 c_1) h_D207
set_option maxRecDepth 100000 in
theorem s_X1_x {g : gh} {S : sh} {D : dt}  {x1 : Int32} (hx1 : Rg 0 199 x1) (h3_x1 : Rg 0 10 (g.2 3 x1.toNatClampNeg)) (h4_x1 : Rg 0 10 (g.2 4 x1.toNatClampNeg)) (h : Inv g S D) : wp (f_X1_x S D 11 x1) (fun q => True) := by
  unfold f_X1_x
  refine wp_rq (iR_11_0 h) ?_
  refine wp_pqs (s_X4_byRegister hx1 h) (fun r36 h_r36 => ?_)
  refine wp_if (fun c_1 => ?_) (fun c_1 => ?_)
  ·
    have h_2 : Rg 0 0 _ := rg_eq1 h_r36 rc_0 c_1 (by decide)
    refine wp_rq (iR_11_0 h) ?_
    refine wp_rq (iR_1_4 h) ?_
    refine wp_ix (in_rg hx1 (iA_6 h) (by decide)) ?_
    exact ⟨_, rfl, trivial⟩
  ·
    have h_3 : Rg 1 1 _ := rg_ne1 h_r36 rc_0 c_1 (by decide)
    refine wp_rq (iR_11_2 h) ?_
    refine wp_rq (iR_11_0 h) ?_
    refine wp_rq (iR_1_2 h) ?_
    refine wp_ix (in_rg hx1 (iA_4 h) (by decide)) ?_
    refine wp_ix (in_rg (rg_eq (h.p 4 _ rfl) h4_x1) (iA_12 h) (by decide)) ?_
    exact ⟨_, rfl, trivial⟩
set_option maxRecDepth 100000 in
theorem s_X1_doArithmetic_121 {g : gh} {S : sh}  {x1 : Int32} {D : dt} (hx1 : Rg 0 199 x1) (h3_x1 : Rg 0 10 (g.2 3 x1.toNatClampNeg)) (h4_x1 : Rg 0 10 (g.2 4 x1.toNatClampNeg)) (h : Inv g S D) : wp (f_X1_doArithmetic_121 S 11 x1 D) (fun q => Rg 1 1 q.1 ∧ Inv g S q.2) := by
  unfold f_X1_doArithmetic_121
  refine wp_cqs (s_X1_goTo h) (fun r88 D89 q_r88 => ?_)
  obtain ⟨h_r88, h_D89⟩ := q_r88
  exact ⟨_, rfl, h_r88, h_D89⟩
set_option maxRecDepth 100000 in
theorem s_X1_doArithmetic_52 {g : gh} {S : sh}  {x1 : Int32} {x3 : Int32} {xs0 : Int32} {D : dt} (hx1 : Rg 0 199 x1) (hx3 : Rg 0 10 x3) (hxs0 : Rg 0 1 xs0) (h3_x1 : Rg 0 10 (g.2 3 x1.toNatClampNeg)) (h4_x1 : Rg 0 10 (g.2 4 x1.toNatClampNeg)) (h64 : Rg 0 64 (g.2 6 x1.toNatClampNeg)) (h : Inv g S D) : wp (f_X1_doArithmetic_52 S 11 x1 x3 xs0 D) (fun q => Rg 1 1 q.1 ∧ Inv g S q.2) := by
  unfold f_X1_doArithmetic_52
  refine wp_rq (iR_11_2 h) ?_
  refine wp_rq (iR_11_2 h) ?_
  refine wp_ix (in_rg hx3 (iA_12 h) (by decide)) ?_
  refine wp_rq (iR_11_0 h) ?_
  refine wp_rq (iR_1_4 h) ?_
  refine wp_ix (in_rg hx1 (iA_6 h) (by decide)) ?_
  refine wp_pqs (s_X3_turn (rg_eq (h.p 6 _ rfl) h64) hxs0) (fun r109 _ => ?_)
  refine wp_ix (in_rg hx3 (iA_12 h) (by decide)) ?_
  refine wp_nmI (fun D111 e_D111 => ?_)
  have h_D111 : Inv g S D111 := by rw [e_D111]; exact inv_l12 h
  exact s_X1_doArithmetic_121 hx1 h3_x1 h4_x1 h_D111
set_option maxRecDepth 100000 in
theorem s_X1_doArithmetic_47 {g : gh} {S : sh}  {x1 : Int32} {x3 : Int32} {D : dt} (hx1 : Rg 0 199 x1) (hx3 : Rg 0 10 x3) (h3_x1 : Rg 0 10 (g.2 3 x1.toNatClampNeg)) (h4_x1 : Rg 0 10 (g.2 4 x1.toNatClampNeg)) (h64 : Rg 0 64 (g.2 6 x1.toNatClampNeg)) (h : Inv g S D) : wp (f_X1_doArithmetic_47 S 11 x1 x3 D) (fun q => Rg 1 1 q.1 ∧ Inv g S q.2) := by
  unfold f_X1_doArithmetic_47
  exact s_X1_doArithmetic_52 hx1 hx3 (rg_w rc_1 (by decide)) h3_x1 h4_x1 (by first | exact h64 | exact (fun ne => absurd rfl ne)) h
set_option maxRecDepth 100000 in
theorem s_X1_doArithmetic {g : gh} {S : sh}  {x1 : Int32} {D : dt} (hx1 : Rg 0 199 x1) (h3_x1 : Rg 0 10 (g.2 3 x1.toNatClampNeg)) (h4_x1 : Rg 0 10 (g.2 4 x1.toNatClampNeg)) (h13 : (g.2 2 x1.toNatClampNeg >>> ((4 : Int32) &&& 31) = 13 → Rg 0 64 (g.2 6 x1.toNatClampNeg))) (h : Inv g S D) : wp (f_X1_doArithmetic S 11 x1 D) (fun q => Rg 1 1 q.1 ∧ Inv g S q.2) := by
  unfold f_X1_doArithmetic
  refine wp_rq (iR_11_0 h) ?_
  refine wp_pqs (s_X4_code hx1 h) (fun r117 q_r117 => ?_)
  obtain ⟨h_r117, p_r117⟩ := q_r117
  refine wp_rq (iR_11_0 h) ?_
  refine wp_rq (iR_1_1 h) ?_
  refine wp_ix (in_rg hx1 (iA_3 h) (by decide)) ?_
  refine wp_nmI (fun y127 e_y127 => ?_)
  have h_y127 : Rg 0 10 y127 := rg_eq e_y127 (rg_eq (h.p 3 _ rfl) h3_x1)
  refine wp_if (fun c_1 => ?_) (fun c_1 => ?_)
  ·
    have h_2 : Rg 13 13 _ := rg_eq1 h_r117 rc_13 c_1 (by decide)
    refine wp_rq (iR_11_0 h) ?_
    refine wp_pqs (s_X4_isWide hx1 h) (fun r164 h_r164 => ?_)
    refine wp_if (fun c_3 => ?_) (fun c_3 => ?_)
    ·
      have h_4 : Rg 0 0 _ := rg_eq1 h_r164 rc_0 c_3 (by decide)
      refine wp_rq (iR_11_0 h) ?_
      refine wp_pqs (s_X4_byRegister hx1 h) (fun r171 h_r171 => ?_)
      refine wp_if (fun c_5 => ?_) (fun c_5 => ?_)
      ·
        have h_6 : Rg 0 0 _ := rg_eq1 h_r171 rc_0 c_5 (by decide)
        exact s_X1_doArithmetic_52 hx1 h_y127 (rg_w rc_0 (by decide)) h3_x1 h4_x1 (h13 (p_r117.symm.trans c_1)) h
      ·
        have h_7 : Rg 1 1 _ := rg_ne1 h_r171 rc_0 c_5 (by decide)
        exact s_X1_doArithmetic_47 hx1 h_y127 h3_x1 h4_x1 (h13 (p_r117.symm.trans c_1)) h
    ·
      have h_8 : Rg 1 1 _ := rg_ne1 h_r164 rc_0 c_3 (by decide)
      exact s_X1_doArithmetic_47 hx1 h_y127 h3_x1 h4_x1 (h13 (p_r117.symm.trans c_1)) h
  ·
    refine wp_rq (iR_11_2 h) ?_
    refine wp_rq (iR_11_0 h) ?_
    refine wp_pqs (s_X4_isWide hx1 h) (fun r138 h_r138 => ?_)
    refine wp_rq (iR_11_0 h) ?_
    refine wp_rq (iR_1_3 h) ?_
    refine wp_ix (in_rg hx1 (iA_5 h) (by decide)) ?_
    refine wp_rq (iR_11_2 h) ?_
    refine wp_ix (in_rg h_y127 (iA_12 h) (by decide)) ?_
    refine wp_pqs (s_X1_x hx1 h3_x1 h4_x1 h) (fun r154 _ => ?_)
    refine wp_pqs (s_X3_make (rg_w h_r117 (by decide)) h_r138 (iI_5 h _)) (fun r156 _ => ?_)
    refine wp_ix (in_rg h_y127 (iA_12 h) (by decide)) ?_
    refine wp_nmI (fun D158 e_D158 => ?_)
    have h_D158 : Inv g S D158 := by rw [e_D158]; exact inv_l12 h
    exact s_X1_doArithmetic_121 hx1 h3_x1 h4_x1 h_D158
set_option maxRecDepth 100000 in
theorem s_X1_comeBack_10 {g : gh} {S : sh}  : ∀ (n : Nat) (x1 : Int32) (x4 : Int32) (D : dt), Rg 0 199 x1 → Rg 1 6 x4 → Rg 0 10 (g.2 3 x1.toNatClampNeg) → Rg 0 10 (g.2 4 x1.toNatClampNeg) → 6 - x4.toInt < (n : Int) → Inv g S D → wp (f_X1_comeBack_10 S n 11 x1 x4 D) (fun q => Rg 1 1 q.1 ∧ Inv g S q.2) := by
  intro n
  induction n with
  | zero =>
    intro x1 x4 D hx1 hx4 h3_x1 h4_x1 hm h
    exact (ms_0 hx4 (by decide) hm).elim
  | succ n ih =>
    intro x1 x4 D hx1 hx4 h3_x1 h4_x1 hm h
    rw [f_X1_comeBack_10.eq_2]
    refine wp_if (fun c_1 => ?_) (fun c_1 => ?_)
    ·
      have h_2 : Rg 6 6 _ := rg_lt2 rc_5 hx4 c_1 (by decide)
      refine wp_cqs (s_X1_goTo h) (fun r21 D22 q_r21 => ?_)
      obtain ⟨h_r21, h_D22⟩ := q_r21
      exact ⟨_, rfl, h_r21, h_D22⟩
    ·
      have h_3 : Rg 1 5 _ := rg_le1 hx4 rc_5 (nlt32 c_1) (by decide)
      refine wp_rq (iR_11_2 h) ?_
      refine wp_ix (in_rg h_3 (iA_12 h) (by decide)) ?_
      refine wp_nmI (fun D28 e_D28 => ?_)
      have h_D28 : Inv g S D28 := by rw [e_D28]; exact inv_l12 h
      refine wp_nmI (fun y29 e_y29 => ?_)
      have h_y29 : Rg 2 6 y29 := rg_eq e_y29 (rg_add h_3 rc_1 (by decide) : Rg 2 6 _)
      exact ih _ _ _ hx1 (rg_w h_y29 (by decide)) h3_x1 h4_x1 (by rw [e_y29]; exact ms_up h_3 (by decide) hm) h_D28
set_option maxRecDepth 100000 in
theorem s_X1_comeBack {g : gh} {S : sh}  {x1 : Int32} {x2 : Int64} {D : dt} (hx1 : Rg 0 199 x1) (h3_x1 : Rg 0 10 (g.2 3 x1.toNatClampNeg)) (h4_x1 : Rg 0 10 (g.2 4 x1.toNatClampNeg)) (h : Inv g S D) : wp (f_X1_comeBack S 11 x1 x2 D) (fun q => Rg 1 1 q.1 ∧ Inv g S q.2) := by
  unfold f_X1_comeBack
  refine wp_rq (iR_11_2 h) ?_
  refine wp_ix (in_rg rc_0 (iA_12 h) (by decide)) ?_
  refine wp_nmI (fun D35 e_D35 => ?_)
  have h_D35 : Inv g S D35 := by rw [e_D35]; exact inv_l12 h
  refine wp_nmI (fun y36 e_y36 => ?_)
  have h_y36 : Rg 1 1 y36 := rg_eq e_y36 rc_1
  exact s_X1_comeBack_10  LF _ _ _ hx1 (rg_w h_y36 (by decide)) h3_x1 h4_x1 (ms_in h_y36 (by decide)) h_D35
set_option maxRecDepth 100000 in
theorem s_X1_doCall_270 {g : gh} {S : sh}  {xs1 : Int32} {xs2 : Int64} {D : dt} (hxs1 : Rg 0 199 xs1) (hxs2 : RgL (-1) 0 xs2) (h3_xs1 : Rg 0 10 (g.2 3 xs1.toNatClampNeg)) (h4_xs1 : Rg 0 10 (g.2 4 xs1.toNatClampNeg)) (h : Inv g S D) : wp (f_X1_doCall_270 S 11 xs1 xs2 D) (fun q => Rg 1 4 q.1 ∧ Inv g S q.2) := by
  unfold f_X1_doCall_270
  refine wp_cqs (s_X1_comeBack hxs1 h3_xs1 h4_xs1 h) (fun r113 D114 q_r113 => ?_)
  obtain ⟨h_r113, h_D114⟩ := q_r113
  exact ⟨_, rfl, (rg_w h_r113 (by decide)), h_D114⟩
set_option maxRecDepth 100000 in
theorem s_X1_doCall_256 {g : gh} {S : sh}  {x1 : Int32} {x7 : Int32} {D : dt} (hx1 : Rg 0 199 x1) (hx7 : Rg (-1) 31 x7) (h3_x1 : Rg 0 10 (g.2 3 x1.toNatClampNeg)) (h4_x1 : Rg 0 10 (g.2 4 x1.toNatClampNeg)) (h : Inv g S D) : wp (f_X1_doCall_256 S 11 x1 x7 D) (fun q => Rg 1 4 q.1 ∧ Inv g S q.2) := by
  unfold f_X1_doCall_256
  refine wp_if (fun c_1 => ?_) (fun c_1 => ?_)
  ·
    have h_2 : Rg 0 31 _ := rg_le2 rc_0 hx7 c_1 (by decide)
    exact s_X1_doCall_270 hx1 (rgl_w rcl_0 (by decide)) h3_x1 h4_x1 h
  ·
    have h_3 : Rg (-1) (-1) _ := rg_lt1 hx7 rc_0 (nle32 c_1) (by decide)
    exact s_X1_doCall_270 hx1 (rgl_w rcl_m1 (by decide)) h3_x1 h4_x1 h
set_option maxRecDepth 100000 in
theorem s_X1_doCall_169 {g : gh} {S : sh}  {xs1 : Int32} {xs2 : Int64} {D : dt} (hxs1 : Rg 0 199 xs1) (h3_xs1 : Rg 0 10 (g.2 3 xs1.toNatClampNeg)) (h4_xs1 : Rg 0 10 (g.2 4 xs1.toNatClampNeg)) (h : Inv g S D) : wp (f_X1_doCall_169 S 11 xs1 xs2 D) (fun q => Rg 1 4 q.1 ∧ Inv g S q.2) := by
  unfold f_X1_doCall_169
  refine wp_cqs (s_X1_comeBack hxs1 h3_xs1 h4_xs1 h) (fun r117 D118 q_r117 => ?_)
  obtain ⟨h_r117, h_D118⟩ := q_r117
  exact ⟨_, rfl, (rg_w h_r117 (by decide)), h_D118⟩
set_option maxRecDepth 100000 in
theorem s_X1_doCall_197 {g : gh} {S : sh}  {xs1 : Int32} {xs2 : Int64} {D : dt} (hxs1 : Rg 0 199 xs1) (hxs2 : RgL (-1) 0 xs2) (h3_xs1 : Rg 0 10 (g.2 3 xs1.toNatClampNeg)) (h4_xs1 : Rg 0 10 (g.2 4 xs1.toNatClampNeg)) (h : Inv g S D) : wp (f_X1_doCall_197 S 11 xs1 xs2 D) (fun q => Rg 1 4 q.1 ∧ Inv g S q.2) := by
  unfold f_X1_doCall_197
  refine wp_cqs (s_X1_comeBack hxs1 h3_xs1 h4_xs1 h) (fun r120 D121 q_r120 => ?_)
  obtain ⟨h_r120, h_D121⟩ := q_r120
  exact ⟨_, rfl, (rg_w h_r120 (by decide)), h_D121⟩
theorem s_X1_doCall {g : gh} {S : sh} {x1 x2 : Int32} {D : dt} (hx1 : Rg 0 199 x1) (h3_x1 : Rg 0 10 (g.2 3 x1.toNatClampNeg)) (h4_x1 : Rg 0 10 (g.2 4 x1.toNatClampNeg)) (h : Inv g S D) : wp (f_X1_doCall S 11 x1 x2 D) (fun q => Rg 1 4 q.1 ∧ Inv g S q.2) := by
  have four : Rg 1 4 (4 : Int32) := by decide
  have cb : ∀ {D : dt} {v : Int64}, Inv g S D → wp (f_X1_comeBack S 11 x1 v D) (fun q => Rg 1 1 q.1 ∧ Inv g S q.2) := fun h => s_X1_comeBack hx1 h3_x1 h4_x1 h
  have b169 : ∀ {D : dt} {v : Int64}, Inv g S D → wp (f_X1_doCall_169 S 11 x1 v D) (fun q => Rg 1 4 q.1 ∧ Inv g S q.2) := fun h => by
    unfold f_X1_doCall_169
    exact wp_cqs (cb h) (fun r D p => ⟨_, rfl, rg_w p.1 (by decide), p.2⟩)
  have b197 : ∀ {D : dt} {v : Int64}, Inv g S D → wp (f_X1_doCall_197 S 11 x1 v D) (fun q => Rg 1 4 q.1 ∧ Inv g S q.2) := fun h => by
    unfold f_X1_doCall_197
    exact wp_cqs (cb h) (fun r D p => ⟨_, rfl, rg_w p.1 (by decide), p.2⟩)
  have b256 : ∀ {D : dt} {v : Int32}, Inv g S D → wp (f_X1_doCall_256 S 11 x1 v D) (fun q => Rg 1 4 q.1 ∧ Inv g S q.2) := fun h => by
    unfold f_X1_doCall_256 f_X1_doCall_270
    exact wp_if (fun _ => wp_cqs (cb h) (fun r D p => ⟨_, rfl, rg_w p.1 (by decide), p.2⟩)) (fun _ => wp_cqs (cb h) (fun r D p => ⟨_, rfl, rg_w p.1 (by decide), p.2⟩))
  unfold f_X1_doCall
  refine wp_if (fun _ => wp_rq (iR_11_1 h) (wp_cqs (cb h) (fun r D p => ⟨_, rfl, rg_w p.1 (by decide), p.2⟩))) (fun _ => wp_if (fun _ => ?_) (fun _ => ?_))
  · refine wp_rq (iR_11_3 h) (wp_pqs (s_J9_floorMod_7cf53 (by decide)) (fun r pr => wp_rq (iR_11_2 h) (wp_ix (in_rg (by decide : Rg 1 1 (1 : Int32)) (iA_12 h) (by decide)) (wp_ix (in_rg pr (iA_13 h) (by decide)) (wp_nmI (fun D1 e1 => wp_nmI (fun D2 e2 => ?_)))))))
    have h1 : Inv g S D1 := by rw [e1]; exact inv_l13 h
    have h2 : Inv g S D2 := by rw [e2]; exact inv_i11 h1 (rg_top _)
    exact wp_cqs (cb h2) (fun r D p => ⟨_, rfl, rg_w p.1 (by decide), p.2⟩)
  · refine wp_rq (iR_11_1 h) (wp_rq (iR_11_2 h) (wp_ix (in_rg (by decide : Rg 1 1 (1 : Int32)) (iA_12 h) (by decide)) (wp_pqs (s_X2_tableAt h) (fun t pt => wp_rq (iR_11_1 h) (wp_pqs (s_X2_tableNumbered h) (fun tb ptb => wp_oq (fun _ => ⟨_, rfl, four, h⟩) (fun o eo => ?_)))))))
    have k := ptb o eo
    refine wp_rq (iR_11_1 h) (wp_rq (iR_11_2 h) (wp_ix (in_rg (by decide : Rg 2 2 (2 : Int32)) (iA_12 h) (by decide)) (wp_cqs (s_X2_find (rg_w (iT1 h k) (by decide)) (by decide) h) (fun r D1 p => wp_if (fun _ => ⟨_, rfl, four, p.2.2⟩) (fun c => ?_)))))
    obtain ⟨p1, ⟨p2, p3⟩, h1⟩ := p
    have n7 : o ≠ 7 := k_at h k 7 (by decide) (by decide)
    have ks : gI D1 o 1 = gI D o 1 := p3 o 1 n7
    have fd := p2 c
    rw [← ks] at fd
    refine wp_rq (iR_11_1 h1) (wp_pqs (s_X2_foundNumber (rg_w (iT1 h1 k) (by decide)) fd h1) (fun key _ => wp_if (fun _ => ?_) (fun _ => wp_if (fun _ => ?_) (fun _ => ?_))))
    · exact wp_pqs (s_X7_numberOf k h1) (fun e _ => wp_if (fun _ => b169 h1) (fun _ => b169 h1))
    · exact wp_cqs (s_X7_removeKey k h1) (fun e D2 p => wp_if (fun _ => b197 p.2) (fun _ => b197 p.2))
    · refine wp_rq (iR_11_1 h1) (wp_rq (iR_11_2 h1) (wp_ix (in_rg (by decide : Rg 3 3 (3 : Int32)) (iA_12 h1) (by decide)) (wp_cqs (s_X2_find (iT2 h1 k) (by decide) h1) (fun r2 D2 q => wp_if (fun _ => ⟨_, rfl, four, q.2.2⟩) (fun c2 => ?_)))))
      obtain ⟨q1, ⟨q2, q3⟩, h2⟩ := q
      have vs : gI D2 o 2 = gI D1 o 2 := q3 o 2 n7
      have fd2 := q2 c2
      refine wp_rq (iR_11_2 h2) (wp_ix (in_rg (by decide : Rg 4 4 (4 : Int32)) (iA_12 h2) (by decide)) (wp_cqs (q_numberToPut k h2) (fun e D3 w => wp_if (fun _ => b256 w.2.2.2.2.2.2) (fun ce => ?_))))
      obtain ⟨w1, w2, w3, w4, w5, w6, h3⟩ := w
      have ce := Int32.le_iff_toInt_le.mp (nlt32 ce)
      have e0 : (0 : Int32).toInt = 0 := rfl
      have w4 : gI D3 o 2 = gI D2 o 2 := w4
      have w5 : gI D3 o 3 = gI D2 o 3 := w5
      have w2 : e.toInt < (gI D2 o 3).toInt := w2 (by show 0 ≤ e.toInt; omega)
      refine wp_rq (iR_11_1 h3) (wp_cqs (q_copyFoundTo k (by omega) (by rw [w5]; exact w2) ?_ h3) (fun _ D4 h4 => b256 h4))
      rw [w4, vs]
      obtain ⟨x, f1, f2, f3, f4, f5⟩ := fd2
      have w3 : gI D3 7 7 = gI D2 7 7 := w3
      have w6 : gR D3 7 6 = gR D2 7 6 := w6
      exact ⟨x, by rw [w6]; exact f1, f2, by rw [w3]; exact f3, by rw [w3]; exact f4, f5⟩
set_option maxRecDepth 100000 in
theorem s_X1_doJump_84 {g : gh} {S : sh}  {xs1 : Int32} {D : dt}  (h : Inv g S D) : wp (f_X1_doJump_84 S 11 xs1 D) (fun q => Rg 1 2 q.1 ∧ Inv g S q.2) := by
  unfold f_X1_doJump_84
  refine wp_cqs (s_X1_goTo h) (fun r45 D46 q_r45 => ?_)
  obtain ⟨h_r45, h_D46⟩ := q_r45
  exact ⟨_, rfl, (rg_w h_r45 (by decide)), h_D46⟩
set_option maxRecDepth 100000 in
theorem s_X1_doJump_60 {g : gh} {S : sh}  {x1 : Int32} {xs0 : Int32} {D : dt} (hx1 : Rg 0 199 x1) (hxs0 : Rg 0 1 xs0) (h3_x1 : Rg 0 10 (g.2 3 x1.toNatClampNeg)) (h4_x1 : Rg 0 10 (g.2 4 x1.toNatClampNeg)) (h : Inv g S D) : wp (f_X1_doJump_60 S 11 x1 xs0 D) (fun q => Rg 1 2 q.1 ∧ Inv g S q.2) := by
  unfold f_X1_doJump_60
  refine wp_if (fun c_1 => ?_) (fun c_1 => ?_)
  ·
    have h_2 : Rg 0 0 _ := rg_eq1 hxs0 rc_0 c_1 (by decide)
    exact s_X1_doJump_84 h
  ·
    have h_3 : Rg 1 1 _ := rg_ne1 hxs0 rc_0 c_1 (by decide)
    refine wp_rq (iR_11_0 h) ?_
    refine wp_pqs (s_X4_distance hx1 h) (fun r53 _ => ?_)
    exact s_X1_doJump_84 h
set_option maxRecDepth 100000 in
theorem s_X1_doJump_55 {g : gh} {S : sh}  {x1 : Int32} {D : dt} (hx1 : Rg 0 199 x1) (h3_x1 : Rg 0 10 (g.2 3 x1.toNatClampNeg)) (h4_x1 : Rg 0 10 (g.2 4 x1.toNatClampNeg)) (h : Inv g S D) : wp (f_X1_doJump_55 S 11 x1 D) (fun q => Rg 1 2 q.1 ∧ Inv g S q.2) := by
  unfold f_X1_doJump_55
  exact s_X1_doJump_60 hx1 (rg_w rc_1 (by decide)) h3_x1 h4_x1 h
set_option maxRecDepth 100000 in
theorem s_X1_doJump {g : gh} {S : sh}  {x1 : Int32} {D : dt} (hx1 : Rg 0 199 x1) (h3_x1 : Rg 0 10 (g.2 3 x1.toNatClampNeg)) (h4_x1 : Rg 0 10 (g.2 4 x1.toNatClampNeg)) (h : Inv g S D) : wp (f_X1_doJump S 11 x1 D) (fun q => Rg 1 2 q.1 ∧ Inv g S q.2) := by
  unfold f_X1_doJump
  refine wp_rq (iR_11_0 h) ?_
  refine wp_pqs (s_X4_code hx1 h) (fun r59 q_r59 => ?_)
  obtain ⟨h_r59, p_r59⟩ := q_r59
  refine wp_if (fun c_1 => ?_) (fun c_1 => ?_)
  ·
    have h_2 : Rg 9 9 _ := rg_eq1 h_r59 rc_9 c_1 (by decide)
    exact ⟨_, rfl, (rg_w rc_2 (by decide)), h⟩
  ·
    refine wp_if (fun c_3 => ?_) (fun c_3 => ?_)
    ·
      have h_4 : Rg 0 0 _ := rg_eq1 h_r59 rc_0 c_3 (by decide)
      exact s_X1_doJump_55 hx1 h3_x1 h4_x1 h
    ·
      have h_5 : Rg 1 15 _ := rg_ne1 h_r59 rc_0 c_3 (by decide)
      refine wp_rq (iR_11_0 h) ?_
      refine wp_pqs (s_X4_isWide hx1 h) (fun r67 h_r67 => ?_)
      refine wp_rq (iR_11_2 h) ?_
      refine wp_rq (iR_11_0 h) ?_
      refine wp_rq (iR_1_1 h) ?_
      refine wp_ix (in_rg hx1 (iA_3 h) (by decide)) ?_
      refine wp_ix (in_rg (rg_eq (h.p 3 _ rfl) h3_x1) (iA_12 h) (by decide)) ?_
      refine wp_pqs (s_X1_x hx1 h3_x1 h4_x1 h) (fun r83 _ => ?_)
      refine wp_pqs (s_X3_holds h_5 h_r67) (fun r85 h_r85 => ?_)
      refine wp_if (fun c_6 => ?_) (fun c_6 => ?_)
      ·
        have h_7 : Rg 0 0 _ := rg_eq1 h_r85 rc_0 c_6 (by decide)
        exact s_X1_doJump_60 hx1 (rg_w rc_0 (by decide)) h3_x1 h4_x1 h
      ·
        have h_8 : Rg 1 1 _ := rg_ne1 h_r85 rc_0 c_6 (by decide)
        exact s_X1_doJump_55 hx1 h3_x1 h4_x1 h
set_option maxRecDepth 100000 in
theorem s_X1_doSlot_145 {g : gh} {S : sh}  {x1 : Int32} {D : dt} (hx1 : Rg 0 199 x1) (h3_x1 : Rg 0 10 (g.2 3 x1.toNatClampNeg)) (h4_x1 : Rg 0 10 (g.2 4 x1.toNatClampNeg)) (h : Inv g S D) : wp (f_X1_doSlot_145 S 11 x1 D) (fun q => Rg 1 5 q.1 ∧ Inv g S q.2) := by
  unfold f_X1_doSlot_145
  refine wp_rq (iR_11_0 h) ?_
  refine wp_pqs (s_X4_code hx1 h) (fun r100 q_r100 => ?_)
  obtain ⟨h_r100, p_r100⟩ := q_r100
  refine wp_if (fun c_1 => ?_) (fun c_1 => ?_)
  ·
    have h_2 : Rg 8 8 _ := rg_eq1 h_r100 rc_8 c_1 (by decide)
    refine wp_rq (iR_11_0 h) ?_
    refine wp_rq (iR_1_4 h) ?_
    refine wp_ix (in_rg hx1 (iA_6 h) (by decide)) ?_
    refine wp_cqs (s_X1_doCall hx1 h3_x1 h4_x1 h) (fun r115 D116 q_r115 => ?_)
    obtain ⟨h_r115, h_D116⟩ := q_r115
    exact ⟨_, rfl, (rg_w h_r115 (by decide)), h_D116⟩
  ·
    refine wp_cqs (s_X1_doJump hx1 h3_x1 h4_x1 h) (fun r103 D104 q_r103 => ?_)
    obtain ⟨h_r103, h_D104⟩ := q_r103
    exact ⟨_, rfl, (rg_w h_r103 (by decide)), h_D104⟩
set_option maxRecDepth 100000 in
theorem s_X1_doSlot_139 {g : gh} {S : sh}  {x1 : Int32} {D : dt} (hx1 : Rg 0 199 x1) (h3_x1 : Rg 0 10 (g.2 3 x1.toNatClampNeg)) (h4_x1 : Rg 0 10 (g.2 4 x1.toNatClampNeg)) (h13 : (g.2 2 x1.toNatClampNeg >>> ((4 : Int32) &&& 31) = 13 → Rg 0 64 (g.2 6 x1.toNatClampNeg))) (h : Inv g S D) : wp (f_X1_doSlot_139 S 11 x1 D) (fun q => Rg 1 5 q.1 ∧ Inv g S q.2) := by
  unfold f_X1_doSlot_139
  refine wp_cqs (s_X1_doArithmetic hx1 h3_x1 h4_x1 (by first | exact h13 | exact (fun ne => absurd rfl ne)) h) (fun r118 D119 q_r118 => ?_)
  obtain ⟨h_r118, h_D119⟩ := q_r118
  exact ⟨_, rfl, (rg_w h_r118 (by decide)), h_D119⟩
set_option maxRecDepth 100000 in
theorem s_X1_doSlot {g : gh} {S : sh}  {x1 : Int32} {D : dt} (hx1 : Rg 0 199 x1) (h : Inv g S D) : wp (f_X1_doSlot S 11 x1 D) (fun q => Rg 1 5 q.1 ∧ Inv g S q.2) := by
  unfold f_X1_doSlot
  refine wp_rq (iR_11_0 h) ?_
  refine wp_pqs (s_X4_isBad hx1 h) (fun r125 q_r125 => ?_)
  obtain ⟨h_r125, x_r125, p_r125⟩ := q_r125
  refine wp_if (fun c_1 => ?_) (fun c_1 => ?_)
  ·
    have h_2 := x_r125 c_1
    have h_3 : Rg 0 0 _ := rg_eq1 h_r125 rc_0 c_1 (by decide)
    refine wp_rq (iR_11_0 h) ?_
    refine wp_rq (iR_1_0 h) ?_
    refine wp_ix (in_rg hx1 (iA_2 h) (by decide)) ?_
    refine wp_if (fun c_4 => ?_) (fun c_4 => ?_)
    ·
      have h_5 : Rg 0 0 _ := rg_eq1 (rg_andr _ (by decide) : Rg 0 7 _) rc_0 c_4 (by decide)
      refine wp_cqs (s_X1_doPair hx1 h_2.1 h_2.2 h) (fun r138 D139 q_r138 => ?_)
      obtain ⟨h_r138, h_D139⟩ := q_r138
      exact ⟨_, rfl, h_r138, h_D139⟩
    ·
      have h_6 : Rg 1 7 _ := rg_ne1 (rg_andr _ (by decide) : Rg 0 7 _) rc_0 c_4 (by decide)
      refine wp_if (fun c_7 => ?_) (fun c_7 => ?_)
      ·
        have h_8 : Rg 1 1 _ := rg_eq1 h_6 rc_1 c_7 (by decide)
        refine wp_cqs (s_X1_doLoad hx1 h_2.1 h_2.2 h) (fun r142 D143 q_r142 => ?_)
        obtain ⟨h_r142, h_D143⟩ := q_r142
        exact ⟨_, rfl, (rg_w h_r142 (by decide)), h_D143⟩
      ·
        have h_9 : Rg 2 7 _ := rg_ne1 h_6 rc_1 c_7 (by decide)
        refine wp_if (fun c_10 => ?_) (fun c_10 => ?_)
        ·
          have h_11 : Rg 2 2 _ := rg_eq1 h_9 rc_2 c_10 (by decide)
          refine wp_rq (iR_11_0 h) ?_
          refine wp_rq (iR_1_4 h) ?_
          refine wp_ix (in_rg hx1 (iA_6 h) (by decide)) ?_
          refine wp_cqs (s_X1_doPut hx1 h_2.1 h_2.2 h) (fun r155 D156 q_r155 => ?_)
          obtain ⟨h_r155, h_D156⟩ := q_r155
          exact ⟨_, rfl, (rg_w h_r155 (by decide)), h_D156⟩
        ·
          have h_12 : Rg 3 7 _ := rg_ne1 h_9 rc_2 c_10 (by decide)
          refine wp_if (fun c_13 => ?_) (fun c_13 => ?_)
          ·
            have h_14 : Rg 3 3 _ := rg_eq1 h_12 rc_3 c_13 (by decide)
            refine wp_rq (iR_11_0 h) ?_
            refine wp_pqs (s_X4_isPlainPut hx1 h) (fun r163 h_r163 => ?_)
            refine wp_if (fun c_15 => ?_) (fun c_15 => ?_)
            ·
              have h_16 : Rg 0 0 _ := rg_eq1 h_r163 rc_0 c_15 (by decide)
              refine wp_cqs (s_X1_doChange hx1 h_2.1 h_2.2 h) (fun r166 D167 q_r166 => ?_)
              obtain ⟨h_r166, h_D167⟩ := q_r166
              exact ⟨_, rfl, (rg_w h_r166 (by decide)), h_D167⟩
            ·
              have h_17 : Rg 1 1 _ := rg_ne1 h_r163 rc_0 c_15 (by decide)
              refine wp_rq (iR_11_2 h) ?_
              refine wp_rq (iR_11_0 h) ?_
              refine wp_rq (iR_1_2 h) ?_
              refine wp_ix (in_rg hx1 (iA_4 h) (by decide)) ?_
              refine wp_ix (in_rg (rg_eq (h.p 4 _ rfl) h_2.2) (iA_12 h) (by decide)) ?_
              refine wp_cqs (s_X1_doPut hx1 h_2.1 h_2.2 h) (fun r183 D184 q_r183 => ?_)
              obtain ⟨h_r183, h_D184⟩ := q_r183
              exact ⟨_, rfl, (rg_w h_r183 (by decide)), h_D184⟩
          ·
            have h_18 : Rg 4 7 _ := rg_ne1 h_12 rc_3 c_13 (by decide)
            refine wp_if (fun c_19 => ?_) (fun c_19 => ?_)
            ·
              have h_20 : Rg 4 4 _ := rg_eq1 h_18 rc_4 c_19 (by decide)
              exact s_X1_doSlot_139 hx1 h_2.1 h_2.2 (p_r125 c_1 (Or.inl ((congrArg (fun z => z &&& 7) (h.p 2 _ rfl)).symm.trans c_19))) h
            ·
              have h_21 : Rg 5 7 _ := rg_ne1 h_18 rc_4 c_19 (by decide)
              refine wp_if (fun c_22 => ?_) (fun c_22 => ?_)
              ·
                have h_23 : Rg 5 5 _ := rg_eq1 h_21 rc_5 c_22 (by decide)
                exact s_X1_doSlot_145 hx1 h_2.1 h_2.2 h
              ·
                have h_24 : Rg 6 7 _ := rg_ne1 h_21 rc_5 c_22 (by decide)
                refine wp_if (fun c_25 => ?_) (fun c_25 => ?_)
                ·
                  have h_26 : Rg 6 6 _ := rg_eq1 h_24 rc_6 c_25 (by decide)
                  exact s_X1_doSlot_145 hx1 h_2.1 h_2.2 h
                ·
                  have h_27 : Rg 7 7 _ := rg_ne1 h_24 rc_6 c_25 (by decide)
                  refine wp_if (fun c_28 => ?_) (fun c_28 => ?_)
                  ·
                    exact s_X1_doSlot_139 hx1 h_2.1 h_2.2 (p_r125 c_1 (Or.inr ((congrArg (fun z => z &&& 7) (h.p 2 _ rfl)).symm.trans c_28))) h
                  ·
                    have h_29 : Rg 8 6 _ := rg_ne1 h_27 rc_7 c_28 (by decide)
                    exact (rg_false h_29 (by decide)).elim
  ·
    have h_30 : Rg 1 1 _ := rg_ne1 h_r125 rc_0 c_1 (by decide)
    exact ⟨_, rfl, (rg_w rc_3 (by decide)), h⟩
set_option maxRecDepth 100000 in
theorem s_X1_advance_47 {g : gh} {S : sh}  {x1 : Int32} {D : dt} (hx1 : Rg 1 5 x1) (h : Inv g S D) : wp (f_X1_advance_47 S 11 x1 D) (fun q => Rg 1 5 q.1 ∧ Inv g S q.2) := by
  unfold f_X1_advance_47
  refine wp_nmI (fun D15 e_D15 => ?_)
  have h_D15 : Inv g S D15 := by rw [e_D15]; exact inv_i11 h (rg_top _)
  exact ⟨_, rfl, hx1, h_D15⟩
set_option maxRecDepth 100000 in
theorem s_X1_advance_37 {g : gh} {S : sh}  {x1 : Int32} {D : dt} (hx1 : Rg 1 2 x1) (h : Inv g S D) : wp (f_X1_advance_37 S 11 x1 D) (fun q => Rg 1 5 q.1 ∧ Inv g S q.2) := by
  unfold f_X1_advance_37
  refine wp_nmI (fun D16 e_D16 => ?_)
  have h_D16 : Inv g S D16 := by rw [e_D16]; exact inv_i11 h (rg_top _)
  exact s_X1_advance_47 (rg_w hx1 (by decide)) h_D16
set_option maxRecDepth 100000 in
theorem s_X1_advance_26 {g : gh} {S : sh}  {xs0 : Int32} {D : dt} (hxs0 : Rg 1 5 xs0) (h : Inv g S D) : wp (f_X1_advance_26 S 11 xs0 D) (fun q => Rg 1 5 q.1 ∧ Inv g S q.2) := by
  unfold f_X1_advance_26
  refine wp_if (fun c_1 => ?_) (fun c_1 => ?_)
  ·
    have h_2 : Rg 1 1 _ := rg_eq1 hxs0 rc_1 c_1 (by decide)
    exact s_X1_advance_37 (rg_w h_2 (by decide)) h
  ·
    have h_3 : Rg 2 5 _ := rg_ne1 hxs0 rc_1 c_1 (by decide)
    refine wp_if (fun c_4 => ?_) (fun c_4 => ?_)
    ·
      have h_5 : Rg 2 2 _ := rg_eq1 h_3 rc_2 c_4 (by decide)
      exact s_X1_advance_37 (rg_w h_5 (by decide)) h
    ·
      have h_6 : Rg 3 5 _ := rg_ne1 h_3 rc_2 c_4 (by decide)
      exact s_X1_advance_47 (rg_w h_6 (by decide)) h
set_option maxRecDepth 100000 in
theorem s_X1_advance {g : gh} {S : sh}   {D : dt}  (h : Inv g S D) : wp (f_X1_advance S 11 D) (fun q => Rg 1 5 q.1 ∧ Inv g S q.2) := by
  unfold f_X1_advance
  refine wp_rq (iR_11_0 h) ?_
  refine wp_pqs (s_X4_has h) (fun r24 q_r24 => ?_)
  obtain ⟨h_r24, x_r24⟩ := q_r24
  refine wp_if (fun c_1 => ?_) (fun c_1 => ?_)
  ·
    have h_2 : Rg 0 0 _ := rg_eq1 h_r24 rc_0 c_1 (by decide)
    exact s_X1_advance_26 (rg_w rc_5 (by decide)) h
  ·
    have h_3 := x_r24 c_1
    have h_4 : Rg 0 199 _ := rg_eq1 h_3 (rg_top _) rfl (by decide)
    have h_5 : Rg 1 1 _ := rg_ne1 h_r24 rc_0 c_1 (by decide)
    refine wp_cqs (s_X1_doSlot h_4 h) (fun r27 D28 q_r27 => ?_)
    obtain ⟨h_r27, h_D28⟩ := q_r27
    exact s_X1_advance_26 h_r27 h_D28
set_option maxRecDepth 100000 in
theorem s_X1_keptPut_19 {g : gh} {S : sh} {D : dt}    (h : Inv g S D) : wp (f_X1_keptPut_19 S D) (fun q => True) := by
  unfold f_X1_keptPut_19
  exact ⟨_, rfl, trivial⟩
theorem s_X1_keptPut {g : gh} {S : sh} {D : dt} {x1 : Int32} (h : Inv g S D) : wp (f_X1_keptPut S D 11 x1) (fun q => True) := by
  unfold f_X1_keptPut
  refine wp_nmI (fun y ey => wp_if (fun _ => ⟨_, rfl, trivial⟩) (fun c => wp_if (fun c2 => ?_) (fun _ => ⟨_, rfl, trivial⟩)))
  refine wp_rq (iR_11_3 h) (wp_ix ?_ ⟨_, rfl, trivial⟩)
  have c := Int32.le_iff_toInt_le.mp (nlt32 c)
  have c2 := Int32.lt_iff_toInt_lt.mp c2
  have e0 : (0 : Int32).toInt = 0 := rfl
  have p1 := i32_lo (gI D 11 4)
  have p2 := i32_hi (gI D 11 4)
  have ye : y.toInt ≤ 32 ∧ y.toInt ≤ (gI D 11 4).toInt := by
    rw [ey]
    split
    · rename_i q
      have := Int32.lt_iff_toInt_lt.mp q
      have e32 : (32 : Int32).toInt = 32 := rfl
      omega
    · rename_i q
      have := Int32.le_iff_toInt_le.mp (nlt32 q)
      have e32 : (32 : Int32).toInt = 32 := rfl
      omega
  have s1 : (gI D 11 4 - y).toInt = (gI D 11 4).toInt - y.toInt := i32_sub (a := (gI D 11 4).toInt) (b := (gI D 11 4).toInt) (c := y.toInt) (d := y.toInt) ⟨Int.le_refl _, Int.le_refl _⟩ ⟨Int.le_refl _, Int.le_refl _⟩ ⟨by omega, by omega⟩
  have s2 : (gI D 11 4 - y + x1).toInt = (gI D 11 4).toInt - y.toInt + x1.toInt := by
    rw [← s1]
    exact i32_add (a := (gI D 11 4 - y).toInt) (b := (gI D 11 4 - y).toInt) (c := x1.toInt) (d := x1.toInt) ⟨Int.le_refl _, Int.le_refl _⟩ ⟨Int.le_refl _, Int.le_refl _⟩ ⟨by omega, by omega⟩
  have r := rem32 (gI D 11 4 - y + x1)
  have b := Int.tmod_lt_of_pos (gI D 11 4 - y + x1).toInt (b := 32) (by decide)
  have b2 := Int.tmod_nonneg 32 (a := (gI D 11 4 - y + x1).toInt) (by omega)
  rw [vp_in_iff, r, iA_13 h]
  omega
set_option maxRecDepth 100000 in
theorem s_X6_first {g : gh} {S : sh}  {x1 : Int64} {x3 : Int64} {D : dt}  (h : Inv g S D) : wp (f_X6_first S 27 x1 x3 D) (fun q => Inv g S q.2) := by
  unfold f_X6_first
  refine wp_nmI (fun D3 e_D3 => ?_)
  have h_D3 : Inv g S D3 := by rw [e_D3]; exact inv_l27 h
  refine wp_nmI (fun D4 e_D4 => ?_)
  have h_D4 : Inv g S D4 := by rw [e_D4]; exact inv_l27 h_D3
  exact ⟨_, rfl, h_D4⟩
set_option maxRecDepth 100000 in
theorem s_X6_second {g : gh} {S : sh}  {x1 : Int64} {x3 : Int64} {D : dt}  (h : Inv g S D) : wp (f_X6_second S 27 x1 x3 D) (fun q => Inv g S q.2) := by
  unfold f_X6_second
  refine wp_nmI (fun D3 e_D3 => ?_)
  have h_D3 : Inv g S D3 := by rw [e_D3]; exact inv_l27 h
  refine wp_nmI (fun D4 e_D4 => ?_)
  have h_D4 : Inv g S D4 := by rw [e_D4]; exact inv_l27 h_D3
  exact ⟨_, rfl, h_D4⟩
set_option maxRecDepth 100000 in
theorem s_X6_become {g : gh} {S : sh}  {x1 : Int64} {x3 : Int64} {D : dt}  (h : Inv g S D) : wp (f_X6_become S 27 x1 x3 D) (fun q => Inv g S q.2) := by
  unfold f_X6_become
  refine wp_nmI (fun D3 e_D3 => ?_)
  have h_D3 : Inv g S D3 := by rw [e_D3]; exact inv_l27 h
  refine wp_nmI (fun D4 e_D4 => ?_)
  have h_D4 : Inv g S D4 := by rw [e_D4]; exact inv_l27 h_D3
  exact ⟨_, rfl, h_D4⟩
set_option maxRecDepth 100000 in
theorem s_X6_turn_50 {g : gh} {S : sh}  {xs1 : Int64} {xs2 : Int64} {D : dt} (hxs1 : RgL 0 0 xs1) (h : Inv g S D) : wp (f_X6_turn_50 S 27 xs1 xs2 D) (fun q => Inv g S q.2) := by
  unfold f_X6_turn_50
  refine wp_cqs (s_X6_become h) (fun _ D10 h_D10 => ?_)
  exact ⟨_, rfl, h_D10⟩
set_option maxRecDepth 100000 in
theorem s_X6_turn {g : gh} {S : sh}  {x1 : Int32} {x2 : Int32} {D : dt} (hx1 : Rg 0 64 x1) (hx2 : Rg 0 1 x2) (h : Inv g S D) : wp (f_X6_turn S 27 x1 x2 D) (fun q => Inv g S q.2) := by
  unfold f_X6_turn
  refine wp_if (fun c_1 => ?_) (fun c_1 => ?_)
  ·
    refine wp_pqs (s_X3_turn hx1 hx2) (fun r14 _ => ?_)
    refine wp_cqs (s_X6_become h) (fun _ D16 h_D16 => ?_)
    exact ⟨_, rfl, h_D16⟩
  ·
    refine wp_if (fun c_2 => ?_) (fun c_2 => ?_)
    ·
      have h_3 : Rg 64 64 _ := rg_eq1 hx1 rc_64 c_2 (by decide)
      exact s_X6_turn_50 rcl_0 h
    ·
      have h_4 : Rg 0 63 _ := rg_ne1 hx1 rc_64 c_2 (by decide)
      exact s_X6_turn_50 rcl_0 h
set_option maxRecDepth 100000 in
theorem s_X6_cutHalves_56 {g : gh} {S : sh}   {D : dt}  (h : Inv g S D) : wp (f_X6_cutHalves_56 S 27 D) (fun q => Inv g S q.2) := by
  unfold f_X6_cutHalves_56
  refine wp_if (fun c_1 => ?_) (fun c_1 => ?_)
  ·
    refine wp_cqs (s_X6_second h) (fun _ D24 h_D24 => ?_)
    exact ⟨_, rfl, h_D24⟩
  ·
    refine wp_pqs (s_X3_below ) (fun r19 h_r19 => ?_)
    refine wp_if (fun c_2 => ?_) (fun c_2 => ?_)
    ·
      have h_3 : Rg 0 0 _ := rg_eq1 h_r19 rc_0 c_2 (by decide)
      exact ⟨_, rfl, h⟩
    ·
      have h_4 : Rg 1 1 _ := rg_ne1 h_r19 rc_0 c_2 (by decide)
      refine wp_cqs (s_X6_second h) (fun _ D22 h_D22 => ?_)
      exact ⟨_, rfl, h_D22⟩
set_option maxRecDepth 100000 in
theorem s_X6_cutHalves {g : gh} {S : sh}   {D : dt}  (h : Inv g S D) : wp (f_X6_cutHalves S 27 D) (fun q => Inv g S q.2) := by
  unfold f_X6_cutHalves
  refine wp_if (fun c_1 => ?_) (fun c_1 => ?_)
  ·
    refine wp_cqs (s_X6_first h) (fun _ D32 h_D32 => ?_)
    exact s_X6_cutHalves_56 h_D32
  ·
    refine wp_pqs (s_X3_below ) (fun r27 h_r27 => ?_)
    refine wp_if (fun c_2 => ?_) (fun c_2 => ?_)
    ·
      have h_3 : Rg 0 0 _ := rg_eq1 h_r27 rc_0 c_2 (by decide)
      exact s_X6_cutHalves_56 h
    ·
      have h_4 : Rg 1 1 _ := rg_ne1 h_r27 rc_0 c_2 (by decide)
      refine wp_cqs (s_X6_first h) (fun _ D30 h_D30 => ?_)
      exact s_X6_cutHalves_56 h_D30
set_option maxRecDepth 100000 in
theorem s_X6_becomeAll {g : gh} {S : sh}   {D : dt}  (h : Inv g S D) : wp (f_X6_becomeAll S 27 D) (fun q => Inv g S q.2) := by
  unfold f_X6_becomeAll
  refine wp_nmI (fun D3 e_D3 => ?_)
  have h_D3 : Inv g S D3 := by rw [e_D3]; exact inv_l27 h
  refine wp_nmI (fun D4 e_D4 => ?_)
  have h_D4 : Inv g S D4 := by rw [e_D4]; exact inv_l27 h_D3
  exact ⟨_, rfl, h_D4⟩
set_option maxRecDepth 100000 in
theorem s_X6_makeDivided_33 {g : gh} {S : sh}   {D : dt}  (h : Inv g S D) : wp (f_X6_makeDivided_33 S 27 D) (fun q => Inv g S q.2) := by
  unfold f_X6_makeDivided_33
  refine wp_cqs (s_X6_become h) (fun _ D23 h_D23 => ?_)
  exact ⟨_, rfl, h_D23⟩
set_option maxRecDepth 100000 in
theorem s_X6_makeDivided {g : gh} {S : sh}  {x1 : Int32} {x2 : Int32} {D : dt} (hx1 : Rg 3 9 x1) (hx2 : Rg (-32768) 32767 x2) (h : Inv g S D) : wp (f_X6_makeDivided S 27 x1 x2 D) (fun q => Inv g S q.2) := by
  unfold f_X6_makeDivided
  refine wp_if (fun c_1 => ?_) (fun c_1 => ?_)
  ·
    have h_2 : Rg 1 1 _ := rg_eq1 hx2 rc_1 c_1 (by decide)
    refine wp_cqs (s_X6_becomeAll h) (fun _ D42 h_D42 => ?_)
    exact ⟨_, rfl, h_D42⟩
  ·
    refine wp_if (fun c_3 => ?_) (fun c_3 => ?_)
    ·
      refine wp_if (fun c_4 => ?_) (fun c_4 => ?_)
      ·
        have h_5 : RgL 0 0 _ := rgl_eq1 (rgl_top _) rcl_0 ((lg_cmp_eq _ _).mp c_4) (by decide)
        exact s_X6_makeDivided_33 h
      ·
        refine wp_if (fun c_6 => ?_) (fun c_6 => ?_)
        ·
          have h_7 : Rg 3 3 _ := rg_eq1 hx1 rc_3 c_6 (by decide)
          refine wp_pqs (s_X3_quotient ) (fun r36 _ => ?_)
          refine wp_pqs (s_X3_quotient ) (fun r38 _ => ?_)
          refine wp_cqs (s_X6_become h) (fun _ D40 h_D40 => ?_)
          exact ⟨_, rfl, h_D40⟩
        ·
          have h_8 : Rg 4 9 _ := rg_ne1 hx1 rc_3 c_6 (by decide)
          refine wp_pqs (s_X3_below ) (fun r29 h_r29 => ?_)
          refine wp_if (fun c_9 => ?_) (fun c_9 => ?_)
          ·
            have h_10 : Rg 0 0 _ := rg_eq1 h_r29 rc_0 c_9 (by decide)
            refine wp_cqs (s_X6_become h) (fun _ D32 h_D32 => ?_)
            exact ⟨_, rfl, h_D32⟩
          ·
            have h_11 : Rg 1 1 _ := rg_ne1 h_r29 rc_0 c_9 (by decide)
            refine wp_cqs (s_X6_become h) (fun _ D34 h_D34 => ?_)
            exact ⟨_, rfl, h_D34⟩
    ·
      exact s_X6_makeDivided_33 h
set_option maxRecDepth 100000 in
theorem s_X6_makeShifted_90 {g : gh} {S : sh}   {D : dt}  (h : Inv g S D) : wp (f_X6_makeShifted_90 S D) (fun q => Inv g S q.2) := by
  unfold f_X6_makeShifted_90
  exact ⟨_, rfl, h⟩
set_option maxRecDepth 100000 in
theorem s_X6_makeShifted_86 {g : gh} {S : sh}   {D : dt}  (h : Inv g S D) : wp (f_X6_makeShifted_86 S 27 D) (fun q => Inv g S q.2) := by
  unfold f_X6_makeShifted_86
  refine wp_cqs (s_X6_becomeAll h) (fun _ D26 h_D26 => ?_)
  exact s_X6_makeShifted_90 h_D26
set_option maxRecDepth 100000 in
theorem s_X6_makeShifted_122 {g : gh} {S : sh}  {x3 : Int64} {D : dt}  (h : Inv g S D) : wp (f_X6_makeShifted_122 S 27 x3 D) (fun q => Inv g S q.2) := by
  unfold f_X6_makeShifted_122
  refine wp_if (fun c_1 => ?_) (fun c_1 => ?_)
  ·
    refine wp_cqs (s_X6_become h) (fun _ D31 h_D31 => ?_)
    exact ⟨_, rfl, h_D31⟩
  ·
    refine wp_cqs (s_X6_become h) (fun _ D29 h_D29 => ?_)
    exact ⟨_, rfl, h_D29⟩
set_option maxRecDepth 100000 in
theorem s_X6_makeShifted_15 {g : gh} {S : sh}  {x1 : Int32} {xs0 : Int64} {xs1 : Int32} {D : dt} (hx1 : Rg 6 12 x1) (hxs1 : Rg 31 63 xs1) (h : Inv g S D) : wp (f_X6_makeShifted_15 S 27 x1 xs0 xs1 D) (fun q => Inv g S q.2) := by
  unfold f_X6_makeShifted_15
  refine wp_nmI (fun y32 e_y32 => ?_)
  refine wp_if (fun c_1 => ?_) (fun c_1 => ?_)
  ·
    have h_2 : Rg 6 6 _ := rg_eq1 hx1 rc_6 c_1 (by decide)
    refine wp_nmI (fun y40 e_y40 => ?_)
    refine wp_if (fun c_3 => ?_) (fun c_3 => ?_)
    ·
      refine wp_if (fun c_4 => ?_) (fun c_4 => ?_)
      ·
        refine wp_pqs (s_X3_below ) (fun r44 h_r44 => ?_)
        refine wp_if (fun c_5 => ?_) (fun c_5 => ?_)
        ·
          have h_6 : Rg 0 0 _ := rg_eq1 h_r44 rc_0 c_5 (by decide)
          refine wp_cqs (s_X6_become h) (fun _ D47 h_D47 => ?_)
          exact s_X6_makeShifted_90 h_D47
        ·
          have h_7 : Rg 1 1 _ := rg_ne1 h_r44 rc_0 c_5 (by decide)
          exact s_X6_makeShifted_86 h
      ·
        exact s_X6_makeShifted_86 h
    ·
      exact s_X6_makeShifted_86 h
  ·
    have h_8 : Rg 7 12 _ := rg_ne1 hx1 rc_6 c_1 (by decide)
    refine wp_if (fun c_9 => ?_) (fun c_9 => ?_)
    ·
      have h_10 : Rg 12 12 _ := rg_eq1 h_8 rc_12 c_9 (by decide)
      refine wp_pqs (s_X3_below ) (fun r36 h_r36 => ?_)
      refine wp_if (fun c_11 => ?_) (fun c_11 => ?_)
      ·
        have h_12 : Rg 0 0 _ := rg_eq1 h_r36 rc_0 c_11 (by decide)
        exact s_X6_makeShifted_122 h
      ·
        have h_13 : Rg 1 1 _ := rg_ne1 h_r36 rc_0 c_11 (by decide)
        refine wp_cqs (s_X6_becomeAll h) (fun _ D39 h_D39 => ?_)
        exact ⟨_, rfl, h_D39⟩
    ·
      have h_14 : Rg 7 11 _ := rg_ne1 h_8 rc_12 c_9 (by decide)
      exact s_X6_makeShifted_122 h
set_option maxRecDepth 100000 in
theorem s_X6_makeShifted {g : gh} {S : sh}  {x1 : Int32} {x2 : Int32} {D : dt} (hx1 : Rg 6 12 x1) (hx2 : Rg 0 1 x2) (h : Inv g S D) : wp (f_X6_makeShifted S 27 x1 x2 D) (fun q => Inv g S q.2) := by
  unfold f_X6_makeShifted
  refine wp_if (fun c_1 => ?_) (fun c_1 => ?_)
  ·
    have h_2 : Rg 0 0 _ := rg_eq1 hx2 rc_0 c_1 (by decide)
    exact s_X6_makeShifted_15 hx1 (rg_w rc_31 (by decide)) h
  ·
    have h_3 : Rg 1 1 _ := rg_ne1 hx2 rc_0 c_1 (by decide)
    exact s_X6_makeShifted_15 hx1 (rg_w rc_63 (by decide)) h
theorem q_onesFor_5 : ∀ (n : Nat) (x2 : Int64) (x4 : Int32), Rg 1 126 x4 → 126 - x4.toInt < n → wp (f_X6_onesFor_5 n x2 x4) (fun _ => True) := by
  intro n
  induction n with
  | zero =>
    intro x2 x4 hx hm
    exact (ms_0 hx (by decide) hm).elim
  | succ n ih =>
    intro x2 x4 hx hm
    rw [f_X6_onesFor_5.eq_2]
    refine wp_if (fun _ => ⟨_, rfl, trivial⟩) (fun c => wp_nmI (fun y _ => wp_nmI (fun z ez => ?_)))
    have hx' : Rg 1 63 x4 := rg_lt1 hx (by decide : Rg 64 64 (64 : Int32)) (nle32 c) (by decide)
    have e : z.toInt = x4.toInt * 2 := by
      rw [ez, Int32.toInt_mul, show (2 : Int32).toInt = 2 from rfl]
      have := hx'.1
      have := hx'.2
      exact bm32 (by omega) (by omega)
    have a := hx'.1
    have b := hx'.2
    exact ih y z ⟨by omega, by omega⟩ (by omega)
theorem s_X6_onesFor {x0 : Int64} : wp (f_X6_onesFor x0) (fun q => True) := by
  unfold f_X6_onesFor
  refine wp_nmI (fun y ey => ?_)
  subst ey
  exact q_onesFor_5 LF x0 1 (by decide) (by decide)
set_option maxRecDepth 100000 in
theorem s_X6_makeOther_315 {g : gh} {S : sh}  {x3 : Int64} {xs1 : Int64} {D : dt}  (h : Inv g S D) : wp (f_X6_makeOther_315 S x3 27 xs1 D) (fun q => Inv g S q.2) := by
  unfold f_X6_makeOther_315
  refine wp_pqs (s_X6_onesFor ) (fun r70 _ => ?_)
  refine wp_cqs (s_X6_become h) (fun _ D72 h_D72 => ?_)
  exact ⟨_, rfl, h_D72⟩
set_option maxRecDepth 100000 in
theorem s_X6_makeOther_148 {g : gh} {S : sh}   {D : dt}  (h : Inv g S D) : wp (f_X6_makeOther_148 S 27 D) (fun q => Inv g S q.2) := by
  unfold f_X6_makeOther_148
  refine wp_cqs (s_X6_becomeAll h) (fun _ D74 h_D74 => ?_)
  exact ⟨_, rfl, h_D74⟩
set_option maxRecDepth 100000 in
theorem s_X6_makeOther_375 {g : gh} {S : sh}   {D : dt}  (h : Inv g S D) : wp (f_X6_makeOther_375 S 27 D) (fun q => Inv g S q.2) := by
  unfold f_X6_makeOther_375
  refine wp_cqs (s_X6_becomeAll h) (fun _ D76 h_D76 => ?_)
  exact ⟨_, rfl, h_D76⟩
set_option maxRecDepth 100000 in
theorem s_X6_makeOther_249 {g : gh} {S : sh}   {D : dt}  (h : Inv g S D) : wp (f_X6_makeOther_249 S 27 D) (fun q => Inv g S q.2) := by
  unfold f_X6_makeOther_249
  refine wp_cqs (s_X6_becomeAll h) (fun _ D78 h_D78 => ?_)
  exact ⟨_, rfl, h_D78⟩
set_option maxRecDepth 100000 in
theorem s_X6_makeOther_283 {g : gh} {S : sh}  {xs1 : Int64} {xs2 : Int64} {D : dt} (hxs1 : RgL 0 0 xs1) (h : Inv g S D) : wp (f_X6_makeOther_283 S 27 xs1 xs2 D) (fun q => Inv g S q.2) := by
  unfold f_X6_makeOther_283
  refine wp_cqs (s_X6_become h) (fun _ D80 h_D80 => ?_)
  exact ⟨_, rfl, h_D80⟩
set_option maxRecDepth 100000 in
theorem s_X6_makeOther_25 {g : gh} {S : sh}  {x1 : Int32} {x2 : Int32} {xs0 : Int64} {D : dt} (hx1 : Rg 0 15 x1) (hx2 : Rg (-32768) 32767 x2) (h : Inv g S D) : wp (f_X6_makeOther_25 S 27 x1 x2 xs0 D) (fun q => Inv g S q.2) := by
  unfold f_X6_makeOther_25
  refine wp_if (fun c_1 => ?_) (fun c_1 => ?_)
  ·
    have h_2 : Rg 0 0 _ := rg_eq1 hx1 rc_0 c_1 (by decide)
    refine wp_cqs (s_X6_become h) (fun _ D83 h_D83 => ?_)
    refine wp_pqs (s_X3_below ) (fun r85 h_r85 => ?_)
    refine wp_if (fun c_3 => ?_) (fun c_3 => ?_)
    ·
      have h_4 : Rg 0 0 _ := rg_eq1 h_r85 rc_0 c_3 (by decide)
      refine wp_pqs (s_X3_below ) (fun r88 h_r88 => ?_)
      refine wp_if (fun c_5 => ?_) (fun c_5 => ?_)
      ·
        have h_6 : Rg 0 0 _ := rg_eq1 h_r88 rc_0 c_5 (by decide)
        exact ⟨_, rfl, h_D83⟩
      ·
        have h_7 : Rg 1 1 _ := rg_ne1 h_r88 rc_0 c_5 (by decide)
        exact s_X6_makeOther_148 h_D83
    ·
      have h_8 : Rg 1 1 _ := rg_ne1 h_r85 rc_0 c_3 (by decide)
      exact s_X6_makeOther_148 h_D83
  ·
    have h_9 : Rg 1 15 _ := rg_ne1 hx1 rc_0 c_1 (by decide)
    refine wp_if (fun c_10 => ?_) (fun c_10 => ?_)
    ·
      have h_11 : Rg 1 1 _ := rg_eq1 h_9 rc_1 c_10 (by decide)
      refine wp_cqs (s_X6_become h) (fun _ D92 h_D92 => ?_)
      refine wp_pqs (s_X3_below ) (fun r94 h_r94 => ?_)
      refine wp_if (fun c_12 => ?_) (fun c_12 => ?_)
      ·
        have h_13 : Rg 0 0 _ := rg_eq1 h_r94 rc_0 c_12 (by decide)
        exact ⟨_, rfl, h_D92⟩
      ·
        have h_14 : Rg 1 1 _ := rg_ne1 h_r94 rc_0 c_12 (by decide)
        refine wp_cqs (s_X6_becomeAll h_D92) (fun _ D97 h_D97 => ?_)
        exact ⟨_, rfl, h_D97⟩
    ·
      have h_15 : Rg 2 15 _ := rg_ne1 h_9 rc_1 c_10 (by decide)
      refine wp_if (fun c_16 => ?_) (fun c_16 => ?_)
      ·
        have h_17 : Rg 2 2 _ := rg_eq1 h_15 rc_2 c_16 (by decide)
        refine wp_cqs (s_X6_become h) (fun _ D100 h_D100 => ?_)
        refine wp_pqs (s_X3_below ) (fun r102 h_r102 => ?_)
        refine wp_if (fun c_18 => ?_) (fun c_18 => ?_)
        ·
          have h_19 : Rg 0 0 _ := rg_eq1 h_r102 rc_0 c_18 (by decide)
          refine wp_pqs (s_X3_below ) (fun r105 h_r105 => ?_)
          refine wp_if (fun c_20 => ?_) (fun c_20 => ?_)
          ·
            have h_21 : Rg 0 0 _ := rg_eq1 h_r105 rc_0 c_20 (by decide)
            exact ⟨_, rfl, h_D100⟩
          ·
            have h_22 : Rg 1 1 _ := rg_ne1 h_r105 rc_0 c_20 (by decide)
            exact s_X6_makeOther_249 h_D100
        ·
          have h_23 : Rg 1 1 _ := rg_ne1 h_r102 rc_0 c_18 (by decide)
          exact s_X6_makeOther_249 h_D100
      ·
        have h_24 : Rg 3 15 _ := rg_ne1 h_15 rc_2 c_16 (by decide)
        refine wp_if (fun c_25 => ?_) (fun c_25 => ?_)
        ·
          have h_26 : Rg 3 3 _ := rg_eq1 h_24 rc_3 c_25 (by decide)
          exact s_X6_makeOther_375 h
        ·
          have h_27 : Rg 4 15 _ := rg_ne1 h_24 rc_3 c_25 (by decide)
          refine wp_if (fun c_28 => ?_) (fun c_28 => ?_)
          ·
            have h_29 : Rg 4 4 _ := rg_eq1 h_27 rc_4 c_28 (by decide)
            refine wp_pqs (s_X3_below ) (fun r110 h_r110 => ?_)
            refine wp_if (fun c_30 => ?_) (fun c_30 => ?_)
            ·
              have h_31 : Rg 0 0 _ := rg_eq1 h_r110 rc_0 c_30 (by decide)
              exact s_X6_makeOther_315 h
            ·
              have h_32 : Rg 1 1 _ := rg_ne1 h_r110 rc_0 c_30 (by decide)
              exact s_X6_makeOther_315 h
          ·
            have h_33 : Rg 5 15 _ := rg_ne1 h_27 rc_4 c_28 (by decide)
            refine wp_if (fun c_34 => ?_) (fun c_34 => ?_)
            ·
              have h_35 : Rg 5 5 _ := rg_eq1 h_33 rc_5 c_34 (by decide)
              refine wp_pqs (s_X3_below ) (fun r114 h_r114 => ?_)
              refine wp_if (fun c_36 => ?_) (fun c_36 => ?_)
              ·
                have h_37 : Rg 0 0 _ := rg_eq1 h_r114 rc_0 c_36 (by decide)
                exact s_X6_makeOther_283 rcl_0 h
              ·
                have h_38 : Rg 1 1 _ := rg_ne1 h_r114 rc_0 c_36 (by decide)
                exact s_X6_makeOther_283 rcl_0 h
            ·
              have h_39 : Rg 6 15 _ := rg_ne1 h_33 rc_5 c_34 (by decide)
              refine wp_if (fun c_40 => ?_) (fun c_40 => ?_)
              ·
                have h_41 : Rg 6 6 _ := rg_eq1 h_39 rc_6 c_40 (by decide)
                exact s_X6_makeOther_375 h
              ·
                have h_42 : Rg 7 15 _ := rg_ne1 h_39 rc_6 c_40 (by decide)
                refine wp_if (fun c_43 => ?_) (fun c_43 => ?_)
                ·
                  have h_44 : Rg 7 7 _ := rg_eq1 h_42 rc_7 c_43 (by decide)
                  exact s_X6_makeOther_375 h
                ·
                  have h_45 : Rg 8 15 _ := rg_ne1 h_42 rc_7 c_43 (by decide)
                  refine wp_if (fun c_46 => ?_) (fun c_46 => ?_)
                  ·
                    have h_47 : Rg 8 8 _ := rg_eq1 h_45 rc_8 c_46 (by decide)
                    exact s_X6_makeOther_375 h
                  ·
                    have h_48 : Rg 9 15 _ := rg_ne1 h_45 rc_8 c_46 (by decide)
                    refine wp_if (fun c_49 => ?_) (fun c_49 => ?_)
                    ·
                      have h_50 : Rg 9 9 _ := rg_eq1 h_48 rc_9 c_49 (by decide)
                      exact s_X6_makeOther_375 h
                    ·
                      have h_51 : Rg 10 15 _ := rg_ne1 h_48 rc_9 c_49 (by decide)
                      refine wp_if (fun c_52 => ?_) (fun c_52 => ?_)
                      ·
                        have h_53 : Rg 10 10 _ := rg_eq1 h_51 rc_10 c_52 (by decide)
                        refine wp_pqs (s_X6_onesFor ) (fun r122 _ => ?_)
                        refine wp_cqs (s_X6_become h) (fun _ D124 h_D124 => ?_)
                        exact ⟨_, rfl, h_D124⟩
                      ·
                        have h_54 : Rg 11 15 _ := rg_ne1 h_51 rc_10 c_52 (by decide)
                        refine wp_if (fun c_55 => ?_) (fun c_55 => ?_)
                        ·
                          have h_56 : Rg 11 11 _ := rg_eq1 h_54 rc_11 c_55 (by decide)
                          refine wp_cqs (s_X6_become h) (fun _ D127 h_D127 => ?_)
                          refine wp_if (fun c_57 => ?_) (fun c_57 => ?_)
                          ·
                            have h_58 : Rg 0 0 _ := rg_eq1 hx2 rc_0 c_57 (by decide)
                            exact ⟨_, rfl, h_D127⟩
                          ·
                            refine wp_pqs (s_X3_below ) (fun r130 h_r130 => ?_)
                            refine wp_if (fun c_59 => ?_) (fun c_59 => ?_)
                            ·
                              have h_60 : Rg 0 0 _ := rg_eq1 h_r130 rc_0 c_59 (by decide)
                              refine wp_cqs (s_X6_becomeAll h_D127) (fun _ D133 h_D133 => ?_)
                              exact ⟨_, rfl, h_D133⟩
                            ·
                              have h_61 : Rg 1 1 _ := rg_ne1 h_r130 rc_0 c_59 (by decide)
                              exact ⟨_, rfl, h_D127⟩
                        ·
                          have h_62 : Rg 12 15 _ := rg_ne1 h_54 rc_11 c_55 (by decide)
                          exact s_X6_makeOther_375 h
set_option maxRecDepth 100000 in
theorem s_X6_makeOther {g : gh} {S : sh}  {x1 : Int32} {x2 : Int32} {D : dt} (hx1 : Rg 0 15 x1) (hx2 : Rg (-32768) 32767 x2) (h : Inv g S D) : wp (f_X6_makeOther S 27 x1 x2 D) (fun q => Inv g S q.2) := by
  unfold f_X6_makeOther
  refine wp_pqs (s_X3_below ) (fun r135 h_r135 => ?_)
  refine wp_if (fun c_1 => ?_) (fun c_1 => ?_)
  ·
    have h_2 : Rg 0 0 _ := rg_eq1 h_r135 rc_0 c_1 (by decide)
    exact s_X6_makeOther_25 hx1 hx2 h
  ·
    have h_3 : Rg 1 1 _ := rg_ne1 h_r135 rc_0 c_1 (by decide)
    exact s_X6_makeOther_25 hx1 hx2 h
set_option maxRecDepth 100000 in
theorem s_X6_make_114 {g : gh} {S : sh}  {x1 : Int32} {x2 : Int32} {D : dt} (hx1 : Rg 6 12 x1) (hx2 : Rg 0 1 x2) (h : Inv g S D) : wp (f_X6_make_114 S 27 x1 x2 D) (fun q => Inv g S q.2) := by
  unfold f_X6_make_114
  refine wp_cqs (s_X6_makeShifted hx1 hx2 h) (fun _ D24 h_D24 => ?_)
  exact ⟨_, rfl, h_D24⟩
set_option maxRecDepth 100000 in
theorem s_X6_make_87 {g : gh} {S : sh}  {x1 : Int32} {x3 : Int32} {D : dt} (hx1 : Rg 3 9 x1) (hx3 : Rg (-32768) 32767 x3) (h : Inv g S D) : wp (f_X6_make_87 S 27 x1 x3 D) (fun q => Inv g S q.2) := by
  unfold f_X6_make_87
  refine wp_cqs (s_X6_makeDivided hx1 hx3 h) (fun _ D26 h_D26 => ?_)
  exact ⟨_, rfl, h_D26⟩
set_option maxRecDepth 100000 in
theorem s_X6_make_76 {g : gh} {S : sh}  {x1 : Int32} {x2 : Int32} {x3 : Int32} {D : dt} (hx1 : Rg 0 15 x1) (hx2 : Rg 0 1 x2) (hx3 : Rg (-32768) 32767 x3) (h : Inv g S D) : wp (f_X6_make_76 S 27 x1 x2 x3 D) (fun q => Inv g S q.2) := by
  unfold f_X6_make_76
  refine wp_if (fun c_1 => ?_) (fun c_1 => ?_)
  ·
    have h_2 : Rg 3 3 _ := rg_eq1 hx1 rc_3 c_1 (by decide)
    exact s_X6_make_87 (rg_w h_2 (by decide)) hx3 h
  ·
    refine wp_if (fun c_3 => ?_) (fun c_3 => ?_)
    ·
      have h_4 : Rg 9 9 _ := rg_eq1 hx1 rc_9 c_3 (by decide)
      exact s_X6_make_87 (rg_w h_4 (by decide)) hx3 h
    ·
      refine wp_if (fun c_5 => ?_) (fun c_5 => ?_)
      ·
        have h_6 : Rg 6 6 _ := rg_eq1 hx1 rc_6 c_5 (by decide)
        exact s_X6_make_114 (rg_w h_6 (by decide)) hx2 h
      ·
        refine wp_if (fun c_7 => ?_) (fun c_7 => ?_)
        ·
          have h_8 : Rg 7 7 _ := rg_eq1 hx1 rc_7 c_7 (by decide)
          exact s_X6_make_114 (rg_w h_8 (by decide)) hx2 h
        ·
          refine wp_if (fun c_9 => ?_) (fun c_9 => ?_)
          ·
            have h_10 : Rg 12 12 _ := rg_eq1 hx1 rc_12 c_9 (by decide)
            exact s_X6_make_114 (rg_w h_10 (by decide)) hx2 h
          ·
            refine wp_cqs (s_X6_makeOther hx1 hx3 h) (fun _ D33 h_D33 => ?_)
            exact ⟨_, rfl, h_D33⟩
set_option maxRecDepth 100000 in
theorem s_X6_make_25 {g : gh} {S : sh}  {x1 : Int32} {x2 : Int32} {x3 : Int32} {D : dt} (hx1 : Rg 0 15 x1) (hx2 : Rg 0 1 x2) (hx3 : Rg (-32768) 32767 x3) (h : Inv g S D) : wp (f_X6_make_25 S 27 x1 x2 x3 D) (fun q => Inv g S q.2) := by
  unfold f_X6_make_25
  refine wp_if (fun c_1 => ?_) (fun c_1 => ?_)
  ·
    refine wp_if (fun c_2 => ?_) (fun c_2 => ?_)
    ·
      refine wp_pqs (s_X3_make (rg_w hx1 (by decide)) hx2 hx3) (fun r37 _ => ?_)
      refine wp_cqs (s_X6_become h) (fun _ D39 h_D39 => ?_)
      exact ⟨_, rfl, h_D39⟩
    ·
      exact s_X6_make_76 hx1 hx2 hx3 h
  ·
    exact s_X6_make_76 hx1 hx2 hx3 h
set_option maxRecDepth 100000 in
theorem s_X6_make_14 {g : gh} {S : sh}  {x1 : Int32} {x2 : Int32} {x3 : Int32} {xs1 : Int64} {D : dt} (hx1 : Rg 0 15 x1) (hx2 : Rg 0 1 x2) (hx3 : Rg (-32768) 32767 x3) (hxs1 : RgL (-1) 4294967295 xs1) (h : Inv g S D) : wp (f_X6_make_14 S 27 x1 x2 x3 27 xs1 D) (fun q => Inv g S q.2) := by
  unfold f_X6_make_14
  refine wp_nmI (fun D40 e_D40 => ?_)
  have h_D40 : Inv g S D40 := by rw [e_D40]; exact inv_l27 h
  refine wp_if (fun c_1 => ?_) (fun c_1 => ?_)
  ·
    have h_2 : Rg 0 0 _ := rg_eq1 hx2 rc_0 c_1 (by decide)
    refine wp_cqs (s_X6_cutHalves h_D40) (fun _ D43 h_D43 => ?_)
    exact s_X6_make_25 hx1 (rg_w h_2 (by decide)) hx3 h_D43
  ·
    have h_3 : Rg 1 1 _ := rg_ne1 hx2 rc_0 c_1 (by decide)
    exact s_X6_make_25 hx1 (rg_w h_3 (by decide)) hx3 h_D40
set_option maxRecDepth 100000 in
theorem s_X6_make {g : gh} {S : sh}  {x1 : Int32} {x2 : Int32} {x3 : Int32} {D : dt} (hx1 : Rg 0 15 x1) (hx2 : Rg 0 1 x2) (hx3 : Rg (-32768) 32767 x3) (h : Inv g S D) : wp (f_X6_make S 27 x1 x2 x3 D) (fun q => Inv g S q.2) := by
  unfold f_X6_make
  refine wp_if (fun c_1 => ?_) (fun c_1 => ?_)
  ·
    have h_2 : Rg 0 0 _ := rg_eq1 hx2 rc_0 c_1 (by decide)
    exact s_X6_make_14 hx1 (rg_w h_2 (by decide)) hx3 (rgl_w rcl_4294967295 (by decide)) h
  ·
    have h_3 : Rg 1 1 _ := rg_ne1 hx2 rc_0 c_1 (by decide)
    exact s_X6_make_14 hx1 (rg_w h_3 (by decide)) hx3 (rgl_w rcl_m1 (by decide)) h
set_option maxRecDepth 100000 in
theorem s_X6_takeAway {g : gh} {S : sh}  {x1 : Int64} {D : dt}  (h : Inv g S D) : wp (f_X6_takeAway S 27 x1 D) (fun q => Rg 0 1 q.1 ∧ Inv g S q.2) := by
  unfold f_X6_takeAway
  refine wp_if (fun c_1 => ?_) (fun c_1 => ?_)
  ·
    refine wp_if (fun c_2 => ?_) (fun c_2 => ?_)
    ·
      exact ⟨_, rfl, (rg_w rc_0 (by decide)), h⟩
    ·
      exact ⟨_, rfl, (rg_w rc_1 (by decide)), h⟩
  ·
    refine wp_if (fun c_3 => ?_) (fun c_3 => ?_)
    ·
      refine wp_nmI (fun D11 e_D11 => ?_)
      have h_D11 : Inv g S D11 := by rw [e_D11]; exact inv_l27 h
      exact ⟨_, rfl, (rg_w rc_1 (by decide)), h_D11⟩
    ·
      refine wp_if (fun c_4 => ?_) (fun c_4 => ?_)
      ·
        refine wp_nmI (fun D10 e_D10 => ?_)
        have h_D10 : Inv g S D10 := by rw [e_D10]; exact inv_l27 h
        exact ⟨_, rfl, (rg_w rc_1 (by decide)), h_D10⟩
      ·
        exact ⟨_, rfl, (rg_w rc_1 (by decide)), h⟩
set_option maxRecDepth 100000 in
theorem s_X6_narrow_236 {g : gh} {S : sh}  {x2 : Int64} {xs1 : Int64} {D : dt}  (h : Inv g S D) : wp (f_X6_narrow_236 S 27 x2 27 xs1 D) (fun q => Rg 0 1 q.1 ∧ Inv g S q.2) := by
  unfold f_X6_narrow_236
  refine wp_nmI (fun D53 e_D53 => ?_)
  have h_D53 : Inv g S D53 := by rw [e_D53]; exact inv_l27 h
  refine wp_pqs (s_X3_below ) (fun r55 h_r55 => ?_)
  refine wp_if (fun c_1 => ?_) (fun c_1 => ?_)
  ·
    have h_2 : Rg 0 0 _ := rg_eq1 h_r55 rc_0 c_1 (by decide)
    exact ⟨_, rfl, (rg_w rc_1 (by decide)), h_D53⟩
  ·
    have h_3 : Rg 1 1 _ := rg_ne1 h_r55 rc_0 c_1 (by decide)
    exact ⟨_, rfl, (rg_w rc_0 (by decide)), h_D53⟩
set_option maxRecDepth 100000 in
theorem s_X6_narrow_216 {g : gh} {S : sh}  {x2 : Int64} {D : dt}  (h : Inv g S D) : wp (f_X6_narrow_216 S 27 x2 D) (fun q => Rg 0 1 q.1 ∧ Inv g S q.2) := by
  unfold f_X6_narrow_216
  refine wp_pqs (s_X3_below ) (fun r58 h_r58 => ?_)
  refine wp_if (fun c_1 => ?_) (fun c_1 => ?_)
  ·
    have h_2 : Rg 0 0 _ := rg_eq1 h_r58 rc_0 c_1 (by decide)
    exact s_X6_narrow_236 h
  ·
    have h_3 : Rg 1 1 _ := rg_ne1 h_r58 rc_0 c_1 (by decide)
    exact s_X6_narrow_236 h
set_option maxRecDepth 100000 in
theorem s_X6_narrow_162 {g : gh} {S : sh}  {x2 : Int64} {xs1 : Int64} {D : dt}  (h : Inv g S D) : wp (f_X6_narrow_162 S 27 x2 27 xs1 D) (fun q => Rg 0 1 q.1 ∧ Inv g S q.2) := by
  unfold f_X6_narrow_162
  refine wp_nmI (fun D60 e_D60 => ?_)
  have h_D60 : Inv g S D60 := by rw [e_D60]; exact inv_l27 h
  refine wp_pqs (s_X3_below ) (fun r62 h_r62 => ?_)
  refine wp_if (fun c_1 => ?_) (fun c_1 => ?_)
  ·
    have h_2 : Rg 0 0 _ := rg_eq1 h_r62 rc_0 c_1 (by decide)
    exact ⟨_, rfl, (rg_w rc_1 (by decide)), h_D60⟩
  ·
    have h_3 : Rg 1 1 _ := rg_ne1 h_r62 rc_0 c_1 (by decide)
    exact ⟨_, rfl, (rg_w rc_0 (by decide)), h_D60⟩
set_option maxRecDepth 100000 in
theorem s_X6_narrow_204 {g : gh} {S : sh}  {x2 : Int64} {xs1 : Int64} {D : dt}  (h : Inv g S D) : wp (f_X6_narrow_204 S 27 x2 27 xs1 D) (fun q => Rg 0 1 q.1 ∧ Inv g S q.2) := by
  unfold f_X6_narrow_204
  refine wp_nmI (fun D64 e_D64 => ?_)
  have h_D64 : Inv g S D64 := by rw [e_D64]; exact inv_l27 h
  refine wp_pqs (s_X3_below ) (fun r66 h_r66 => ?_)
  refine wp_ck (rg_01 h_r66 (by decide)) ?_
  exact ⟨_, rfl, h_r66, h_D64⟩
set_option maxRecDepth 100000 in
theorem s_X6_narrow_130 {g : gh} {S : sh}  {x2 : Int64} {xs1 : Int64} {D : dt}  (h : Inv g S D) : wp (f_X6_narrow_130 S 27 x2 27 xs1 D) (fun q => Rg 0 1 q.1 ∧ Inv g S q.2) := by
  unfold f_X6_narrow_130
  refine wp_nmI (fun D68 e_D68 => ?_)
  have h_D68 : Inv g S D68 := by rw [e_D68]; exact inv_l27 h
  refine wp_pqs (s_X3_below ) (fun r70 h_r70 => ?_)
  refine wp_ck (rg_01 h_r70 (by decide)) ?_
  exact ⟨_, rfl, h_r70, h_D68⟩
set_option maxRecDepth 100000 in
theorem s_X6_narrow {g : gh} {S : sh}  {x1 : Int32} {x2 : Int64} {D : dt} (hx1 : Rg 0 15 x1) (h : Inv g S D) : wp (f_X6_narrow S 27 x1 x2 D) (fun q => Rg 0 1 q.1 ∧ Inv g S q.2) := by
  unfold f_X6_narrow
  refine wp_cqs (s_X6_become h) (fun _ D73 h_D73 => ?_)
  refine wp_if (fun c_1 => ?_) (fun c_1 => ?_)
  ·
    have h_2 : Rg 1 1 _ := rg_eq1 hx1 rc_1 c_1 (by decide)
    refine wp_cqs (s_X6_become h_D73) (fun _ D76 h_D76 => ?_)
    refine wp_pqs (s_X3_below ) (fun r78 h_r78 => ?_)
    refine wp_if (fun c_3 => ?_) (fun c_3 => ?_)
    ·
      have h_4 : Rg 0 0 _ := rg_eq1 h_r78 rc_0 c_3 (by decide)
      refine wp_pqs (s_X3_below ) (fun r81 h_r81 => ?_)
      refine wp_if (fun c_5 => ?_) (fun c_5 => ?_)
      ·
        have h_6 : Rg 0 0 _ := rg_eq1 h_r81 rc_0 c_5 (by decide)
        exact ⟨_, rfl, (rg_w rc_1 (by decide)), h_D76⟩
      ·
        have h_7 : Rg 1 1 _ := rg_ne1 h_r81 rc_0 c_5 (by decide)
        exact ⟨_, rfl, (rg_w rc_0 (by decide)), h_D76⟩
    ·
      have h_8 : Rg 1 1 _ := rg_ne1 h_r78 rc_0 c_3 (by decide)
      exact ⟨_, rfl, (rg_w rc_0 (by decide)), h_D76⟩
  ·
    refine wp_if (fun c_9 => ?_) (fun c_9 => ?_)
    ·
      have h_10 : Rg 2 2 _ := rg_eq1 hx1 rc_2 c_9 (by decide)
      refine wp_pqs (s_X3_below ) (fun r85 h_r85 => ?_)
      refine wp_if (fun c_11 => ?_) (fun c_11 => ?_)
      ·
        have h_12 : Rg 0 0 _ := rg_eq1 h_r85 rc_0 c_11 (by decide)
        exact s_X6_narrow_130 h_D73
      ·
        have h_13 : Rg 1 1 _ := rg_ne1 h_r85 rc_0 c_11 (by decide)
        exact s_X6_narrow_130 h_D73
    ·
      refine wp_if (fun c_14 => ?_) (fun c_14 => ?_)
      ·
        have h_15 : Rg 3 3 _ := rg_eq1 hx1 rc_3 c_14 (by decide)
        refine wp_pqs (s_X3_below ) (fun r89 h_r89 => ?_)
        refine wp_if (fun c_16 => ?_) (fun c_16 => ?_)
        ·
          have h_17 : Rg 0 0 _ := rg_eq1 h_r89 rc_0 c_16 (by decide)
          exact s_X6_narrow_162 h_D73
        ·
          have h_18 : Rg 1 1 _ := rg_ne1 h_r89 rc_0 c_16 (by decide)
          exact s_X6_narrow_162 h_D73
      ·
        refine wp_if (fun c_19 => ?_) (fun c_19 => ?_)
        ·
          have h_20 : Rg 4 4 _ := rg_eq1 hx1 rc_4 c_19 (by decide)
          exact s_X6_narrow_216 h_D73
        ·
          refine wp_if (fun c_21 => ?_) (fun c_21 => ?_)
          ·
            have h_22 : Rg 5 5 _ := rg_eq1 hx1 rc_5 c_21 (by decide)
            refine wp_cqs (s_X6_takeAway h_D73) (fun r94 D95 q_r94 => ?_)
            obtain ⟨h_r94, h_D95⟩ := q_r94
            refine wp_ck (rg_01 h_r94 (by decide)) ?_
            exact ⟨_, rfl, h_r94, h_D95⟩
          ·
            refine wp_if (fun c_23 => ?_) (fun c_23 => ?_)
            ·
              have h_24 : Rg 6 6 _ := rg_eq1 hx1 rc_6 c_23 (by decide)
              exact s_X6_narrow_216 h_D73
            ·
              refine wp_if (fun c_25 => ?_) (fun c_25 => ?_)
              ·
                have h_26 : Rg 7 7 _ := rg_eq1 hx1 rc_7 c_25 (by decide)
                exact s_X6_narrow_216 h_D73
              ·
                refine wp_if (fun c_27 => ?_) (fun c_27 => ?_)
                ·
                  have h_28 : Rg 8 8 _ := rg_eq1 hx1 rc_8 c_27 (by decide)
                  exact s_X6_narrow_216 h_D73
                ·
                  refine wp_if (fun c_29 => ?_) (fun c_29 => ?_)
                  ·
                    have h_30 : Rg 9 9 _ := rg_eq1 hx1 rc_9 c_29 (by decide)
                    exact s_X6_narrow_216 h_D73
                  ·
                    refine wp_if (fun c_31 => ?_) (fun c_31 => ?_)
                    ·
                      have h_32 : Rg 10 10 _ := rg_eq1 hx1 rc_10 c_31 (by decide)
                      refine wp_pqs (s_X3_below ) (fun r103 h_r103 => ?_)
                      refine wp_if (fun c_33 => ?_) (fun c_33 => ?_)
                      ·
                        have h_34 : Rg 0 0 _ := rg_eq1 h_r103 rc_0 c_33 (by decide)
                        exact s_X6_narrow_204 h_D73
                      ·
                        have h_35 : Rg 1 1 _ := rg_ne1 h_r103 rc_0 c_33 (by decide)
                        exact s_X6_narrow_204 h_D73
                    ·
                      exact s_X6_narrow_216 h_D73
theorem oR_mono {S S' : sh} {o j : Nat} {v : Option Nat} (hs : ∀ x κ, sK S x = κ → κ ≠ 0 → sK S' x = κ) (h : oR S o j v) : oR S' o j v := by
  unfold oR at h ⊢
  split at h
  all_goals first
    | exact h
    | exact fun x e => hs x _ (h x e) (by decide)
    | (split at h
       all_goals first
         | exact h
         | (obtain ⟨x, e, k⟩ := h
            exact ⟨x, e, hs x _ k (by decide)⟩))
theorem cnt_put {f f' : Nat → Bool} {j : Nat} (h1 : f j = true) (h2 : f' j = false) (h3 : ∀ i, i ≠ j → f' i = f i) : ∀ n, (List.range n).countP f = (List.range n).countP f' + (if j < n then 1 else 0) := by
  intro n
  induction n with
  | zero => rfl
  | succ n ih =>
    rw [List.range_succ, List.countP_append, List.countP_append, ih]
    by_cases e : n = j
    · subst e
      rw [if_neg (by omega), if_pos (by omega), List.countP_cons, List.countP_cons, List.countP_nil, h1, h2]
      simp
    · simp only [List.countP_cons, List.countP_nil, h3 n e]
      by_cases q : j < n
      · rw [if_pos q, if_pos (show j < n + 1 by omega)]
        omega
      · rw [if_neg q, if_neg (show ¬ j < n + 1 by omega)]
        omega
def nsS (S : sh) : sh := aS (aS (aS (aS (aS S 4 0 6) 100 75 75) 101 75 75) 101 75 75) 101 8 8
def nsD (S : sh) (D : dt) : dt :=
  let n := sN S
  let S1 := aS S 4 0 6
  let S2 := aS S1 100 75 75
  let S3 := aS S2 101 75 75
  let S4 := aS S3 101 75 75
  let D2 := pR (aD S1 (aD S D)) n 1 (some (n + 1))
  let D3 := pR (aD S2 D2) n 2 (some (n + 2))
  let D4 := pR (aD S3 D3) n 3 (some (n + 3))
  pR (aD S4 D4) n 4 (some (n + 4))
theorem ns_eq (S : sh) (D : dt) : f_X5_init (sN S) (aS S 4 0 6) (aD S D) = some ((), nsS S, nsD S D) := rfl
theorem ns_N (S : sh) : sN (nsS S) = sN S + 5 := rfl
theorem ns_Z (S : sh) : sZ (nsS S) = sZ S + 239 := by
  show sZ S + 6 + 75 + 75 + 75 + 8 = _
  omega
theorem ns_K (S : sh) (a : Nat) : sK (nsS S) a = if a = sN S + 4 then 101 else if a = sN S + 3 then 101 else if a = sN S + 2 then 101 else if a = sN S + 1 then 100 else if a = sN S then 4 else sK S a := rfl
theorem ns_A (S : sh) (a : Nat) : sA (nsS S) a = if a = sN S + 4 then 8 else if a = sN S + 3 then 75 else if a = sN S + 2 then 75 else if a = sN S + 1 then 75 else if a = sN S then 0 else sA S a := rfl
theorem ns_I (S : sh) (D : dt) (a b : Nat) : gI (nsD S D) a b = if sN S ≤ a ∧ a ≤ sN S + 4 then 0 else gI D a b := by
  show (if a = sN S + 4 then (0 : Int32) else if a = sN S + 3 then 0 else if a = sN S + 2 then 0 else if a = sN S + 1 then 0 else if a = sN S then 0 else gI D a b) = _
  by_cases q : sN S ≤ a ∧ a ≤ sN S + 4
  · rw [if_pos q]
    repeat' split
    all_goals first
      | rfl
      | omega
  · rw [if_neg q, if_neg (by omega), if_neg (by omega), if_neg (by omega), if_neg (by omega), if_neg (by omega)]
theorem ns_L (S : sh) (D : dt) (a b : Nat) : gL (nsD S D) a b = if sN S ≤ a ∧ a ≤ sN S + 4 then 0 else gL D a b := by
  show (if a = sN S + 4 then (0 : Int64) else if a = sN S + 3 then 0 else if a = sN S + 2 then 0 else if a = sN S + 1 then 0 else if a = sN S then 0 else gL D a b) = _
  by_cases q : sN S ≤ a ∧ a ≤ sN S + 4
  · rw [if_pos q]
    repeat' split
    all_goals first
      | rfl
      | omega
  · rw [if_neg q, if_neg (by omega), if_neg (by omega), if_neg (by omega), if_neg (by omega), if_neg (by omega)]
theorem ns_R (S : sh) (D : dt) (a b : Nat) (h : a < sN S) : gR (nsD S D) a b = gR D a b := by
  show (if a = sN S ∧ b = 4 then some (sN S + 4) else if a = sN S + 4 then none else if a = sN S ∧ b = 3 then some (sN S + 3) else if a = sN S + 3 then none else if a = sN S ∧ b = 2 then some (sN S + 2) else if a = sN S + 2 then none else if a = sN S ∧ b = 1 then some (sN S + 1) else if a = sN S + 1 then none else if a = sN S then none else gR D a b) = gR D a b
  rw [if_neg (by omega), if_neg (by omega), if_neg (by omega), if_neg (by omega), if_neg (by omega), if_neg (by omega), if_neg (by omega), if_neg (by omega), if_neg (by omega)]
theorem ns_Rn (S : sh) (D : dt) : gR (nsD S D) (sN S) 1 = some (sN S + 1) ∧ gR (nsD S D) (sN S) 2 = some (sN S + 2) ∧ gR (nsD S D) (sN S) 3 = some (sN S + 3) ∧ gR (nsD S D) (sN S) 4 = some (sN S + 4) := by
  unfold nsD
  simp only [gR_pR, gR_aD, sN_aS]
  simp
  omega
theorem inv_newScene {g : gh} {S : sh} {D : dt} {j : Nat} (h : Inv g S D) (hj : j < 200) (hn : gR D 15 j = none) : Inv g (nsS S) (pR (nsD S D) 15 j (some (sN S))) := by
  have n66 := h.shp.1
  have kz : ∀ a, sN S ≤ a → sK S a = 0 := h.shp.2.2.1
  have lt : ∀ {a}, sK S a ≠ 0 → a < sN S := fun {a} q => by
    rcases Nat.lt_or_ge a (sN S) with w | w
    · exact w
    · exact absurd (kz a w) q
  have K : ∀ a, a < sN S → sK (nsS S) a = sK S a := fun a w => by rw [ns_K, if_neg (by omega), if_neg (by omega), if_neg (by omega), if_neg (by omega), if_neg (by omega)]
  have A : ∀ a, a < sN S → sA (nsS S) a = sA S a := fun a w => by rw [ns_A, if_neg (by omega), if_neg (by omega), if_neg (by omega), if_neg (by omega), if_neg (by omega)]
  have hs : ∀ x κ, sK S x = κ → κ ≠ 0 → sK (nsS S) x = κ := fun x κ e n => by rw [K x (lt (by rw [e]; exact n)), e]
  have old : ∀ a κ, sK (nsS S) a = κ → κ ≠ 101 → κ ≠ 100 → κ ≠ 0 → (a = sN S ∧ κ = 4) ∨ (a < sN S ∧ sK S a = κ) := by
    intro a κ e n1 n2 n3
    rw [ns_K] at e
    split at e
    · omega
    · split at e
      · omega
      · split at e
        · omega
        · split at e
          · omega
          · split at e
            · exact Or.inl ⟨by assumption, e.symm⟩
            · exact Or.inr ⟨lt (by rw [e]; exact n3), e⟩
  have I : ∀ a b, a < sN S → gI (pR (nsD S D) 15 j (some (sN S))) a b = gI D a b := fun a b w => by rw [gI_pR, ns_I, if_neg (by omega)]
  have L : ∀ a b, a < sN S → gL (pR (nsD S D) 15 j (some (sN S))) a b = gL D a b := fun a b w => by rw [gL_pR, ns_L, if_neg (by omega)]
  have R : ∀ a b, a < sN S → a ≠ 15 → gR (pR (nsD S D) 15 j (some (sN S))) a b = gR D a b := fun a b w n => by rw [gR_pR, if_neg (fun q => n q.1), ns_R S D a b w]
  have sc5 : ∀ a, sK S a = 4 → a + 4 < sN S := fun a k => lt (by rw [(h.shp.2.2.2.1 a k).2.2.2.1]; decide)
  have tb4 : ∀ a, sK S a = 6 → a + 3 < sN S := fun a k => lt (by rw [(h.shp.2.2.2.2 a k).2.2.1]; decide)
  refine ⟨⟨by rw [ns_N]; omega, fun k hk => ?_, fun k hk => ?_, fun o k => ?_, fun o k => ?_⟩, fun o b ho => ?_, ?_, fun o b ho => ?_, fun o k => ?_, fun o k => ?_, h.gg, fun o b ho => ?_, ?_, ⟨fun b => ?_, fun b => ?_, fun b => ?_, ?_⟩, fun hz => ?_⟩
  · rw [K k (by omega), A k (by omega)]
    exact h.shp.2.1 k hk
  · rw [ns_N] at hk
    rw [ns_K, if_neg (by omega), if_neg (by omega), if_neg (by omega), if_neg (by omega), if_neg (by omega)]
    exact kz k (by omega)
  · rcases old o 4 k (by decide) (by decide) (by decide) with ⟨rfl, -⟩ | ⟨w, k'⟩
    · simp [ns_K, ns_A]
    · have := sc5 o k'
      rw [K _ (by omega), K _ (by omega), K _ (by omega), K _ (by omega), A _ (by omega), A _ (by omega), A _ (by omega), A _ (by omega)]
      exact h.shp.2.2.2.1 o k'
  · rcases old o 6 k (by decide) (by decide) (by decide) with ⟨-, q⟩ | ⟨w, k'⟩
    · omega
    · have := tb4 o k'
      rw [K _ (by omega), K _ (by omega), K _ (by omega), A _ (by omega), A _ (by omega)]
      exact h.shp.2.2.2.2 o k'
  · rw [I o b (by omega)]
    exact h.i o b ho
  · unfold vL
    rw [L 7 5 (by omega), L 28 17 (by omega)]
    exact h.l
  · by_cases e : o = 15 ∧ b = j
    · obtain ⟨rfl, rfl⟩ := e
      rw [gR_pR, if_pos ⟨rfl, rfl⟩]
      intro x q
      cases q
      simp [ns_K]
    · rw [gR_pR, if_neg e, ns_R S D o b (by omega)]
      exact oR_mono hs (h.r o b ho)
  · rcases old o 6 k (by decide) (by decide) (by decide) with ⟨-, q⟩ | ⟨w, k'⟩
    · omega
    · have := tb4 o k'
      have ne : o ≠ 15 := k_at h k' 15 (by decide) (by decide)
      simp only [I o _ w, R o _ w ne, A (o + 3) (by omega), A (o + 2) (by omega)]
      exact h.t o k'
  · rcases old o 4 k (by decide) (by decide) (by decide) with ⟨rfl, -⟩ | ⟨w, k'⟩
    · have n15 : sN S ≠ 15 := by omega
      refine ⟨?_, fun p _ e => ?_⟩
      · simp only [gR_pR]
        rw [if_neg (fun q => n15 q.1), if_neg (fun q => n15 q.1), if_neg (fun q => n15 q.1), if_neg (fun q => n15 q.1)]
        exact ns_Rn S D
      · rw [gI_pR, ns_I, if_pos (by omega)] at e
        exact absurd e (by decide)
    · have := sc5 o k'
      have ne : o ≠ 15 := k_at h k' 15 (by decide) (by decide)
      simp only [R o _ w ne, I (o + 1) _ (by omega), L (o + 2) _ (by omega), L (o + 3) _ (by omega)]
      exact h.s o k'
  · have : o < 66 := by
      unfold isP at ho
      simp only [Bool.or_eq_true, Bool.and_eq_true] at ho
      rcases ho with ⟨-, x⟩ | ⟨-, x⟩
      · have := Nat.le_of_ble_eq_true x
        omega
      · have := Nat.le_of_ble_eq_true x
        omega
    rw [I o b (by omega)]
    exact h.p o b ho
  · have e := cnt_put (f := fun i => (gR D 15 i).isNone) (f' := fun i => (gR (pR (nsD S D) 15 j (some (sN S))) 15 i).isNone) (j := j) (by show (gR D 15 j).isNone = true; rw [hn]; rfl) (by show (gR _ 15 j).isNone = false; rw [gR_pR, if_pos ⟨rfl, rfl⟩]; rfl) (fun i n => by show (gR _ 15 i).isNone = (gR D 15 i).isNone; rw [gR_pR, if_neg (fun q => n q.2), ns_R S D 15 i (by omega)]) 200
    rw [if_pos hj] at e
    have e : nul D = nul (pR (nsD S D) 15 j (some (sN S))) + 1 := e
    have m := h.m
    unfold vM at m ⊢
    rw [ns_N, ns_Z]
    omega
  · rw [I 60 b (by omega), L 61 b (by omega)]
    exact h.k.1 b
  · rw [I 49 b (by omega), L 50 b (by omega)]
    exact h.k.2.1 b
  · rw [I 55 b (by omega), L 56 b (by omega)]
    exact h.k.2.2.1 b
  · rw [I 28 47 (by omega), L 28 48 (by omega)]
    exact h.k.2.2.2
  · obtain ⟨f1, f2, f3, f4, f5, f6⟩ := h.f hz
    exact ⟨(I 14 8 (by omega)).trans f1, (I 14 10 (by omega)).trans f2, by rw [L 14 9 (by omega)]; exact f3, by rw [L 14 11 (by omega)]; exact f4, fun b q => f5 b ((I 60 b (by omega)).symm.trans q), (I 28 53 (by omega)).trans f6⟩
theorem ns_sc (S : sh) : sK (nsS S) (sN S) = 4 := by simp [ns_K]
/-- what a call may leave of the shape: kinds stay -/
def Ks (S S' : sh) : Prop := ∀ x κ, sK S x = κ → κ ≠ 0 → sK S' x = κ
theorem Ks.rf (S : sh) : Ks S S := fun _ _ e _ => e
theorem Ks.tr {S S' S'' : sh} (h1 : Ks S S') (h2 : Ks S' S'') : Ks S S'' := fun x κ e n => h2 x κ (h1 x κ e n) n
theorem Ks.ns {g : gh} {S : sh} {D : dt} (h : Inv g S D) : Ks S (nsS S) := by
  intro x κ e n
  have : x < sN S := by
    rcases Nat.lt_or_ge x (sN S) with w | w
    · exact w
    · exact absurd ((h.shp.2.2.1 x w).symm.trans e) (fun q => n q.symm)
  rw [ns_K, if_neg (by omega), if_neg (by omega), if_neg (by omega), if_neg (by omega), if_neg (by omega), e]
theorem s_X5_write {g : gh} {S : sh} {o0 : Nat} {x1 x2 : Int32} {x3 x5 : Int64} {D : dt} (ho0 : sK S o0 = 4) (hx1 : Rg 0 74 x1) (hst : stk g o0 x2 x3 x5) (h : Inv g S D) : wp (f_X5_write S o0 x1 x2 x3 x5 D) (fun q => Inv g S q.2) := by
  unfold f_X5_write
  refine wp_rq (iSR1 h ho0) (wp_ix (in_rg hx1 (iSA1 h ho0) (by decide)) (wp_nmI (fun D1 e1 => ?_)))
  refine wp_rq (x := o0 + 2) (by rw [e1, gR_pI]; exact iSR2 h ho0) (wp_ix (in_rg hx1 (iSA2 h ho0) (by decide)) (wp_nmI (fun D2 e2 => ?_)))
  refine wp_rq (x := o0 + 3) (by rw [e2, gR_pL, e1, gR_pI]; exact iSR3 h ho0) (wp_ix (in_rg hx1 (iSA3 h ho0) (by decide)) (wp_nmI (fun D3 e3 => ⟨_, rfl, ?_⟩)))
  show Inv g S D3
  refine inv_scene h ho0 (fun a b n => ?_) (fun a b n1 n2 n3 => ?_) (fun a b => ?_) (fun p hp => ?_)
  · rw [e3, gI_pL, e2, gI_pL, e1, gI_pI, if_neg (fun q => n q.1)]
  · rw [e3, gL_pL, if_neg (fun q => n2 q.1), e2, gL_pL, if_neg (fun q => n1 q.1), e1, gL_pI]
  · rw [e3, gR_pL, e2, gR_pL, e1, gR_pI]
  · have t1 : gI D3 (o0 + 1) p = if o0 + 1 = o0 + 1 ∧ p = x1.toNatClampNeg then x2 else gI D (o0 + 1) p := by rw [e3, gI_pL, e2, gI_pL, e1, gI_pI]
    have t2 : gL D3 (o0 + 2) p = if o0 + 2 = o0 + 2 ∧ p = x1.toNatClampNeg then x3 else gL D (o0 + 2) p := by rw [e3, gL_pL, if_neg (fun q => by omega), e2, gL_pL, e1, gL_pI]
    have t3 : gL D3 (o0 + 3) p = if o0 + 3 = o0 + 3 ∧ p = x1.toNatClampNeg then x5 else gL D (o0 + 3) p := by rw [e3, gL_pL, e2, gL_pL, if_neg (c := o0 + 3 = o0 + 2 ∧ p = x1.toNatClampNeg) (fun q => by omega), e1, gL_pI]
    rw [t1, t2, t3]
    by_cases e : p = x1.toNatClampNeg
    · rw [if_pos ⟨rfl, e⟩, if_pos ⟨rfl, e⟩, if_pos ⟨rfl, e⟩]
      exact hst
    · rw [if_neg (fun q => e q.2), if_neg (fun q => e q.2), if_neg (fun q => e q.2)]
      exact (h.s o0 ho0).2 p hp
def tig (g : gh) : gh := (fun n => if n = 9 then 0 else g.1 n, g.2)
theorem Inv.tight {g : gh} {S : sh} {D : dt} (h : Inv g S D) (h17 : ∀ p, p < 75 → gI D 18 p &&& 15 = 3 → RgL (-1048576) 1048576 (gL D 19 p)) : Inv (tig g) S D := by
  obtain ⟨a1, a2, a3, a4, a5, a6, a7, a8, a9, a10, a11⟩ := h
  refine ⟨a1, a2, a3, a4, a5, fun o k => ⟨(a6 o k).1, fun p hp e => ?_⟩, a7, a8, a9, a10, a11⟩
  obtain ⟨s1, s2⟩ := (a6 o k).2 p hp e
  refine ⟨s1, Or.inr ?_⟩
  rcases s2 with ⟨rfl, -⟩ | s2
  · exact h17 p hp e
  · exact s2
theorem Inv.loose {g : gh} {S : sh} {D : dt} (h : Inv (tig g) S D) (hl : g.1 9 ≠ 0) : Inv g S D := by
  obtain ⟨a1, a2, a3, a4, a5, a6, a7, a8, a9, a10, a11⟩ := h
  refine ⟨a1, a2, a3, a4, a5, fun o k => ⟨(a6 o k).1, fun p hp e => ?_⟩, a7, a8, a9, a10, a11⟩
  obtain ⟨s1, s2⟩ := (a6 o k).2 p hp e
  refine ⟨s1, ?_⟩
  rcases s2 with ⟨-, s2⟩ | s2
  · exact absurd rfl s2
  · exact Or.inr s2
theorem s_X5_begin {g : gh} {S : sh} {D : dt} (h : Inv g S D) : wp (f_X5_begin S 17 D) (fun q => Inv (tig g) S q.2) := by
  have k := iK_17 h
  unfold f_X5_begin
  refine wp_rq (iR_17_1 h) (wp_cqs (fillI0 (Q := fun D n => Inv g S D ∧ ∀ p, p < n → gI D 18 p = 0) (by decide) (iA_18 h) (fun D p hp hq => ⟨inv_tag (o := 17) hq.1 k (by decide), fun b hb => ?_⟩) ⟨h, fun p hp => absurd hp (Nat.not_lt_zero _)⟩) (fun _ D1 h1 => ?_))
  · rw [gI_pI]
    by_cases e : b = p
    · rw [if_pos ⟨rfl, e⟩]
    · rw [if_neg (fun q => e q.2)]
      exact hq.2 b (by omega)
  have z : ∀ p, p < 75 → ¬ gI D1 18 p &&& 15 = 3 := fun p hp => by
    rw [h1.2 p hp]
    decide
  refine wp_rq (iR_17_2 h1.1) (wp_cqs (fillL0 (Q := fun D2 => Inv g S D2 ∧ ∀ p, gI D2 18 p = gI D1 18 p) (by decide) (iA_19 h) (fun D p hp hq => ⟨inv_low (o := 17) hq.1 k (by show ¬ gI D 18 p &&& 15 = 3; rw [hq.2]; exact z p hp), hq.2⟩) ⟨h1.1, fun _ => rfl⟩) (fun _ D2 h2 => ?_))
  refine wp_rq (iR_17_3 h2.1) (wp_cqs (fillL0 (Q := fun D2 => Inv g S D2 ∧ ∀ p, gI D2 18 p = gI D1 18 p) (by decide) (iA_20 h) (fun D p hp hq => ⟨inv_high (o := 17) hq.1 k (by show ¬ gI D 18 p &&& 15 = 3; rw [hq.2]; exact z p hp), hq.2⟩) h2) (fun _ D3 h3 => ?_))
  refine wp_rq (iR_17_4 h3.1) (wp_cqs (fillL0 (Q := fun D2 => Inv g S D2 ∧ ∀ p, gI D2 18 p = gI D1 18 p) (by decide) (iA_21 h) (fun D p hp hq => ⟨inv_pL_kn (o := 17) hq.1 k, hq.2⟩) h3) (fun _ D4 h4 => ?_))
  have t4 : Inv (tig g) S D4 := h4.1.tight (fun p hp e => by rw [h4.2] at e; exact absurd e (z p hp))
  refine wp_nmI (fun D5 e5 => ?_)
  have t5 : Inv (tig g) S D5 := by rw [e5]; exact inv_pL_k t4 (Or.inl k)
  refine wp_cqs (s_X5_write k (by decide) (fun q => absurd q (by decide)) t5) (fun _ D6 t6 => ?_)
  refine wp_cqs (s_X5_write k (by decide) (fun _ => ⟨rfl, Or.inr (by decide)⟩) t6) (fun _ D7 t7 => ?_)
  refine wp_nmI (fun D8 e8 => ⟨_, rfl, ?_⟩)
  show Inv (tig g) S D8
  rw [e8]
  exact inv_pI_sc t7 k
theorem cp_ok {n : Int32} {a b k : Nat} (h0 : Rg 0 k n) (ha : k ≤ a) (hb : k ≤ b) (hk : k ≤ 1000) : cpy_ok 0 0 n a b := by
  unfold cpy_ok
  have e0 : (0 : Int32).toInt = 0 := rfl
  have h1 := h0.1
  have h2 := h0.2
  have t := tnc h1
  refine ⟨by decide, by decide, ?_, ?_, ?_⟩
  all_goals first | (intro q; have := Int32.lt_iff_toInt_lt.mp q; omega) | (show (0 : Int32).toNatClampNeg + n.toNatClampNeg ≤ _; show 0 + n.toNatClampNeg ≤ _; omega) | omega
theorem cp_at {α : Type} {f g : Nat → α} {n : Int32} (p : Nat) : va_cpy f g (0 : Int32).toNatClampNeg (0 : Int32).toNatClampNeg n.toNatClampNeg p = if p < n.toNatClampNeg then f p else g p := by
  unfold va_cpy
  show (if 0 ≤ p ∧ p < 0 + n.toNatClampNeg then f (0 + (p - 0)) else g p) = _
  by_cases e : p < n.toNatClampNeg
  · rw [if_pos ⟨by omega, by omega⟩, if_pos e, Nat.zero_add, Nat.sub_zero]
  · rw [if_neg (fun q => by omega), if_neg e]
theorem s_X5_copyFrom_16 {g : gh} {S : sh} {o0 o1 : Nat} {xs0 : Int32} {D : dt} (ho0 : sK S o0 = 4) (ho1 : sK S o1 = 4) (hxs0 : Rg 11 75 xs0) (htt : g.1 9 = 0) (h : Inv g S D) : wp (f_X5_copyFrom_16 S o0 o1 xs0 D) (fun q => Inv g S q.2) := by
  have hx : Rg 0 (75 : Nat) xs0 := rg_w hxs0 (by decide)
  unfold f_X5_copyFrom_16
  refine wp_rq (iSR1 h ho1) (wp_rq (iSR1 h ho0) (wp_ck (cp_ok hx (by rw [iSA1 h ho1]; decide) (by rw [iSA1 h ho0]; decide) (by decide)) (wp_nmI (fun D1 e1 => ?_))))
  refine wp_rq (x := o1 + 2) (by rw [e1, gR_qI]; exact iSR2 h ho1) (wp_rq (x := o0 + 2) (by rw [e1, gR_qI]; exact iSR2 h ho0) (wp_ck (cp_ok hx (by rw [iSA2 h ho1]; decide) (by rw [iSA2 h ho0]; decide) (by decide)) (wp_nmI (fun D2 e2 => ?_))))
  refine wp_rq (x := o1 + 3) (by rw [e2, gR_qL, e1, gR_qI]; exact iSR3 h ho1) (wp_rq (x := o0 + 3) (by rw [e2, gR_qL, e1, gR_qI]; exact iSR3 h ho0) (wp_ck (cp_ok hx (by rw [iSA3 h ho1]; decide) (by rw [iSA3 h ho0]; decide) (by decide)) (wp_nmI (fun D3 e3 => ?_))))
  refine wp_rq (x := o1 + 4) (by rw [e3, gR_qL, e2, gR_qL, e1, gR_qI]; exact iSR4 h ho1) (wp_rq (x := o0 + 4) (by rw [e3, gR_qL, e2, gR_qL, e1, gR_qI]; exact iSR4 h ho0) (wp_ck (cp_ok (k := 8) (by decide) (by rw [iSA4 h ho1]; decide) (by rw [iSA4 h ho0]; decide) (by decide)) (wp_nmI (fun D4 e4 => ?_))))
  have w := h.shp.2.2.2.1 o0 ho0
  have w' := h.shp.2.2.2.1 o1 ho1
  have ne : ∀ i j, 1 ≤ i → i ≤ 4 → 1 ≤ j → j ≤ 4 → i ≠ j → o1 + i ≠ o0 + j := by
    intro i j i1 i2 j1 j2 ij e
    obtain ⟨w1, w2, w3, w4, -⟩ := w
    obtain ⟨v1, v2, v3, v4, -⟩ := w'
    have : o1 = o0 + 1 ∨ o1 = o0 + 2 ∨ o1 = o0 + 3 ∨ o0 = o1 + 1 ∨ o0 = o1 + 2 ∨ o0 = o1 + 3 := by omega
    rcases this with r | r | r | r | r | r <;> (subst r; omega)
  have h4 : Inv g S D4 := by
    refine inv_scene h ho0 (fun a b n => ?_) (fun a b n1 n2 n3 => ?_) (fun a b => ?_) (fun p hp => ?_)
    · rw [e4, gI_qL, e3, gI_qL, e2, gI_qL, e1, gI_qI, if_neg n]
    · rw [e4, gL_qL, if_neg n3, e3, gL_qL, if_neg n2, e2, gL_qL, if_neg n1, e1, gL_qI]
    · rw [e4, gR_qL, e3, gR_qL, e2, gR_qL, e1, gR_qI]
    · have t1 : gI D4 (o0 + 1) p = if p < xs0.toNatClampNeg then gI D (o1 + 1) p else gI D (o0 + 1) p := by
        rw [e4, gI_qL, e3, gI_qL, e2, gI_qL, e1, gI_qI, if_pos rfl, cp_at]
      have t2 : gL D4 (o0 + 2) p = if p < xs0.toNatClampNeg then gL D (o1 + 2) p else gL D (o0 + 2) p := by
        rw [e4, gL_qL, if_neg (by omega), e3, gL_qL, if_neg (by omega), e2, gL_qL, if_pos rfl, cp_at, e1, gL_qI, gL_qI]
      have t3 : gL D4 (o0 + 3) p = if p < xs0.toNatClampNeg then gL D (o1 + 3) p else gL D (o0 + 3) p := by
        have u1 : gL D2 (o1 + 3) p = gL D (o1 + 3) p := by rw [e2, gL_qL, if_neg (ne 3 2 (by omega) (by omega) (by omega) (by omega) (by omega)), e1, gL_qI]
        have u2 : gL D2 (o0 + 3) p = gL D (o0 + 3) p := by rw [e2, gL_qL, if_neg (by omega), e1, gL_qI]
        rw [e4, gL_qL, if_neg (by omega), e3, gL_qL, if_pos rfl, cp_at, u1, u2]
      rw [t1, t2, t3]
      by_cases e : p < xs0.toNatClampNeg
      · rw [if_pos e, if_pos e, if_pos e]
        intro q
        obtain ⟨s1, s2⟩ := (h.s o1 ho1).2 p hp q
        refine ⟨s1, Or.inr ?_⟩
        rcases s2 with ⟨-, s2⟩ | s2
        · exact absurd htt s2
        · exact s2
      · rw [if_neg e, if_neg e, if_neg e]
        exact (h.s o0 ho0).2 p hp
  refine wp_nmI (fun D5 e5 => wp_nmI (fun D6 e6 => ⟨_, rfl, ?_⟩))
  have h5 : Inv g S D5 := by rw [e5]; exact inv_pL_k h4 (Or.inl ho0)
  show Inv g S D6
  rw [e6]
  exact inv_pI_sc h5 ho0
set_option maxRecDepth 100000 in
theorem s_X5_copyFrom {g : gh} {S : sh}  {o0 : Nat} {o1 : Nat} {D : dt} (ho0 : sK S o0 = 4) (ho1 : sK S o1 = 4) (htt : g.1 9 = 0) (h : Inv g S D) : wp (f_X5_copyFrom S o0 o1 D) (fun q => Inv g S q.2) := by
  unfold f_X5_copyFrom
  refine wp_if (fun c_1 => ?_) (fun c_1 => ?_)
  ·
    have h_2 : RgL 0 0 _ := rgl_eq1 (rgl_top _) rcl_0 ((lg_cmp_eq _ _).mp c_1) (by decide)
    exact s_X5_copyFrom_16 ho0 ho1 (rg_w rc_11 (by decide)) htt h
  ·
    exact s_X5_copyFrom_16 ho0 ho1 (rg_w rc_75 (by decide)) htt h
set_option maxRecDepth 100000 in
theorem s_X5_tagOf  {x0 : Int32} {x1 : Int32} {x2 : Int32} (hx0 : Rg 4 6 x0) (hx2 : Rg 0 199 x2) : wp (f_X5_tagOf x0 x1 x2) (fun q => True) := by
  unfold f_X5_tagOf
  exact ⟨_, rfl, trivial⟩
set_option maxRecDepth 100000 in
theorem s_X5_isNone {g : gh} {S : sh} {D : dt}  {o0 : Nat} {x1 : Int32} (ho0 : sK S o0 = 4) (hx1 : Rg 0 74 x1) (h : Inv g S D) : wp (f_X5_isNone S D o0 x1) (fun q => Rg 0 1 q) := by
  unfold f_X5_isNone
  refine wp_rq (iSR1 h ho0) ?_
  refine wp_ix (in_rg hx1 (iSA1 h ho0) (by decide)) ?_
  refine wp_if (fun c_1 => ?_) (fun c_1 => ?_)
  ·
    have h_2 : Rg 0 0 _ := rg_eq1 (rg_top _) rc_0 c_1 (by decide)
    exact ⟨_, rfl, (rg_w rc_1 (by decide))⟩
  ·
    exact ⟨_, rfl, (rg_w rc_0 (by decide))⟩
theorem s_X5_kind {g : gh} {S : sh} {D : dt} {o0 : Nat} {x1 : Int32} (ho0 : sK S o0 = 4) (hx1 : Rg 0 74 x1) (h : Inv g S D) : wp (f_X5_kind S D o0 x1) (fun q => Rg 0 15 q ∧ q = gI D (o0 + 1) x1.toNatClampNeg &&& 15) := by
  unfold f_X5_kind
  exact wp_rq (iSR1 h ho0) (wp_ix (in_rg hx1 (iSA1 h ho0) (by decide)) ⟨_, rfl, rg_andr _ (by decide), rfl⟩)
set_option maxRecDepth 100000 in
theorem s_X5_tableOf {g : gh} {S : sh} {D : dt}  {o0 : Nat} {x1 : Int32} (ho0 : sK S o0 = 4) (hx1 : Rg 0 10 x1) (h : Inv g S D) : wp (f_X5_tableOf S D o0 x1) (fun q => Rg 0 15 q) := by
  unfold f_X5_tableOf
  refine wp_rq (iSR1 h ho0) ?_
  refine wp_ix (in_rg hx1 (iSA1 h ho0) (by decide)) ?_
  exact ⟨_, rfl, (rg_andr _ (by decide) : Rg 0 15 _)⟩
set_option maxRecDepth 100000 in
theorem s_X5_holds {g : gh} {S : sh} {D : dt}  {o0 : Nat} {x1 : Int32} (ho0 : sK S o0 = 4) (hx1 : Rg (-268435456) 268435455 x1) (h : Inv g S D) : wp (f_X5_holds S D o0 x1) (fun q => Rg 0 1 q) := by
  unfold f_X5_holds
  refine wp_if (fun c_1 => ?_) (fun c_1 => ?_)
  ·
    have h_2 : RgL 0 0 _ := rgl_eq1 (rgl_andr _ (by decide) : RgL 0 1 _) rcl_0 ((lg_cmp_eq _ _).mp c_1) (by decide)
    exact ⟨_, rfl, (rg_w rc_0 (by decide))⟩
  ·
    have h_3 : RgL 1 1 _ := rgl_ne1 (rgl_andr _ (by decide) : RgL 0 1 _) rcl_0 (fun q => c_1 ((lg_cmp_eq _ _).mpr q)) (by decide)
    exact ⟨_, rfl, (rg_w rc_1 (by decide))⟩
set_option maxRecDepth 100000 in
theorem s_X5_isKnown {g : gh} {S : sh} {D : dt}  {o0 : Nat} {x1 : Int32} (ho0 : sK S o0 = 4) (hx1 : Rg 0 511 x1) (h : Inv g S D) : wp (f_X5_isKnown S D o0 x1) (fun q => Rg 0 1 q) := by
  unfold f_X5_isKnown
  refine wp_rq (iSR4 h ho0) ?_
  refine wp_ix (in_rg (rg_shr hx1 (by decide) : Rg 0 7 _) (iSA4 h ho0) (by decide)) ?_
  refine wp_if (fun c_1 => ?_) (fun c_1 => ?_)
  ·
    have h_2 : RgL 0 0 _ := rgl_eq1 (rgl_andr _ (by decide) : RgL 0 1 _) rcl_0 ((lg_cmp_eq _ _).mp c_1) (by decide)
    exact ⟨_, rfl, (rg_w rc_0 (by decide))⟩
  ·
    have h_3 : RgL 1 1 _ := rgl_ne1 (rgl_andr _ (by decide) : RgL 0 1 _) rcl_0 (fun q => c_1 ((lg_cmp_eq _ _).mpr q)) (by decide)
    exact ⟨_, rfl, (rg_w rc_1 (by decide))⟩
set_option maxRecDepth 100000 in
theorem s_X5_areKnown_2 {g : gh} {S : sh} {D : dt}  (h : Inv g S D) : ∀ (n : Nat) (x1 : Int32) (x2 : Int32) (x3 : Int32), Rg 0 511 x1 → Rg 1 32 x2 → Rg 0 512 x3 → Rg 1 512 (x1 + x2) → 512 - x3.toInt < (n : Int) → wp (f_X5_areKnown_2 S D n 17 x1 x2 x3) (fun q => Rg 0 1 q) := by
  intro n
  induction n with
  | zero =>
    intro x1 x2 x3 hx1 hx2 hx3 hx1_p_x2 hm
    exact (ms_0 hx3 (by decide) hm).elim
  | succ n ih =>
    intro x1 x2 x3 hx1 hx2 hx3 hx1_p_x2 hm
    rw [f_X5_areKnown_2.eq_2]
    refine wp_if (fun c_1 => ?_) (fun c_1 => ?_)
    ·
      have h_2 : Rg 1 512 _ := rg_le2 hx1_p_x2 hx3 c_1 (by decide)
      exact ⟨_, rfl, (rg_w rc_1 (by decide))⟩
    ·
      have h_3 : Rg 0 511 _ := rg_lt1 hx3 hx1_p_x2 (nle32 c_1) (by decide)
      refine wp_pqs (s_X5_isKnown (iK_17 h) h_3 h) (fun r8 h_r8 => ?_)
      refine wp_if (fun c_4 => ?_) (fun c_4 => ?_)
      ·
        have h_5 : Rg 0 0 _ := rg_eq1 h_r8 rc_0 c_4 (by decide)
        exact ⟨_, rfl, (rg_w rc_0 (by decide))⟩
      ·
        have h_6 : Rg 1 1 _ := rg_ne1 h_r8 rc_0 c_4 (by decide)
        refine wp_nmI (fun y10 e_y10 => ?_)
        have h_y10 : Rg 1 512 y10 := rg_eq e_y10 (rg_add h_3 rc_1 (by decide) : Rg 1 512 _)
        exact ih _ _ _ hx1 hx2 (rg_w h_y10 (by decide)) hx1_p_x2 (by rw [e_y10]; exact ms_up h_3 (by decide) hm)
set_option maxRecDepth 100000 in
theorem s_X5_areKnown {g : gh} {S : sh} {D : dt}  {x1 : Int32} {x2 : Int32} (hx1 : Rg 0 511 x1) (hx2 : Rg 1 32 x2) (hx1_p_x2 : Rg 1 512 (x1 + x2)) (h : Inv g S D) : wp (f_X5_areKnown S D 17 x1 x2) (fun q => Rg 0 1 q) := by
  unfold f_X5_areKnown
  exact s_X5_areKnown_2 h LF _ _ _ hx1 hx2 (rg_w hx1 (by decide)) hx1_p_x2 (ms_in hx1 (by decide))
set_option maxRecDepth 100000 in
theorem s_X5_move {g : gh} {S : sh}  {x1 : Int32} {x2 : Int32} {D : dt} (hx1 : Rg 0 74 x1) (hx2 : Rg 0 74 x2) (h : Inv g S D) : wp (f_X5_move S 17 x1 x2 D) (fun q => Inv g S q.2) := by
  unfold f_X5_move
  refine wp_rq (iR_17_1 h) ?_
  refine wp_ix (in_rg hx2 (iA_18 h) (by decide)) ?_
  refine wp_rq (iR_17_2 h) ?_
  refine wp_ix (in_rg hx2 (iA_19 h) (by decide)) ?_
  refine wp_rq (iR_17_3 h) ?_
  refine wp_ix (in_rg hx2 (iA_20 h) (by decide)) ?_
  refine wp_cqs (s_X5_write (iK_17 h) hx1 (iSS h (iK_17 h) _ (tn_lt hx2 (by decide))) h) (fun _ D34 h_D34 => ?_)
  exact ⟨_, rfl, h_D34⟩
set_option maxRecDepth 100000 in
theorem s_X5_writeAny_24 {g : gh} {S : sh}  {xs1 : Int32} {xs2 : Int32} {xs3 : Int64} {xs4 : Int64} {D : dt} (hxs1 : Rg 0 10 xs1) (hxs2 : Rg 1 1 xs2) (hxs3 : RgL 0 0 xs3) (h : Inv g S D) : wp (f_X5_writeAny_24 S 17 xs1 xs2 xs3 xs4 D) (fun q => Inv g S q.2) := by
  unfold f_X5_writeAny_24
  refine wp_cqs (s_X5_write (iK_17 h) (rg_w hxs1 (by decide)) (fun q => absurd q (tag_one hxs2)) h) (fun _ D5 h_D5 => ?_)
  exact ⟨_, rfl, h_D5⟩
set_option maxRecDepth 100000 in
theorem s_X5_writeAny {g : gh} {S : sh}  {x1 : Int32} {x2 : Int32} {D : dt} (hx1 : Rg 0 10 x1) (hx2 : Rg 1 8 x2) (h : Inv g S D) : wp (f_X5_writeAny S 17 x1 x2 D) (fun q => Inv g S q.2) := by
  unfold f_X5_writeAny
  refine wp_if (fun c_1 => ?_) (fun c_1 => ?_)
  ·
    have h_2 : Rg 8 8 _ := rg_eq1 hx2 rc_8 c_1 (by decide)
    exact s_X5_writeAny_24 hx1 rc_1 rcl_0 h
  ·
    have h_3 : Rg 1 7 _ := rg_ne1 hx2 rc_8 c_1 (by decide)
    exact s_X5_writeAny_24 hx1 rc_1 rcl_0 h
set_option maxRecDepth 100000 in
theorem s_X5_isNumber {g : gh} {S : sh} {D : dt}  {o0 : Nat} {x1 : Int32} (ho0 : sK S o0 = 4) (hx1 : Rg 0 74 x1) (h : Inv g S D) : wp (f_X5_isNumber S D o0 x1) (fun q => Rg 0 1 q) := by
  unfold f_X5_isNumber
  refine wp_rq (iSR1 h ho0) ?_
  refine wp_ix (in_rg hx1 (iSA1 h ho0) (by decide)) ?_
  refine wp_if (fun c_1 => ?_) (fun c_1 => ?_)
  ·
    have h_2 : Rg 1 1 _ := rg_eq1 (rg_top _) rc_1 c_1 (by decide)
    exact ⟨_, rfl, (rg_w rc_1 (by decide))⟩
  ·
    exact ⟨_, rfl, (rg_w rc_0 (by decide))⟩
set_option maxRecDepth 100000 in
theorem s_X5_knowCell_50 {g : gh} {S : sh}  {os0 : Nat} {xs1 : Int32} {xs2 : Int64} {D : dt} (hos0 : (∃ b, sK S b = 4 ∧ os0 = b + 4)) (hxs1 : Rg 0 7 xs1) (h : Inv g S D) : wp (f_X5_knowCell_50 S os0 xs1 xs2 D) (fun q => Inv g S q.2) := by
  obtain ⟨bos0, kbos0, rfl⟩ := hos0
  unfold f_X5_knowCell_50
  refine wp_ix (in_rg hxs1 (iSA4 h kbos0) (by decide)) ?_
  refine wp_nmI (fun D20 e_D20 => ?_)
  have h_D20 : Inv g S D20 := by rw [e_D20]; exact inv_pL_kn h kbos0
  exact ⟨_, rfl, h_D20⟩
set_option maxRecDepth 100000 in
theorem s_X5_knowCell {g : gh} {S : sh}  {o0 : Nat} {x1 : Int32} {x2 : Int32} {D : dt} (ho0 : sK S o0 = 4) (hx1 : Rg 0 63 x1) (hx2 : Rg 0 1 x2) (h : Inv g S D) : wp (f_X5_knowCell S o0 x1 x2 D) (fun q => Inv g S q.2) := by
  unfold f_X5_knowCell
  refine wp_nmI (fun y21 e_y21 => ?_)
  refine wp_rq (iSR4 h ho0) ?_
  refine wp_if (fun c_1 => ?_) (fun c_1 => ?_)
  ·
    have h_2 : Rg 0 0 _ := rg_eq1 hx2 rc_0 c_1 (by decide)
    refine wp_rq (iSR4 h ho0) ?_
    refine wp_ix (in_rg (rg_shr hx1 (by decide) : Rg 0 7 _) (iSA4 h ho0) (by decide)) ?_
    exact s_X5_knowCell_50 ⟨_, ho0, rfl⟩ (rg_shr hx1 (by decide) : Rg 0 7 _) h
  ·
    have h_3 : Rg 1 1 _ := rg_ne1 hx2 rc_0 c_1 (by decide)
    refine wp_rq (iSR4 h ho0) ?_
    refine wp_ix (in_rg (rg_shr hx1 (by decide) : Rg 0 7 _) (iSA4 h ho0) (by decide)) ?_
    exact s_X5_knowCell_50 ⟨_, ho0, rfl⟩ (rg_shr hx1 (by decide) : Rg 0 7 _) h
set_option maxRecDepth 100000 in
theorem s_X5_hold {g : gh} {S : sh}  {x1 : Int32} {x2 : Int32} {D : dt} (hx1 : Rg 0 63 x1) (hx2 : Rg 0 10 x2) (h : Inv g S D) : wp (f_X5_hold S 17 x1 x2 D) (fun q => Inv g S q.2) := by
  unfold f_X5_hold
  refine wp_nmI (fun D8 e_D8 => ?_)
  have h_D8 : Inv g S D8 := by rw [e_D8]; exact inv_l17 h
  refine wp_cqs (s_X5_move (rg_w (rg_add rc_11 hx1 (by decide) : Rg 11 74 _) (by decide)) (rg_w hx2 (by decide)) h_D8) (fun _ D10 h_D10 => ?_)
  refine wp_pqs (s_X5_isNumber (iK_17 h_D10) (rg_w hx2 (by decide)) h_D10) (fun r12 h_r12 => ?_)
  refine wp_cqs (s_X5_knowCell (iK_17 h_D10) hx1 h_r12 h_D10) (fun _ D14 h_D14 => ?_)
  exact ⟨_, rfl, h_D14⟩
set_option maxRecDepth 100000 in
theorem s_X5_holdNothing {g : gh} {S : sh}  {o0 : Nat} {x1 : Int32} {D : dt} (ho0 : sK S o0 = 4) (hx1 : Rg 0 63 x1) (h : Inv g S D) : wp (f_X5_holdNothing S o0 x1 D) (fun q => Inv g S q.2) := by
  unfold f_X5_holdNothing
  refine wp_nmI (fun D2 e_D2 => ?_)
  have h_D2 : Inv g S D2 := by rw [e_D2]; exact inv_pL_k h (Or.inl ho0)
  exact ⟨_, rfl, h_D2⟩
set_option maxRecDepth 100000 in
theorem s_X5_putOctets_2 {g : gh} {S : sh}  : ∀ (n : Nat) (x1 : Int32) (x2 : Int32) (x3 : Int32) (D : dt), Rg 0 511 x1 → Rg 1 8 x2 → Rg 0 512 x3 → Rg 1 512 (x1 + x2) → 512 - x3.toInt < (n : Int) → Inv g S D → wp (f_X5_putOctets_2 S n 17 x1 x2 x3 D) (fun q => Inv g S q.2) := by
  intro n
  induction n with
  | zero =>
    intro x1 x2 x3 D hx1 hx2 hx3 hx1_p_x2 hm h
    exact (ms_0 hx3 (by decide) hm).elim
  | succ n ih =>
    intro x1 x2 x3 D hx1 hx2 hx3 hx1_p_x2 hm h
    rw [f_X5_putOctets_2.eq_2]
    refine wp_if (fun c_1 => ?_) (fun c_1 => ?_)
    ·
      have h_2 : Rg 1 512 _ := rg_le2 hx1_p_x2 hx3 c_1 (by decide)
      exact ⟨_, rfl, h⟩
    ·
      have h_3 : Rg 0 511 _ := rg_lt1 hx3 hx1_p_x2 (nle32 c_1) (by decide)
      refine wp_rq (iR_17_4 h) ?_
      refine wp_ix (in_rg (rg_shr h_3 (by decide) : Rg 0 7 _) (iA_21 h) (by decide)) ?_
      refine wp_ix (in_rg (rg_shr h_3 (by decide) : Rg 0 7 _) (iA_21 h) (by decide)) ?_
      refine wp_nmI (fun D19 e_D19 => ?_)
      have h_D19 : Inv g S D19 := by rw [e_D19]; exact inv_l21 h
      refine wp_cqs (s_X5_holdNothing (iK_17 h_D19) (rg_shr h_3 (by decide) : Rg 0 63 _) h_D19) (fun _ D21 h_D21 => ?_)
      refine wp_nmI (fun y22 e_y22 => ?_)
      have h_y22 : Rg 1 512 y22 := rg_eq e_y22 (rg_add h_3 rc_1 (by decide) : Rg 1 512 _)
      exact ih _ _ _ _ hx1 hx2 (rg_w h_y22 (by decide)) hx1_p_x2 (by rw [e_y22]; exact ms_up h_3 (by decide) hm) h_D21
set_option maxRecDepth 100000 in
theorem s_X5_putOctets {g : gh} {S : sh}  {x1 : Int32} {x2 : Int32} {D : dt} (hx1 : Rg 0 511 x1) (hx2 : Rg 1 8 x2) (hx1_p_x2 : Rg 1 512 (x1 + x2)) (h : Inv g S D) : wp (f_X5_putOctets S 17 x1 x2 D) (fun q => Inv g S q.2) := by
  unfold f_X5_putOctets
  exact s_X5_putOctets_2  LF _ _ _ _ hx1 hx2 (rg_w hx1 (by decide)) hx1_p_x2 (ms_in hx1 (by decide)) h
set_option maxRecDepth 100000 in
theorem s_X5_settle_117 {g : gh} {S : sh} {k59 : Nat → Int32 → Int32 → Int32 → Int32 → dt → Option (Unit × dt)} {n59 : Nat} (hk59 : ∀ (o0 : Nat) (x1 : Int32) (x2 : Int32) (x3 : Int32) (x4 : Int32) (D : dt), sK S o0 = 4 → Rg 0 1 x2 → Rg 0 64 x4 → 64 - x4.toInt < (n59 : Int) → Inv g S D → wp (k59 o0 x1 x2 x3 x4 D) (fun q => Inv g S q.2)) {o0 : Nat} {x1 : Int32} {x2 : Int32} {x3 : Int32} {x4 : Int32} {D : dt} (ho0 : sK S o0 = 4) (hx2 : Rg 0 1 x2) (hx4 : Rg 0 63 x4) (hm59 : 64 - x4.toInt < ((n59 + 1 : Nat) : Int)) (h : Inv g S D) : wp (f_X5_settle_117 S k59 o0 x1 x2 x3 x4 D) (fun q => Inv g S q.2) := by
  unfold f_X5_settle_117
  refine wp_nmI (fun y32 e_y32 => ?_)
  have h_y32 : Rg 1 64 y32 := rg_eq e_y32 (rg_add hx4 rc_1 (by decide) : Rg 1 64 _)
  exact hk59 _ _ _ _ _ _ ho0 hx2 (rg_w h_y32 (by decide)) (by rw [e_y32]; exact ms_up hx4 (by decide) hm59) h
set_option maxRecDepth 100000 in
theorem s_X5_settle_59 {g : gh} {S : sh}  : ∀ (n : Nat) (o0 : Nat) (x1 : Int32) (x2 : Int32) (x3 : Int32) (x4 : Int32) (D : dt), sK S o0 = 4 → Rg 0 1 x2 → Rg 0 64 x4 → 64 - x4.toInt < (n : Int) → Inv g S D → wp (f_X5_settle_59 S n o0 x1 x2 x3 x4 D) (fun q => Inv g S q.2) := by
  intro n
  induction n with
  | zero =>
    intro o0 x1 x2 x3 x4 D ho0 hx2 hx4 hm h
    exact (ms_0 hx4 (by decide) hm).elim
  | succ n ih =>
    intro o0 x1 x2 x3 x4 D ho0 hx2 hx4 hm h
    rw [f_X5_settle_59.eq_2]
    refine wp_if (fun c_1 => ?_) (fun c_1 => ?_)
    ·
      have h_2 : Rg 64 64 _ := rg_le2 rc_64 hx4 c_1 (by decide)
      exact ⟨_, rfl, h⟩
    ·
      have h_3 : Rg 0 63 _ := rg_lt1 hx4 rc_64 (nle32 c_1) (by decide)
      refine wp_if (fun c_4 => ?_) (fun c_4 => ?_)
      ·
        have h_5 : RgL 0 0 _ := rgl_eq1 (rgl_top _) rcl_0 ((lg_cmp_eq _ _).mp c_4) (by decide)
        exact ⟨_, rfl, h⟩
      ·
        refine wp_pqs (s_X5_holds ho0 (rg_w h_3 (by decide)) h) (fun r36 h_r36 => ?_)
        refine wp_if (fun c_6 => ?_) (fun c_6 => ?_)
        ·
          have h_7 : Rg 0 0 _ := rg_eq1 h_r36 rc_0 c_6 (by decide)
          exact s_X5_settle_117 ih ho0 hx2 h_3 hm h
        ·
          have h_8 : Rg 1 1 _ := rg_ne1 h_r36 rc_0 c_6 (by decide)
          refine wp_rq (iSR1 h ho0) ?_
          refine wp_ix (in_rg (rg_add rc_11 h_3 (by decide) : Rg 11 74 _) (iSA1 h ho0) (by decide)) ?_
          refine wp_if (fun c_9 => ?_) (fun c_9 => ?_)
          ·
            refine wp_cqs (s_X5_write ho0 (rg_w (rg_add rc_11 h_3 (by decide) : Rg 11 74 _) (by decide)) (fun _ => ⟨rfl, Or.inr (by decide)⟩) h) (fun _ D45 h_D45 => ?_)
            refine wp_cqs (s_X5_knowCell ho0 h_3 hx2 h_D45) (fun _ D47 h_D47 => ?_)
            exact s_X5_settle_117 ih ho0 hx2 h_3 hm h_D47
          ·
            exact s_X5_settle_117 ih ho0 hx2 h_3 hm h
set_option maxRecDepth 100000 in
theorem s_X5_settle_50 {g : gh} {S : sh} {k23 : Nat → Int32 → Int32 → Int32 → Int32 → dt → Option (Unit × dt)} {n23 : Nat} (hk23 : ∀ (o0 : Nat) (x1 : Int32) (x2 : Int32) (x3 : Int32) (x4 : Int32) (D : dt), sK S o0 = 4 → Rg 0 1 x2 → Rg 0 11 x4 → 11 - x4.toInt < (n23 : Int) → Inv g S D → wp (k23 o0 x1 x2 x3 x4 D) (fun q => Inv g S q.2)) {o0 : Nat} {x1 : Int32} {x2 : Int32} {x3 : Int32} {x4 : Int32} {D : dt} (ho0 : sK S o0 = 4) (hx2 : Rg 0 1 x2) (hx4 : Rg 0 10 x4) (hm23 : 11 - x4.toInt < ((n23 + 1 : Nat) : Int)) (h : Inv g S D) : wp (f_X5_settle_50 S k23 o0 x1 x2 x3 x4 D) (fun q => Inv g S q.2) := by
  unfold f_X5_settle_50
  refine wp_nmI (fun y48 e_y48 => ?_)
  have h_y48 : Rg 1 11 y48 := rg_eq e_y48 (rg_add hx4 rc_1 (by decide) : Rg 1 11 _)
  exact hk23 _ _ _ _ _ _ ho0 hx2 (rg_w h_y48 (by decide)) (by rw [e_y48]; exact ms_up hx4 (by decide) hm23) h
set_option maxRecDepth 100000 in
theorem s_X5_settle_23 {g : gh} {S : sh}  : ∀ (n : Nat) (o0 : Nat) (x1 : Int32) (x2 : Int32) (x3 : Int32) (x4 : Int32) (D : dt), sK S o0 = 4 → Rg 0 1 x2 → Rg 0 11 x4 → 11 - x4.toInt < (n : Int) → Inv g S D → wp (f_X5_settle_23 S n o0 x1 x2 x3 x4 D) (fun q => Inv g S q.2) := by
  intro n
  induction n with
  | zero =>
    intro o0 x1 x2 x3 x4 D ho0 hx2 hx4 hm h
    exact (ms_0 hx4 (by decide) hm).elim
  | succ n ih =>
    intro o0 x1 x2 x3 x4 D ho0 hx2 hx4 hm h
    rw [f_X5_settle_23.eq_2]
    refine wp_if (fun c_1 => ?_) (fun c_1 => ?_)
    ·
      have h_2 : Rg 11 11 _ := rg_le2 rc_11 hx4 c_1 (by decide)
      refine wp_nmI (fun y50 e_y50 => ?_)
      have h_y50 : Rg 0 0 y50 := rg_eq e_y50 rc_0
      exact s_X5_settle_59  LF _ _ _ _ _ _ ho0 hx2 (rg_w h_y50 (by decide)) (ms_in h_y50 (by decide)) h
    ·
      have h_3 : Rg 0 10 _ := rg_lt1 hx4 rc_11 (nle32 c_1) (by decide)
      refine wp_rq (iSR1 h ho0) ?_
      refine wp_ix (in_rg h_3 (iSA1 h ho0) (by decide)) ?_
      refine wp_if (fun c_4 => ?_) (fun c_4 => ?_)
      ·
        refine wp_cqs (s_X5_write ho0 (rg_w h_3 (by decide)) (fun _ => ⟨rfl, Or.inr (by decide)⟩) h) (fun _ D58 h_D58 => ?_)
        exact s_X5_settle_50 ih ho0 hx2 h_3 hm h_D58
      ·
        exact s_X5_settle_50 ih ho0 hx2 h_3 hm h
set_option maxRecDepth 100000 in
theorem s_X5_settle_19 {g : gh} {S : sh}  {o0 : Nat} {x1 : Int32} {x2 : Int32} {xs0 : Int32} {D : dt} (ho0 : sK S o0 = 4) (hx2 : Rg 0 1 x2) (h : Inv g S D) : wp (f_X5_settle_19 S o0 x1 x2 xs0 D) (fun q => Inv g S q.2) := by
  unfold f_X5_settle_19
  refine wp_nmI (fun y59 e_y59 => ?_)
  have h_y59 : Rg 0 0 y59 := rg_eq e_y59 rc_0
  exact s_X5_settle_23  LF _ _ _ _ _ _ ho0 hx2 (rg_w h_y59 (by decide)) (ms_in h_y59 (by decide)) h
set_option maxRecDepth 100000 in
theorem s_X5_settle {g : gh} {S : sh}  {o0 : Nat} {x1 : Int32} {x2 : Int32} {D : dt} (ho0 : sK S o0 = 4) (hx2 : Rg 0 1 x2) (h : Inv g S D) : wp (f_X5_settle S o0 x1 x2 D) (fun q => Inv g S q.2) := by
  unfold f_X5_settle
  refine wp_if (fun c_1 => ?_) (fun c_1 => ?_)
  ·
    have h_2 : Rg 0 0 _ := rg_eq1 hx2 rc_0 c_1 (by decide)
    refine wp_pqs (s_X5_tagOf (rg_w rc_5 (by decide)) (rg_w rc_0 (by decide))) (fun r62 _ => ?_)
    exact s_X5_settle_19 ho0 (rg_w h_2 (by decide)) h
  ·
    have h_3 : Rg 1 1 _ := rg_ne1 hx2 rc_0 c_1 (by decide)
    exact s_X5_settle_19 ho0 (rg_w h_3 (by decide)) h
set_option maxRecDepth 100000 in
theorem s_X5_isOne {g : gh} {S : sh} {D : dt}  {x1 : Int32} (hx1 : Rg 0 10 x1) (h : Inv g S D) : wp (f_X5_isOne S D 17 x1) (fun q => Rg 0 1 q) := by
  unfold f_X5_isOne
  refine wp_rq (iR_17_2 h) ?_
  refine wp_ix (in_rg hx1 (iA_19 h) (by decide)) ?_
  refine wp_rq (iR_17_3 h) ?_
  refine wp_ix (in_rg hx1 (iA_20 h) (by decide)) ?_
  refine wp_if (fun c_1 => ?_) (fun c_1 => ?_)
  ·
    exact ⟨_, rfl, (rg_w rc_1 (by decide))⟩
  ·
    exact ⟨_, rfl, (rg_w rc_0 (by decide))⟩
theorem q_lowhigh {g : gh} {S : sh} {D D1 D2 : dt} {o0 p : Nat} {a b : Int64} (k : sK S o0 = 4) (hk : ¬ gI D (o0 + 1) p &&& 15 = 3) (h : Inv g S D) (e1 : D1 = pL D (o0 + 2) p a) (e2 : D2 = pL D1 (o0 + 3) p b) : Inv g S D2 := by
  have h1 : Inv g S D1 := by rw [e1]; exact inv_low h k hk
  rw [e2]
  exact inv_high h1 k (by rw [e1, gI_pL]; exact hk)
theorem q_joinPlace_129 {g : gh} {S : sh} {o0 : Nat} {x1 : Int32} {x3 x5 : Int64} {D : dt} (k : sK S o0 = 4) (hx1 : Rg 0 74 x1) (hk : ¬ gI D (o0 + 1) x1.toNatClampNeg &&& 15 = 3) (h : Inv g S D) : wp (f_X5_joinPlace_129 S o0 x1 x3 x5 D) (fun q => Inv g S q.2) := by
  unfold f_X5_joinPlace_129
  have i2 := in_rg hx1 (iSA2 h k) (by decide)
  have i3 := in_rg hx1 (iSA3 h k) (by decide)
  refine wp_rq (iSR2 h k) (wp_rq (iSR2 h k) (wp_ix i2 (wp_ix i2 (wp_nmI (fun D1 e1 => ?_)))))
  refine wp_rq (x := o0 + 3) (by rw [e1, gR_pL]; exact iSR3 h k) (wp_rq (x := o0 + 3) (by rw [e1, gR_pL]; exact iSR3 h k) (wp_ix i3 (wp_ix i3 (wp_nmI (fun D2 e2 => ⟨_, rfl, q_lowhigh k hk h e1 e2⟩)))))
theorem q_joinPlace_82 {g : gh} {S : sh} {o0 : Nat} {x1 : Int32} {x5 xs2 : Int64} {D : dt} (k : sK S o0 = 4) (hx1 : Rg 0 74 x1) (hk : ¬ gI D (o0 + 1) x1.toNatClampNeg &&& 15 = 3) (h : Inv g S D) : wp (f_X5_joinPlace_82 S o0 x1 x5 (o0 + 2) x1 xs2 D) (fun q => Inv g S q.2) := by
  unfold f_X5_joinPlace_82
  have i2 := in_rg hx1 (iSA2 h k) (by decide)
  have i3 := in_rg hx1 (iSA3 h k) (by decide)
  refine wp_ix i2 (wp_nmI (fun D1 e1 => ?_))
  have r3 : gR D1 o0 3 = some (o0 + 3) := by rw [e1, gR_pL]; exact iSR3 h k
  have fin : ∀ v, wp (f_X5_joinPlace_113 S (o0 + 3) x1 v D1) (fun q => Inv g S q.2) := by
    intro v
    unfold f_X5_joinPlace_113
    exact wp_ix i3 (wp_nmI (fun D2 e2 => ⟨_, rfl, q_lowhigh k hk h e1 e2⟩))
  refine wp_rq r3 (wp_rq r3 (wp_ix i3 (wp_pqs s_X3_below (fun r _ => wp_if (fun _ => wp_rq r3 (wp_ix i3 (fin _))) (fun _ => fin _)))))
theorem s_X5_joinPlace {g : gh} {S : sh} {o0 : Nat} {x1 : Int32} {o2 : Nat} {D : dt} (ho0 : sK S o0 = 4) (hx1 : Rg 0 74 x1) (ho2 : sK S o2 = 4) (h : Inv g S D) : wp (f_X5_joinPlace S o0 x1 o2 D) (fun q => Inv g S q.2) := by
  unfold f_X5_joinPlace
  have i1 := in_rg hx1 (iSA1 h ho0) (by decide)
  have i2 := in_rg hx1 (iSA2 h ho0) (by decide)
  have j1 := in_rg hx1 (iSA1 h ho2) (by decide)
  have j2 := in_rg hx1 (iSA2 h ho2) (by decide)
  have j3 := in_rg hx1 (iSA3 h ho2) (by decide)
  have w0 : wp (f_X5_write S o0 x1 0 0 0 D) (fun q => Inv g S q.2) := s_X5_write ho0 hx1 (fun q => absurd q (by decide)) h
  refine wp_rq (iSR2 h ho2) (wp_ix j2 (wp_nmI (fun y1 _ => wp_rq (iSR3 h ho2) (wp_ix j3 (wp_nmI (fun y2 _ => ?_))))))
  refine wp_pqs (s_X5_kind ho0 hx1 h) (fun r p => wp_rq (iSR1 h ho0) (wp_ix i1 (wp_rq (iSR1 h ho2) (wp_ix j1 (wp_if (fun _ => ?_) (fun _ => wp_cqs w0 (fun _ D1 h1 => ⟨_, rfl, h1⟩)))))))
  have nk : ∀ v : Int32, r = v → v ≠ 3 → ¬ gI D (o0 + 1) x1.toNatClampNeg &&& 15 = 3 := fun v e n q => n (e.symm.trans (p.2.trans q))
  refine wp_if (fun c => ?_) (fun _ => wp_if (fun c => q_joinPlace_129 ho0 hx1 (nk _ c (by decide)) h) (fun _ => wp_if (fun c => q_joinPlace_129 ho0 hx1 (nk _ c (by decide)) h) (fun _ => ?_)))
  · refine wp_rq (iSR2 h ho0) (wp_rq (iSR2 h ho0) (wp_ix i2 (wp_pqs s_X3_below (fun r2 _ => wp_if (fun _ => wp_rq (iSR2 h ho0) (wp_ix i2 (q_joinPlace_82 ho0 hx1 (nk _ c (by decide)) h))) (fun _ => q_joinPlace_82 ho0 hx1 (nk _ c (by decide)) h)))))
  · exact wp_rq (iSR2 h ho0) (wp_ix i2 (wp_if (fun _ => ⟨_, rfl, h⟩) (fun _ => wp_cqs w0 (fun _ D1 h1 => ⟨_, rfl, h1⟩))))
set_option maxRecDepth 100000 in
theorem s_X5_joinWith_112 {g : gh} {S : sh} {k64 : Nat → Nat → Int32 → dt → Option (Unit × dt)} {n64 : Nat} (hk64 : ∀ (o0 : Nat) (o1 : Nat) (x2 : Int32) (D : dt), sK S o0 = 4 → sK S o1 = 4 → Rg 0 64 x2 → 64 - x2.toInt < (n64 : Int) → Inv g S D → wp (k64 o0 o1 x2 D) (fun q => Inv g S q.2)) {o0 : Nat} {o1 : Nat} {x2 : Int32} {D : dt} (ho0 : sK S o0 = 4) (ho1 : sK S o1 = 4) (hx2 : Rg 0 63 x2) (hm64 : 64 - x2.toInt < ((n64 + 1 : Nat) : Int)) (h : Inv g S D) : wp (f_X5_joinWith_112 S k64 o0 o1 x2 D) (fun q => Inv g S q.2) := by
  unfold f_X5_joinWith_112
  refine wp_nmI (fun y36 e_y36 => ?_)
  have h_y36 : Rg 1 64 y36 := rg_eq e_y36 (rg_add hx2 rc_1 (by decide) : Rg 1 64 _)
  exact hk64 _ _ _ _ ho0 ho1 (rg_w h_y36 (by decide)) (by rw [e_y36]; exact ms_up hx2 (by decide) hm64) h
set_option maxRecDepth 100000 in
theorem s_X5_joinWith_64 {g : gh} {S : sh}  : ∀ (n : Nat) (o0 : Nat) (o1 : Nat) (x2 : Int32) (D : dt), sK S o0 = 4 → sK S o1 = 4 → Rg 0 64 x2 → 64 - x2.toInt < (n : Int) → Inv g S D → wp (f_X5_joinWith_64 S n o0 o1 x2 D) (fun q => Inv g S q.2) := by
  intro n
  induction n with
  | zero =>
    intro o0 o1 x2 D ho0 ho1 hx2 hm h
    exact (ms_0 hx2 (by decide) hm).elim
  | succ n ih =>
    intro o0 o1 x2 D ho0 ho1 hx2 hm h
    rw [f_X5_joinWith_64.eq_2]
    refine wp_if (fun c_1 => ?_) (fun c_1 => ?_)
    ·
      have h_2 : Rg 64 64 _ := rg_le2 rc_64 hx2 c_1 (by decide)
      exact ⟨_, rfl, h⟩
    ·
      have h_3 : Rg 0 63 _ := rg_lt1 hx2 rc_64 (nle32 c_1) (by decide)
      refine wp_if (fun c_4 => ?_) (fun c_4 => ?_)
      ·
        have h_5 : RgL 0 0 _ := rgl_eq1 (rgl_top _) rcl_0 ((lg_cmp_eq _ _).mp c_4) (by decide)
        exact ⟨_, rfl, h⟩
      ·
        refine wp_pqs (s_X5_holds ho0 (rg_w h_3 (by decide)) h) (fun r40 h_r40 => ?_)
        refine wp_if (fun c_6 => ?_) (fun c_6 => ?_)
        ·
          have h_7 : Rg 0 0 _ := rg_eq1 h_r40 rc_0 c_6 (by decide)
          exact s_X5_joinWith_112 ih ho0 ho1 h_3 hm h
        ·
          have h_8 : Rg 1 1 _ := rg_ne1 h_r40 rc_0 c_6 (by decide)
          refine wp_cqs (s_X5_joinPlace ho0 (rg_w (rg_add rc_11 h_3 (by decide) : Rg 11 74 _) (by decide)) ho1 h) (fun _ D43 h_D43 => ?_)
          refine wp_pqs (s_X5_isNone ho0 (rg_w (rg_add rc_11 h_3 (by decide) : Rg 11 74 _) (by decide)) h_D43) (fun r45 h_r45 => ?_)
          refine wp_if (fun c_9 => ?_) (fun c_9 => ?_)
          ·
            have h_10 : Rg 0 0 _ := rg_eq1 h_r45 rc_0 c_9 (by decide)
            exact s_X5_joinWith_112 ih ho0 ho1 h_3 hm h_D43
          ·
            have h_11 : Rg 1 1 _ := rg_ne1 h_r45 rc_0 c_9 (by decide)
            refine wp_cqs (s_X5_holdNothing ho0 h_3 h_D43) (fun _ D48 h_D48 => ?_)
            exact s_X5_joinWith_112 ih ho0 ho1 h_3 hm h_D48
set_option maxRecDepth 100000 in
theorem s_X5_joinWith_22 {g : gh} {S : sh}  : ∀ (n : Nat) (o0 : Nat) (o1 : Nat) (x2 : Int32) (D : dt), sK S o0 = 4 → sK S o1 = 4 → Rg 0 8 x2 → 8 - x2.toInt < (n : Int) → Inv g S D → wp (f_X5_joinWith_22 S n o0 o1 x2 D) (fun q => Inv g S q.2) := by
  intro n
  induction n with
  | zero =>
    intro o0 o1 x2 D ho0 ho1 hx2 hm h
    exact (ms_0 hx2 (by decide) hm).elim
  | succ n ih =>
    intro o0 o1 x2 D ho0 ho1 hx2 hm h
    rw [f_X5_joinWith_22.eq_2]
    refine wp_if (fun c_1 => ?_) (fun c_1 => ?_)
    ·
      have h_2 : Rg 8 8 _ := rg_le2 rc_8 hx2 c_1 (by decide)
      refine wp_nmI (fun D50 e_D50 => ?_)
      have h_D50 : Inv g S D50 := by rw [e_D50]; exact inv_pL_k h (Or.inl ho0)
      refine wp_nmI (fun y51 e_y51 => ?_)
      have h_y51 : Rg 0 0 y51 := rg_eq e_y51 rc_0
      exact s_X5_joinWith_64  LF _ _ _ _ ho0 ho1 (rg_w h_y51 (by decide)) (ms_in h_y51 (by decide)) h_D50
    ·
      have h_3 : Rg 0 7 _ := rg_lt1 hx2 rc_8 (nle32 c_1) (by decide)
      refine wp_rq (iSR4 h ho0) ?_
      refine wp_ix (in_rg h_3 (iSA4 h ho0) (by decide)) ?_
      refine wp_rq (iSR4 h ho1) ?_
      refine wp_ix (in_rg h_3 (iSA4 h ho1) (by decide)) ?_
      refine wp_ix (in_rg h_3 (iSA4 h ho0) (by decide)) ?_
      refine wp_nmI (fun D63 e_D63 => ?_)
      have h_D63 : Inv g S D63 := by rw [e_D63]; exact inv_pL_kn h ho0
      refine wp_nmI (fun y64 e_y64 => ?_)
      have h_y64 : Rg 1 8 y64 := rg_eq e_y64 (rg_add h_3 rc_1 (by decide) : Rg 1 8 _)
      exact ih _ _ _ _ ho0 ho1 (rg_w h_y64 (by decide)) (by rw [e_y64]; exact ms_up h_3 (by decide) hm) h_D63
