set_option maxRecDepth 100000 in
theorem s_X9_reckonRange_91 {g : gh} {S : sh}  {x1 : Int32} {x2 : Int32} {x3 : Int32} {x4 : Int32} {x5 : Int64} {x7 : Int64} {x9 : Int64} {x11 : Int64} {x13 : Int32} {D : dt} (hx1 : Rg 0 199 x1) (hx2 : Rg 0 15 x2) (hx3 : Rg 0 1 x3) (hx4 : Rg 0 10 x4) (hx13 : Rg 0 1 x13) (h30_x1 : Rg 0 10 (g.2 30 x1.toNatClampNeg)) (h31_x1 : Rg 0 10 (g.2 31 x1.toNatClampNeg)) (h13 : (g.2 29 x1.toNatClampNeg >>> ((4 : Int32) &&& 31) = 13 → Rg 0 64 (g.2 33 x1.toNatClampNeg))) (h : Inv g S D) : wp (f_X9_reckonRange_91 S 28 x1 x2 x3 x4 x5 x7 x9 x11 x13 D) (fun q => Inv g S q.2) := by
  unfold f_X9_reckonRange_91
  exact s_X9_reckonRange_92 hx1 hx2 hx3 hx4 hx13 (rg_w rc_0 (by decide)) h30_x1 h31_x1 (by first | exact h13 | exact (fun ne => absurd rfl ne)) h
set_option maxRecDepth 100000 in
theorem s_X9_reckonRange_64 {g : gh} {S : sh}  {x1 : Int32} {x2 : Int32} {x3 : Int32} {x4 : Int32} {x5 : Int64} {x7 : Int64} {x9 : Int64} {x11 : Int64} {xs0 : Int32} {D : dt} (hx1 : Rg 0 199 x1) (hx2 : Rg 0 15 x2) (hx3 : Rg 0 1 x3) (hx4 : Rg 0 10 x4) (hxs0 : Rg 0 1 xs0) (h30_x1 : Rg 0 10 (g.2 30 x1.toNatClampNeg)) (h31_x1 : Rg 0 10 (g.2 31 x1.toNatClampNeg)) (h13 : (g.2 29 x1.toNatClampNeg >>> ((4 : Int32) &&& 31) = 13 → Rg 0 64 (g.2 33 x1.toNatClampNeg))) (h : Inv g S D) : wp (f_X9_reckonRange_64 S 28 x1 x2 x3 x4 x5 x7 x9 x11 xs0 D) (fun q => Inv g S q.2) := by
  unfold f_X9_reckonRange_64
  refine wp_if (fun c_1 => ?_) (fun c_1 => ?_)
  ·
    have h_2 : Rg 0 0 _ := rg_eq1 hx3 rc_0 c_1 (by decide)
    refine wp_if (fun c_3 => ?_) (fun c_3 => ?_)
    ·
      have h_4 : Rg 13 13 _ := rg_eq1 hx2 rc_13 c_3 (by decide)
      exact s_X9_reckonRange_91 hx1 (rg_w h_4 (by decide)) (rg_w h_2 (by decide)) hx4 hxs0 h30_x1 h31_x1 (by first | exact h13 | exact (fun ne => absurd rfl ne)) h
    ·
      refine wp_pqs (s_X9_isBelow ) (fun r266 h_r266 => ?_)
      refine wp_if (fun c_5 => ?_) (fun c_5 => ?_)
      ·
        have h_6 : Rg 0 0 _ := rg_eq1 h_r266 rc_0 c_5 (by decide)
        exact s_X9_reckonRange_91 hx1 hx2 (rg_w h_2 (by decide)) hx4 hxs0 h30_x1 h31_x1 (by first | exact h13 | exact (fun ne => absurd rfl ne)) h
      ·
        have h_7 : Rg 1 1 _ := rg_ne1 h_r266 rc_0 c_5 (by decide)
        exact s_X9_reckonRange_92 hx1 hx2 (rg_w h_2 (by decide)) hx4 hxs0 (rg_w rc_1 (by decide)) h30_x1 h31_x1 (by first | exact h13 | exact (fun ne => absurd rfl ne)) h
  ·
    have h_8 : Rg 1 1 _ := rg_ne1 hx3 rc_0 c_1 (by decide)
    exact s_X9_reckonRange_91 hx1 hx2 (rg_w h_8 (by decide)) hx4 hxs0 h30_x1 h31_x1 (by first | exact h13 | exact (fun ne => absurd rfl ne)) h
set_option maxRecDepth 100000 in
theorem s_X9_reckonRange_63 {g : gh} {S : sh}  {x1 : Int32} {x2 : Int32} {x3 : Int32} {x4 : Int32} {x5 : Int64} {x7 : Int64} {x9 : Int64} {x11 : Int64} {D : dt} (hx1 : Rg 0 199 x1) (hx2 : Rg 0 15 x2) (hx3 : Rg 0 1 x3) (hx4 : Rg 0 10 x4) (h30_x1 : Rg 0 10 (g.2 30 x1.toNatClampNeg)) (h31_x1 : Rg 0 10 (g.2 31 x1.toNatClampNeg)) (h13 : (g.2 29 x1.toNatClampNeg >>> ((4 : Int32) &&& 31) = 13 → Rg 0 64 (g.2 33 x1.toNatClampNeg))) (h : Inv g S D) : wp (f_X9_reckonRange_63 S 28 x1 x2 x3 x4 x5 x7 x9 x11 D) (fun q => Inv g S q.2) := by
  unfold f_X9_reckonRange_63
  exact s_X9_reckonRange_64 hx1 hx2 hx3 hx4 (rg_w rc_0 (by decide)) h30_x1 h31_x1 (by first | exact h13 | exact (fun ne => absurd rfl ne)) h
set_option maxRecDepth 100000 in
theorem s_X9_reckonRange {g : gh} {S : sh}  {x1 : Int32} {x2 : Int32} {x3 : Int32} {D : dt} (hx1 : Rg 0 199 x1) (hx2 : Rg 0 15 x2) (hx3 : Rg 0 1 x3) (h30_x1 : Rg 0 10 (g.2 30 x1.toNatClampNeg)) (h31_x1 : Rg 0 10 (g.2 31 x1.toNatClampNeg)) (h13 : (g.2 29 x1.toNatClampNeg >>> ((4 : Int32) &&& 31) = 13 → Rg 0 64 (g.2 33 x1.toNatClampNeg))) (h : Inv g S D) : wp (f_X9_reckonRange S 28 x1 x2 x3 D) (fun q => Inv g S q.2) := by
  unfold f_X9_reckonRange
  refine wp_rq (iR_28_2 h) ?_
  refine wp_ix (in_rg hx1 (iA_30 h) (by decide)) ?_
  refine wp_nmI (fun y273 e_y273 => ?_)
  have h_y273 : Rg 0 10 y273 := rg_eq e_y273 (rg_eq (h.p 30 _ rfl) h30_x1)
  refine wp_rq (iR_28_41 h) ?_
  refine wp_ix (in_rg h_y273 (iA_61 h) (by decide)) ?_
  refine wp_nmI (fun y279 e_y279 => ?_)
  refine wp_rq (iR_28_42 h) ?_
  refine wp_ix (in_rg h_y273 (iA_62 h) (by decide)) ?_
  refine wp_nmI (fun y285 e_y285 => ?_)
  refine wp_nmI (fun y286 e_y286 => ?_)
  refine wp_nmI (fun y287 e_y287 => ?_)
  refine wp_if (fun c_1 => ?_) (fun c_1 => ?_)
  ·
    have h_2 : Rg 0 0 _ := rg_eq1 hx3 rc_0 c_1 (by decide)
    refine wp_if (fun c_3 => ?_) (fun c_3 => ?_)
    ·
      have h_4 : Rg 13 13 _ := rg_eq1 hx2 rc_13 c_3 (by decide)
      exact s_X9_reckonRange_63 hx1 (rg_w h_4 (by decide)) (rg_w h_2 (by decide)) h_y273 h30_x1 h31_x1 (by first | exact h13 | exact (fun ne => absurd rfl ne)) h
    ·
      refine wp_pqs (s_X9_isBelow ) (fun r291 h_r291 => ?_)
      refine wp_if (fun c_5 => ?_) (fun c_5 => ?_)
      ·
        have h_6 : Rg 0 0 _ := rg_eq1 h_r291 rc_0 c_5 (by decide)
        exact s_X9_reckonRange_63 hx1 hx2 (rg_w h_2 (by decide)) h_y273 h30_x1 h31_x1 (by first | exact h13 | exact (fun ne => absurd rfl ne)) h
      ·
        have h_7 : Rg 1 1 _ := rg_ne1 h_r291 rc_0 c_5 (by decide)
        exact s_X9_reckonRange_64 hx1 hx2 (rg_w h_2 (by decide)) h_y273 (rg_w rc_1 (by decide)) h30_x1 h31_x1 (by first | exact h13 | exact (fun ne => absurd rfl ne)) h
  ·
    have h_8 : Rg 1 1 _ := rg_ne1 hx3 rc_0 c_1 (by decide)
    exact s_X9_reckonRange_63 hx1 hx2 (rg_w h_8 (by decide)) h_y273 h30_x1 h31_x1 (by first | exact h13 | exact (fun ne => absurd rfl ne)) h
set_option maxRecDepth 100000 in
theorem s_X9_isPointer_15    : wp (f_X9_isPointer_15) (fun q => Rg 0 1 q) := by
  unfold f_X9_isPointer_15
  exact ⟨_, rfl, (rg_w rc_1 (by decide))⟩
set_option maxRecDepth 100000 in
theorem s_X9_isPointer  {x0 : Int32}  : wp (f_X9_isPointer x0) (fun q => Rg 0 1 q) := by
  unfold f_X9_isPointer
  refine wp_if (fun c_1 => ?_) (fun c_1 => ?_)
  ·
    have h_2 : Rg 2 2 _ := rg_eq1 (rg_top _) rc_2 c_1 (by decide)
    exact s_X9_isPointer_15 
  ·
    refine wp_if (fun c_3 => ?_) (fun c_3 => ?_)
    ·
      have h_4 : Rg 3 3 _ := rg_eq1 (rg_top _) rc_3 c_3 (by decide)
      exact s_X9_isPointer_15 
    ·
      refine wp_if (fun c_5 => ?_) (fun c_5 => ?_)
      ·
        have h_6 : Rg 5 5 _ := rg_eq1 (rg_top _) rc_5 c_5 (by decide)
        exact s_X9_isPointer_15 
      ·
        exact ⟨_, rfl, (rg_w rc_0 (by decide))⟩
set_option maxRecDepth 100000 in
theorem s_X9_lookPointer_360 {g : gh} {S : sh}  {x4 : Int32} {x18 : Int32} {xs1 : Int32} {xs2 : Int64} {D : dt} (hx4 : Rg 0 10 x4) (hx18 : Rg 0 3 x18) (hxs1 : Rg 0 10 xs1) (hxs2 : RgL (-1048576) 1048576 xs2) (h : Inv g S D) : wp (f_X9_lookPointer_360 S 28 x4 x18 62 xs1 xs2 D) (fun q => Rg 0 3 q.1 ∧ Inv g S q.2) := by
  unfold f_X9_lookPointer_360
  refine wp_ix (in_rg hxs1 (iA_62 h) (by decide)) ?_
  refine wp_nmI (fun D131 e_D131 => ?_)
  have h_D131 : Inv g S D131 := by rw [e_D131]; exact inv_l62 h
  refine wp_rq (iR_28_43 h_D131) ?_
  refine wp_ix (in_rg hx4 (iA_63 h_D131) (by decide)) ?_
  refine wp_nmI (fun D137 e_D137 => ?_)
  have h_D137 : Inv g S D137 := by rw [e_D137]; exact inv_i63 h_D131 hx18
  exact ⟨_, rfl, (rg_w rc_0 (by decide)), h_D137⟩
set_option maxRecDepth 100000 in
theorem s_X9_lookPointer_268 {g : gh} {S : sh}  {x4 : Int32} {x6 : Int32} {x13 : Int64} {xs0 : Int64} {D : dt} (hx4 : Rg 0 10 x4) (hx6 : Rg 0 10 x6) (hfz : g.1 12 = 0) (h : Inv g S D) : wp (f_X9_lookPointer_268 S 28 x4 x6 x13 xs0 D) (fun q => Rg 0 3 q.1 ∧ Inv g S q.2) := by
  unfold f_X9_lookPointer_268
  refine wp_pqs (s_X9_in) (fun r139 q_r139 => ?_)
  obtain ⟨h_r139, x_r139⟩ := q_r139
  refine wp_if (fun c_1 => ?_) (fun c_1 => ?_)
  ·
    have h_2 : Rg 0 0 _ := rg_eq1 h_r139 rc_0 c_1 (by decide)
    exact ⟨_, rfl, (rg_w rc_3 (by decide)), h⟩
  ·
    have h_3 := x_r139 c_1
    have h_4 : RgL (-1048576) 1048576 _ := rgl_in (rgl_top _) rcl_m1048576 rcl_1048576 h_3 (by decide)
    have h_5 : Rg 1 1 _ := rg_ne1 h_r139 rc_0 c_1 (by decide)
    refine wp_pqs (s_X9_in) (fun r142 q_r142 => ?_)
    obtain ⟨h_r142, x_r142⟩ := q_r142
    refine wp_if (fun c_6 => ?_) (fun c_6 => ?_)
    ·
      have h_7 : Rg 0 0 _ := rg_eq1 h_r142 rc_0 c_6 (by decide)
      exact ⟨_, rfl, (rg_w rc_3 (by decide)), h⟩
    ·
      have h_8 := x_r142 c_6
      have h_9 : RgL (-1048576) 1048576 _ := rgl_in (rgl_top _) rcl_m1048576 rcl_1048576 h_8 (by decide)
      have h_10 : Rg 1 1 _ := rg_ne1 h_r142 rc_0 c_6 (by decide)
      refine wp_rq (iR_28_40 h) ?_
      refine wp_ix (in_rg hx6 (iA_60 h) (by decide)) ?_
      refine wp_nmI (fun y149 e_y149 => ?_)
      refine wp_rq (iR_28_43 h) ?_
      refine wp_ix (in_rg hx6 (iA_63 h) (by decide)) ?_
      refine wp_nmI (fun y155 e_y155 => ?_)
      have h_y155 : Rg 0 3 y155 := rg_eq e_y155 (iI_63 h _)
      refine wp_cqs (s_X9_forget (rg_w hx4 (by decide)) h) (fun _ D157 h_D157 => ?_)
      refine wp_rq (iR_28_40 h_D157) ?_
      refine wp_ix (in_rg hx4 (iA_60 h_D157) (by decide)) ?_
      refine wp_nmI (fun D163 e_D163 => ?_)
      refine wp_rq (x := 61) (by rw [e_D163, gR_pI]; exact (iR_28_41 h_D157)) ?_
      refine wp_ix (in_rg hx4 (iA_61 h_D157) (by decide)) ?_
      refine wp_nmI (fun D169 e_D169 => ?_)
      have h_D169 : Inv g S D169 := by rw [e_D169, e_D163]; exact inv_kl60 h_D157 (fun _ => Or.inl hfz) (fun _ => h_4)
      refine wp_rq (iR_28_42 h_D169) ?_
      refine wp_if (fun c_11 => ?_) (fun c_11 => ?_)
      ·
        have h_12 : Rg 3 3 _ := rg_eq1 (rg_top _) rc_3 c_11 (by decide)
        exact s_X9_lookPointer_360 hx4 h_y155 hx4 (rgl_w rcl_0 (by decide)) h_D169
      ·
        exact s_X9_lookPointer_360 hx4 h_y155 hx4 h_9 h_D169
set_option maxRecDepth 100000 in
theorem s_X9_lookPointer_248 {g : gh} {S : sh}  {x4 : Int32} {x6 : Int32} {x13 : Int64} {xs0 : Int64} {D : dt} (hx4 : Rg 0 10 x4) (hx6 : Rg 0 10 x6) (hfz : g.1 12 = 0) (h : Inv g S D) : wp (f_X9_lookPointer_248 S 28 x4 x6 x13 xs0 D) (fun q => Rg 0 3 q.1 ∧ Inv g S q.2) := by
  unfold f_X9_lookPointer_248
  refine wp_rq (iR_28_40 h) ?_
  refine wp_ix (in_rg hx6 (iA_60 h) (by decide)) ?_
  refine wp_if (fun c_1 => ?_) (fun c_1 => ?_)
  ·
    have h_2 : Rg 3 3 _ := rg_eq1 (rg_top _) rc_3 c_1 (by decide)
    exact s_X9_lookPointer_268 hx4 hx6 hfz h
  ·
    exact s_X9_lookPointer_268 hx4 hx6 hfz h
set_option maxRecDepth 100000 in
theorem s_X9_lookPointer_219 {g : gh} {S : sh}  {x2 : Int32} {x4 : Int32} {x6 : Int32} {x7 : Int64} {x9 : Int64} {xs0 : Int64} {D : dt} (hx2 : Rg 0 1 x2) (hx4 : Rg 0 10 x4) (hx6 : Rg 0 10 x6) (hfz : g.1 12 = 0) (h : Inv g S D) : wp (f_X9_lookPointer_219 S 28 x2 x4 x6 x7 x9 xs0 D) (fun q => Rg 0 3 q.1 ∧ Inv g S q.2) := by
  unfold f_X9_lookPointer_219
  refine wp_if (fun c_1 => ?_) (fun c_1 => ?_)
  ·
    have h_2 : Rg 0 0 _ := rg_eq1 hx2 rc_0 c_1 (by decide)
    refine wp_rq (iR_28_42 h) ?_
    refine wp_ix (in_rg hx6 (iA_62 h) (by decide)) ?_
    exact s_X9_lookPointer_248 hx4 hx6 hfz h
  ·
    have h_3 : Rg 1 1 _ := rg_ne1 hx2 rc_0 c_1 (by decide)
    refine wp_rq (iR_28_42 h) ?_
    refine wp_ix (in_rg hx6 (iA_62 h) (by decide)) ?_
    exact s_X9_lookPointer_248 hx4 hx6 hfz h
set_option maxRecDepth 100000 in
theorem s_X9_lookPointer_192 {g : gh} {S : sh}  {x2 : Int32} {x4 : Int32} {x6 : Int32} {x7 : Int64} {x9 : Int64} {D : dt} (hx2 : Rg 0 1 x2) (hx4 : Rg 0 10 x4) (hx6 : Rg 0 10 x6) (hfz : g.1 12 = 0) (h : Inv g S D) : wp (f_X9_lookPointer_192 S 28 x2 x4 x6 x7 x9 D) (fun q => Rg 0 3 q.1 ∧ Inv g S q.2) := by
  unfold f_X9_lookPointer_192
  refine wp_if (fun c_1 => ?_) (fun c_1 => ?_)
  ·
    have h_2 : Rg 0 0 _ := rg_eq1 hx2 rc_0 c_1 (by decide)
    refine wp_rq (iR_28_41 h) ?_
    refine wp_ix (in_rg hx6 (iA_61 h) (by decide)) ?_
    exact s_X9_lookPointer_219 (rg_w h_2 (by decide)) hx4 hx6 hfz h
  ·
    have h_3 : Rg 1 1 _ := rg_ne1 hx2 rc_0 c_1 (by decide)
    refine wp_rq (iR_28_41 h) ?_
    refine wp_ix (in_rg hx6 (iA_61 h) (by decide)) ?_
    exact s_X9_lookPointer_219 (rg_w h_3 (by decide)) hx4 hx6 hfz h
set_option maxRecDepth 100000 in
theorem s_X9_lookPointer_164 {g : gh} {S : sh}  {x2 : Int32} {x4 : Int32} {x6 : Int32} {x7 : Int64} {x9 : Int64} {xs0 : Int32} {D : dt} (hx2 : Rg 0 1 x2) (hx4 : Rg 0 10 x4) (hx6 : Rg 0 10 x6) (hxs0 : Rg 0 1 xs0) (hfz : g.1 12 = 0) (h : Inv g S D) : wp (f_X9_lookPointer_164 S 28 x2 x4 x6 x7 x9 xs0 D) (fun q => Rg 0 3 q.1 ∧ Inv g S q.2) := by
  unfold f_X9_lookPointer_164
  refine wp_if (fun c_1 => ?_) (fun c_1 => ?_)
  ·
    have h_2 : Rg 0 0 _ := rg_eq1 hxs0 rc_0 c_1 (by decide)
    exact ⟨_, rfl, (rg_w rc_3 (by decide)), h⟩
  ·
    have h_3 : Rg 1 1 _ := rg_ne1 hxs0 rc_0 c_1 (by decide)
    refine wp_rq (iR_28_40 h) ?_
    refine wp_ix (in_rg hx6 (iA_60 h) (by decide)) ?_
    refine wp_if (fun c_4 => ?_) (fun c_4 => ?_)
    ·
      have h_5 : Rg 3 3 _ := rg_eq1 (rg_top _) rc_3 c_4 (by decide)
      refine wp_if (fun c_6 => ?_) (fun c_6 => ?_)
      ·
        exact s_X9_lookPointer_192 hx2 hx4 hx6 hfz h
      ·
        exact ⟨_, rfl, (rg_w rc_3 (by decide)), h⟩
    ·
      exact s_X9_lookPointer_192 hx2 hx4 hx6 hfz h
set_option maxRecDepth 100000 in
theorem s_X9_lookPointer_121 {g : gh} {S : sh}  {x2 : Int32} {x3 : Int32} {x4 : Int32} {x6 : Int32} {x7 : Int64} {x9 : Int64} {xs0 : Int32} {D : dt} (hx2 : Rg 0 1 x2) (hx3 : Rg 0 1 x3) (hx4 : Rg 0 10 x4) (hx6 : Rg 0 10 x6) (hxs0 : Rg 0 1 xs0) (hfz : g.1 12 = 0) (h : Inv g S D) : wp (f_X9_lookPointer_121 S 28 x2 x3 x4 x6 x7 x9 xs0 D) (fun q => Rg 0 3 q.1 ∧ Inv g S q.2) := by
  unfold f_X9_lookPointer_121
  refine wp_if (fun c_1 => ?_) (fun c_1 => ?_)
  ·
    have h_2 : Rg 0 0 _ := rg_eq1 hxs0 rc_0 c_1 (by decide)
    exact ⟨_, rfl, (rg_w rc_3 (by decide)), h⟩
  ·
    have h_3 : Rg 1 1 _ := rg_ne1 hxs0 rc_0 c_1 (by decide)
    refine wp_if (fun c_4 => ?_) (fun c_4 => ?_)
    ·
      have h_5 : Rg 0 0 _ := rg_eq1 hx3 rc_0 c_4 (by decide)
      refine wp_pqs (s_X9_in) (fun r214 q_r214 => ?_)
      obtain ⟨h_r214, x_r214⟩ := q_r214
      exact s_X9_lookPointer_164 hx2 hx4 hx6 h_r214 hfz h
    ·
      have h_6 : Rg 1 1 _ := rg_ne1 hx3 rc_0 c_4 (by decide)
      refine wp_pqs (s_X9_isBelow ) (fun r216 h_r216 => ?_)
      refine wp_if (fun c_7 => ?_) (fun c_7 => ?_)
      ·
        have h_8 : Rg 0 0 _ := rg_eq1 h_r216 rc_0 c_7 (by decide)
        exact s_X9_lookPointer_164 hx2 hx4 hx6 (rg_w rc_1 (by decide)) hfz h
      ·
        have h_9 : Rg 1 1 _ := rg_ne1 h_r216 rc_0 c_7 (by decide)
        exact s_X9_lookPointer_164 hx2 hx4 hx6 (rg_w rc_0 (by decide)) hfz h
set_option maxRecDepth 100000 in
theorem s_X9_lookPointer_120 {g : gh} {S : sh}  {x2 : Int32} {x3 : Int32} {x4 : Int32} {x6 : Int32} {x7 : Int64} {x9 : Int64} {D : dt} (hx2 : Rg 0 1 x2) (hx3 : Rg 0 1 x3) (hx4 : Rg 0 10 x4) (hx6 : Rg 0 10 x6) (hfz : g.1 12 = 0) (h : Inv g S D) : wp (f_X9_lookPointer_120 S 28 x2 x3 x4 x6 x7 x9 D) (fun q => Rg 0 3 q.1 ∧ Inv g S q.2) := by
  unfold f_X9_lookPointer_120
  exact s_X9_lookPointer_121 hx2 hx3 hx4 hx6 (rg_w rc_0 (by decide)) hfz h
set_option maxRecDepth 100000 in
theorem s_X9_lookPointer_116 {g : gh} {S : sh}  {x2 : Int32} {x3 : Int32} {x4 : Int32} {x6 : Int32} {x7 : Int64} {x9 : Int64} {D : dt} (hx2 : Rg 0 1 x2) (hx3 : Rg 0 1 x3) (hx4 : Rg 0 10 x4) (hx6 : Rg 0 10 x6) (hfz : g.1 12 = 0) (h : Inv g S D) : wp (f_X9_lookPointer_116 S 28 x2 x3 x4 x6 x7 x9 D) (fun q => Rg 0 3 q.1 ∧ Inv g S q.2) := by
  unfold f_X9_lookPointer_116
  exact s_X9_lookPointer_121 hx2 hx3 hx4 hx6 (rg_w rc_1 (by decide)) hfz h
set_option maxRecDepth 100000 in
theorem s_X9_lookPointer_88 {g : gh} {S : sh}  {x2 : Int32} {x3 : Int32} {x4 : Int32} {x5 : Int32} {x6 : Int32} {x7 : Int64} {xs0 : Int64} {D : dt} (hx2 : Rg 0 1 x2) (hx3 : Rg 0 1 x3) (hx4 : Rg 0 10 x4) (hx5 : Rg 0 1 x5) (hx6 : Rg 0 10 x6) (hfz : g.1 12 = 0) (h : Inv g S D) : wp (f_X9_lookPointer_88 S 28 x2 x3 x4 x5 x6 x7 xs0 D) (fun q => Rg 0 3 q.1 ∧ Inv g S q.2) := by
  unfold f_X9_lookPointer_88
  refine wp_rq (iR_28_40 h) ?_
  refine wp_ix (in_rg hx6 (iA_60 h) (by decide)) ?_
  refine wp_pqs (s_X9_isPointer ) (fun r224 h_r224 => ?_)
  refine wp_if (fun c_1 => ?_) (fun c_1 => ?_)
  ·
    have h_2 : Rg 0 0 _ := rg_eq1 h_r224 rc_0 c_1 (by decide)
    exact s_X9_lookPointer_120 hx2 hx3 hx4 hx6 hfz h
  ·
    have h_3 : Rg 1 1 _ := rg_ne1 h_r224 rc_0 c_1 (by decide)
    refine wp_if (fun c_4 => ?_) (fun c_4 => ?_)
    ·
      have h_5 : Rg 0 0 _ := rg_eq1 hx5 rc_0 c_4 (by decide)
      refine wp_if (fun c_6 => ?_) (fun c_6 => ?_)
      ·
        have h_7 : Rg 1 1 _ := rg_eq1 (rg_top _) rc_1 c_6 (by decide)
        exact s_X9_lookPointer_116 hx2 hx3 hx4 hx6 hfz h
      ·
        exact s_X9_lookPointer_120 hx2 hx3 hx4 hx6 hfz h
    ·
      have h_8 : Rg 1 1 _ := rg_ne1 hx5 rc_0 c_4 (by decide)
      exact s_X9_lookPointer_116 hx2 hx3 hx4 hx6 hfz h
set_option maxRecDepth 100000 in
theorem s_X9_lookPointer_67 {g : gh} {S : sh}  {x2 : Int32} {x3 : Int32} {x4 : Int32} {x5 : Int32} {x6 : Int32} {xs0 : Int64} {D : dt} (hx2 : Rg 0 1 x2) (hx3 : Rg 0 1 x3) (hx4 : Rg 0 10 x4) (hx5 : Rg 0 1 x5) (hx6 : Rg 0 10 x6) (hfz : g.1 12 = 0) (h : Inv g S D) : wp (f_X9_lookPointer_67 S 28 x2 x3 x4 x5 x6 xs0 D) (fun q => Rg 0 3 q.1 ∧ Inv g S q.2) := by
  unfold f_X9_lookPointer_67
  refine wp_if (fun c_1 => ?_) (fun c_1 => ?_)
  ·
    have h_2 : Rg 0 0 _ := rg_eq1 hx5 rc_0 c_1 (by decide)
    exact s_X9_lookPointer_88 hx2 hx3 hx4 (rg_w h_2 (by decide)) hx6 hfz h
  ·
    have h_3 : Rg 1 1 _ := rg_ne1 hx5 rc_0 c_1 (by decide)
    refine wp_rq (iR_28_42 h) ?_
    refine wp_ix (in_rg hx4 (iA_62 h) (by decide)) ?_
    exact s_X9_lookPointer_88 hx2 hx3 hx4 (rg_w h_3 (by decide)) hx6 hfz h
set_option maxRecDepth 100000 in
theorem s_X9_lookPointer_46 {g : gh} {S : sh}  {x2 : Int32} {x3 : Int32} {x4 : Int32} {x5 : Int32} {xs0 : Int32} {D : dt} (hx2 : Rg 0 1 x2) (hx3 : Rg 0 1 x3) (hx4 : Rg 0 10 x4) (hx5 : Rg 0 1 x5) (hxs0 : Rg 0 10 xs0) (hfz : g.1 12 = 0) (h : Inv g S D) : wp (f_X9_lookPointer_46 S 28 x2 x3 x4 x5 xs0 D) (fun q => Rg 0 3 q.1 ∧ Inv g S q.2) := by
  unfold f_X9_lookPointer_46
  refine wp_if (fun c_1 => ?_) (fun c_1 => ?_)
  ·
    have h_2 : Rg 0 0 _ := rg_eq1 hx5 rc_0 c_1 (by decide)
    exact s_X9_lookPointer_67 hx2 hx3 hx4 (rg_w h_2 (by decide)) hxs0 hfz h
  ·
    have h_3 : Rg 1 1 _ := rg_ne1 hx5 rc_0 c_1 (by decide)
    refine wp_rq (iR_28_41 h) ?_
    refine wp_ix (in_rg hx4 (iA_61 h) (by decide)) ?_
    exact s_X9_lookPointer_67 hx2 hx3 hx4 (rg_w h_3 (by decide)) hxs0 hfz h
set_option maxRecDepth 100000 in
theorem s_X9_lookPointer_28 {g : gh} {S : sh}  {x1 : Int32} {x2 : Int32} {x3 : Int32} {x4 : Int32} {xs0 : Int32} {D : dt} (hx1 : Rg 0 199 x1) (hx2 : Rg 0 1 x2) (hx3 : Rg 0 1 x3) (hx4 : Rg 0 10 x4) (hxs0 : Rg 0 1 xs0) (h30_x1 : Rg 0 10 (g.2 30 x1.toNatClampNeg)) (h31_x1 : Rg 0 10 (g.2 31 x1.toNatClampNeg)) (hfz : g.1 12 = 0) (h : Inv g S D) : wp (f_X9_lookPointer_28 S 28 x1 x2 x3 x4 xs0 D) (fun q => Rg 0 3 q.1 ∧ Inv g S q.2) := by
  unfold f_X9_lookPointer_28
  refine wp_if (fun c_1 => ?_) (fun c_1 => ?_)
  ·
    have h_2 : Rg 0 0 _ := rg_eq1 hxs0 rc_0 c_1 (by decide)
    exact s_X9_lookPointer_46 hx2 hx3 hx4 (rg_w h_2 (by decide)) hx4 hfz h
  ·
    have h_3 : Rg 1 1 _ := rg_ne1 hxs0 rc_0 c_1 (by decide)
    refine wp_rq (iR_28_3 h) ?_
    refine wp_ix (in_rg hx1 (iA_31 h) (by decide)) ?_
    exact s_X9_lookPointer_46 hx2 hx3 hx4 (rg_w h_3 (by decide)) (rg_eq (h.p 31 _ rfl) h31_x1) hfz h
set_option maxRecDepth 100000 in
theorem s_X9_lookPointer_27 {g : gh} {S : sh}  {x1 : Int32} {x2 : Int32} {x3 : Int32} {x4 : Int32} {D : dt} (hx1 : Rg 0 199 x1) (hx2 : Rg 0 1 x2) (hx3 : Rg 0 1 x3) (hx4 : Rg 0 10 x4) (h30_x1 : Rg 0 10 (g.2 30 x1.toNatClampNeg)) (h31_x1 : Rg 0 10 (g.2 31 x1.toNatClampNeg)) (hfz : g.1 12 = 0) (h : Inv g S D) : wp (f_X9_lookPointer_27 S 28 x1 x2 x3 x4 D) (fun q => Rg 0 3 q.1 ∧ Inv g S q.2) := by
  unfold f_X9_lookPointer_27
  exact s_X9_lookPointer_28 hx1 hx2 hx3 hx4 (rg_w rc_0 (by decide)) h30_x1 h31_x1 hfz h
set_option maxRecDepth 100000 in
theorem s_X9_lookPointer {g : gh} {S : sh}  {x1 : Int32} {x2 : Int32} {x3 : Int32} {D : dt} (hx1 : Rg 0 199 x1) (hx2 : Rg 0 1 x2) (hx3 : Rg 0 1 x3) (h30_x1 : Rg 0 10 (g.2 30 x1.toNatClampNeg)) (h31_x1 : Rg 0 10 (g.2 31 x1.toNatClampNeg)) (hfz : g.1 12 = 0) (h : Inv g S D) : wp (f_X9_lookPointer S 28 x1 x2 x3 D) (fun q => Rg 0 3 q.1 ∧ Inv g S q.2) := by
  unfold f_X9_lookPointer
  refine wp_rq (iR_28_2 h) ?_
  refine wp_ix (in_rg hx1 (iA_30 h) (by decide)) ?_
  refine wp_nmI (fun y251 e_y251 => ?_)
  have h_y251 : Rg 0 10 y251 := rg_eq e_y251 (rg_eq (h.p 30 _ rfl) h30_x1)
  refine wp_if (fun c_1 => ?_) (fun c_1 => ?_)
  ·
    have h_2 : Rg 0 0 _ := rg_eq1 hx2 rc_0 c_1 (by decide)
    refine wp_rq (iR_28_40 h) ?_
    refine wp_ix (in_rg h_y251 (iA_60 h) (by decide)) ?_
    refine wp_if (fun c_3 => ?_) (fun c_3 => ?_)
    ·
      have h_4 : Rg 1 1 _ := rg_eq1 (rg_top _) rc_1 c_3 (by decide)
      exact s_X9_lookPointer_28 hx1 (rg_w h_2 (by decide)) hx3 h_y251 (rg_w rc_1 (by decide)) h30_x1 h31_x1 hfz h
    ·
      exact s_X9_lookPointer_27 hx1 (rg_w h_2 (by decide)) hx3 h_y251 h30_x1 h31_x1 hfz h
  ·
    have h_5 : Rg 1 1 _ := rg_ne1 hx2 rc_0 c_1 (by decide)
    exact s_X9_lookPointer_27 hx1 (rg_w h_5 (by decide)) hx3 h_y251 h30_x1 h31_x1 hfz h
set_option maxRecDepth 100000 in
theorem s_X9_lookRegister_160 {g : gh} {S : sh}  {x1 : Int32} {x2 : Int32} {x3 : Int32} {D : dt} (hx1 : Rg 0 199 x1) (hx2 : Rg 0 15 x2) (hx3 : Rg 0 1 x3) (h30_x1 : Rg 0 10 (g.2 30 x1.toNatClampNeg)) (h31_x1 : Rg 0 10 (g.2 31 x1.toNatClampNeg)) (h13 : (g.2 29 x1.toNatClampNeg >>> ((4 : Int32) &&& 31) = 13 → Rg 0 64 (g.2 33 x1.toNatClampNeg))) (h : Inv g S D) : wp (f_X9_lookRegister_160 S 28 x1 x2 x3 D) (fun q => Rg 0 3 q.1 ∧ Inv g S q.2) := by
  unfold f_X9_lookRegister_160
  refine wp_cqs (s_X9_reckonRange hx1 hx2 hx3 h30_x1 h31_x1 (by first | exact h13 | exact (fun ne => absurd rfl ne)) h) (fun _ D69 h_D69 => ?_)
  exact ⟨_, rfl, (rg_w rc_0 (by decide)), h_D69⟩
set_option maxRecDepth 100000 in
theorem s_X9_lookRegister_169 {g : gh} {S : sh}  {x1 : Int32} {x2 : Int32} {x3 : Int32} {x4 : Int32} {D : dt} (hx1 : Rg 0 199 x1) (hx2 : Rg 0 15 x2) (hx3 : Rg 0 1 x3) (hx4 : Rg 0 1 x4) (h30_x1 : Rg 0 10 (g.2 30 x1.toNatClampNeg)) (h31_x1 : Rg 0 10 (g.2 31 x1.toNatClampNeg)) (hfz : g.1 12 = 0) (h : Inv g S D) : wp (f_X9_lookRegister_169 S 28 x1 x2 x3 x4 D) (fun q => Rg 0 3 q.1 ∧ Inv g S q.2) := by
  unfold f_X9_lookRegister_169
  refine wp_if (fun c_1 => ?_) (fun c_1 => ?_)
  ·
    have h_2 : Rg 0 0 _ := rg_eq1 hx3 rc_0 c_1 (by decide)
    exact ⟨_, rfl, (rg_w rc_3 (by decide)), h⟩
  ·
    have h_3 : Rg 1 1 _ := rg_ne1 hx3 rc_0 c_1 (by decide)
    refine wp_if (fun c_4 => ?_) (fun c_4 => ?_)
    ·
      have h_5 : Rg 2 15 _ := rg_le2 rc_2 hx2 c_4 (by decide)
      exact ⟨_, rfl, (rg_w rc_3 (by decide)), h⟩
    ·
      have h_6 : Rg 0 1 _ := rg_lt1 hx2 rc_2 (nle32 c_4) (by decide)
      refine wp_cqs (s_X9_lookPointer hx1 h_6 hx4 h30_x1 h31_x1 hfz h) (fun r73 D74 q_r73 => ?_)
      obtain ⟨h_r73, h_D74⟩ := q_r73
      exact ⟨_, rfl, h_r73, h_D74⟩
set_option maxRecDepth 100000 in
theorem s_X9_lookRegister_135 {g : gh} {S : sh}  {x1 : Int32} {x2 : Int32} {x3 : Int32} {x4 : Int32} {x5 : Int32} {D : dt} (hx1 : Rg 0 199 x1) (hx2 : Rg 0 15 x2) (hx3 : Rg 0 1 x3) (hx4 : Rg 0 1 x4) (hx5 : Rg 0 10 x5) (h30_x1 : Rg 0 10 (g.2 30 x1.toNatClampNeg)) (h31_x1 : Rg 0 10 (g.2 31 x1.toNatClampNeg)) (h13 : (g.2 29 x1.toNatClampNeg >>> ((4 : Int32) &&& 31) = 13 → Rg 0 64 (g.2 33 x1.toNatClampNeg))) (hfz : g.1 12 = 0) (h : Inv g S D) : wp (f_X9_lookRegister_135 S 28 x1 x2 x3 x4 x5 D) (fun q => Rg 0 3 q.1 ∧ Inv g S q.2) := by
  unfold f_X9_lookRegister_135
  refine wp_if (fun c_1 => ?_) (fun c_1 => ?_)
  ·
    have h_2 : Rg 1 1 _ := rg_eq1 (rg_top _) rc_1 c_1 (by decide)
    refine wp_if (fun c_3 => ?_) (fun c_3 => ?_)
    ·
      have h_4 : Rg 11 11 _ := rg_eq1 hx2 rc_11 c_3 (by decide)
      exact s_X9_lookRegister_160 hx1 (rg_w h_4 (by decide)) hx3 h30_x1 h31_x1 (by first | exact h13 | exact (fun ne => absurd rfl ne)) h
    ·
      refine wp_rq (iR_28_40 h) ?_
      refine wp_ix (in_rg hx5 (iA_60 h) (by decide)) ?_
      refine wp_if (fun c_5 => ?_) (fun c_5 => ?_)
      ·
        have h_6 : Rg 1 1 _ := rg_eq1 (rg_top _) rc_1 c_5 (by decide)
        exact s_X9_lookRegister_160 hx1 hx2 hx3 h30_x1 h31_x1 (by first | exact h13 | exact (fun ne => absurd rfl ne)) h
      ·
        exact s_X9_lookRegister_169 hx1 hx2 hx3 hx4 h30_x1 h31_x1 hfz h
  ·
    exact s_X9_lookRegister_169 hx1 hx2 hx3 hx4 h30_x1 h31_x1 hfz h
set_option maxRecDepth 100000 in
theorem s_X9_lookRegister_97 {g : gh} {S : sh}  {x1 : Int32} {x2 : Int32} {x3 : Int32} {x4 : Int32} {x5 : Int32} {D : dt} (hx1 : Rg 0 199 x1) (hx2 : Rg 0 15 x2) (hx3 : Rg 0 1 x3) (hx4 : Rg 0 1 x4) (hx5 : Rg 0 10 x5) (h30_x1 : Rg 0 10 (g.2 30 x1.toNatClampNeg)) (h31_x1 : Rg 0 10 (g.2 31 x1.toNatClampNeg)) (h13 : (g.2 29 x1.toNatClampNeg >>> ((4 : Int32) &&& 31) = 13 → Rg 0 64 (g.2 33 x1.toNatClampNeg))) (hfz : g.1 12 = 0) (h : Inv g S D) : wp (f_X9_lookRegister_97 S 28 x1 x2 x3 x4 x5 D) (fun q => Rg 0 3 q.1 ∧ Inv g S q.2) := by
  unfold f_X9_lookRegister_97
  refine wp_if (fun c_1 => ?_) (fun c_1 => ?_)
  ·
    have h_2 : Rg 11 11 _ := rg_eq1 hx2 rc_11 c_1 (by decide)
    refine wp_if (fun c_3 => ?_) (fun c_3 => ?_)
    ·
      have h_4 : Rg 0 0 _ := rg_eq1 hx3 rc_0 c_3 (by decide)
      exact s_X9_lookRegister_135 hx1 (rg_w h_2 (by decide)) (rg_w h_4 (by decide)) hx4 hx5 h30_x1 h31_x1 (by first | exact h13 | exact (fun ne => absurd rfl ne)) hfz h
    ·
      have h_5 : Rg 1 1 _ := rg_ne1 hx3 rc_0 c_3 (by decide)
      refine wp_if (fun c_6 => ?_) (fun c_6 => ?_)
      ·
        have h_7 : Rg 0 0 _ := rg_eq1 hx4 rc_0 c_6 (by decide)
        exact s_X9_lookRegister_135 hx1 (rg_w h_2 (by decide)) (rg_w h_5 (by decide)) (rg_w h_7 (by decide)) hx5 h30_x1 h31_x1 (by first | exact h13 | exact (fun ne => absurd rfl ne)) hfz h
      ·
        have h_8 : Rg 1 1 _ := rg_ne1 hx4 rc_0 c_6 (by decide)
        refine wp_rq (iR_28_4 h) ?_
        refine wp_ix (in_rg hx1 (iA_32 h) (by decide)) ?_
        refine wp_if (fun c_9 => ?_) (fun c_9 => ?_)
        ·
          have h_10 : Rg 0 0 _ := rg_eq1 (iI_32 h _) rc_0 c_9 (by decide)
          refine wp_rq (iR_28_3 h) ?_
          refine wp_ix (in_rg hx1 (iA_31 h) (by decide)) ?_
          refine wp_cqs (s_X9_same (rg_w (rg_eq (h.p 31 _ rfl) h31_x1) (by decide)) (rg_w hx5 (by decide)) hfz h) (fun _ D98 h_D98 => ?_)
          exact ⟨_, rfl, (rg_w rc_0 (by decide)), h_D98⟩
        ·
          exact s_X9_lookRegister_135 hx1 (rg_w h_2 (by decide)) (rg_w h_5 (by decide)) (rg_w h_8 (by decide)) hx5 h30_x1 h31_x1 (by first | exact h13 | exact (fun ne => absurd rfl ne)) hfz h
  ·
    exact s_X9_lookRegister_135 hx1 hx2 hx3 hx4 hx5 h30_x1 h31_x1 (by first | exact h13 | exact (fun ne => absurd rfl ne)) hfz h
set_option maxRecDepth 100000 in
theorem s_X9_lookRegister_83 {g : gh} {S : sh}  {x1 : Int32} {x2 : Int32} {x3 : Int32} {x4 : Int32} {x5 : Int32} {D : dt} (hx1 : Rg 0 199 x1) (hx2 : Rg 0 15 x2) (hx3 : Rg 0 1 x3) (hx4 : Rg 0 1 x4) (hx5 : Rg 0 10 x5) (h30_x1 : Rg 0 10 (g.2 30 x1.toNatClampNeg)) (h31_x1 : Rg 0 10 (g.2 31 x1.toNatClampNeg)) (h13 : (g.2 29 x1.toNatClampNeg >>> ((4 : Int32) &&& 31) = 13 → Rg 0 64 (g.2 33 x1.toNatClampNeg))) (hfz : g.1 12 = 0) (h : Inv g S D) : wp (f_X9_lookRegister_83 S 28 x1 x2 x3 x4 x5 D) (fun q => Rg 0 3 q.1 ∧ Inv g S q.2) := by
  unfold f_X9_lookRegister_83
  refine wp_if (fun c_1 => ?_) (fun c_1 => ?_)
  ·
    have h_2 : Rg 0 0 _ := rg_eq1 hx4 rc_0 c_1 (by decide)
    exact s_X9_lookRegister_97 hx1 hx2 hx3 (rg_w h_2 (by decide)) hx5 h30_x1 h31_x1 (by first | exact h13 | exact (fun ne => absurd rfl ne)) hfz h
  ·
    have h_3 : Rg 1 1 _ := rg_ne1 hx4 rc_0 c_1 (by decide)
    refine wp_if (fun c_4 => ?_) (fun c_4 => ?_)
    ·
      have h_5 : Rg 0 0 _ := rg_eq1 (rg_top _) rc_0 c_4 (by decide)
      exact ⟨_, rfl, (rg_w rc_2 (by decide)), h⟩
    ·
      exact s_X9_lookRegister_97 hx1 hx2 hx3 (rg_w h_3 (by decide)) hx5 h30_x1 h31_x1 (by first | exact h13 | exact (fun ne => absurd rfl ne)) hfz h
set_option maxRecDepth 100000 in
theorem s_X9_lookRegister_52 {g : gh} {S : sh}  {x1 : Int32} {x2 : Int32} {x3 : Int32} {xs0 : Int32} {D : dt} (hx1 : Rg 0 199 x1) (hx2 : Rg 0 15 x2) (hx3 : Rg 0 1 x3) (hxs0 : Rg 0 1 xs0) (h30_x1 : Rg 0 10 (g.2 30 x1.toNatClampNeg)) (h31_x1 : Rg 0 10 (g.2 31 x1.toNatClampNeg)) (h13 : (g.2 29 x1.toNatClampNeg >>> ((4 : Int32) &&& 31) = 13 → Rg 0 64 (g.2 33 x1.toNatClampNeg))) (hfz : g.1 12 = 0) (h : Inv g S D) : wp (f_X9_lookRegister_52 S 28 x1 x2 x3 xs0 D) (fun q => Rg 0 3 q.1 ∧ Inv g S q.2) := by
  unfold f_X9_lookRegister_52
  refine wp_rq (iR_28_2 h) ?_
  refine wp_ix (in_rg hx1 (iA_30 h) (by decide)) ?_
  refine wp_nmI (fun y106 e_y106 => ?_)
  have h_y106 : Rg 0 10 y106 := rg_eq e_y106 (rg_eq (h.p 30 _ rfl) h30_x1)
  refine wp_cqs (s_X9_takeSecond hx1 h30_x1 h31_x1 h) (fun _ D108 q_D108 => ?_)
  obtain ⟨p__, h_D108⟩ := q_D108
  refine wp_if (fun c_1 => ?_) (fun c_1 => ?_)
  ·
    have h_2 : Rg 11 11 _ := rg_eq1 hx2 rc_11 c_1 (by decide)
    exact s_X9_lookRegister_83 hx1 (rg_w h_2 (by decide)) hx3 hxs0 h_y106 h30_x1 h31_x1 (by first | exact h13 | exact (fun ne => absurd rfl ne)) hfz h_D108
  ·
    refine wp_rq (iR_28_40 h_D108) ?_
    refine wp_ix (in_rg h_y106 (iA_60 h_D108) (by decide)) ?_
    refine wp_if (fun c_3 => ?_) (fun c_3 => ?_)
    ·
      have h_4 : Rg 0 0 _ := rg_eq1 (rg_top _) rc_0 c_3 (by decide)
      exact ⟨_, rfl, (rg_w rc_2 (by decide)), h_D108⟩
    ·
      exact s_X9_lookRegister_83 hx1 hx2 hx3 hxs0 h_y106 h30_x1 h31_x1 (by first | exact h13 | exact (fun ne => absurd rfl ne)) hfz h_D108
set_option maxRecDepth 100000 in
theorem s_X9_lookRegister_51 {g : gh} {S : sh}  {x1 : Int32} {x2 : Int32} {x3 : Int32} {D : dt} (hx1 : Rg 0 199 x1) (hx2 : Rg 0 15 x2) (hx3 : Rg 0 1 x3) (h30_x1 : Rg 0 10 (g.2 30 x1.toNatClampNeg)) (h31_x1 : Rg 0 10 (g.2 31 x1.toNatClampNeg)) (h13 : (g.2 29 x1.toNatClampNeg >>> ((4 : Int32) &&& 31) = 13 → Rg 0 64 (g.2 33 x1.toNatClampNeg))) (hfz : g.1 12 = 0) (h : Inv g S D) : wp (f_X9_lookRegister_51 S 28 x1 x2 x3 D) (fun q => Rg 0 3 q.1 ∧ Inv g S q.2) := by
  unfold f_X9_lookRegister_51
  exact s_X9_lookRegister_52 hx1 hx2 hx3 (rg_w rc_0 (by decide)) h30_x1 h31_x1 (by first | exact h13 | exact (fun ne => absurd rfl ne)) hfz h
set_option maxRecDepth 100000 in
theorem s_X9_lookRegister_28 {g : gh} {S : sh}  {x1 : Int32} {x2 : Int32} {xs0 : Int32} {D : dt} (hx1 : Rg 0 199 x1) (hx2 : Rg 0 15 x2) (hxs0 : Rg 0 1 xs0) (h30_x1 : Rg 0 10 (g.2 30 x1.toNatClampNeg)) (h31_x1 : Rg 0 10 (g.2 31 x1.toNatClampNeg)) (h13 : (g.2 29 x1.toNatClampNeg >>> ((4 : Int32) &&& 31) = 13 → Rg 0 64 (g.2 33 x1.toNatClampNeg))) (hfz : g.1 12 = 0) (h : Inv g S D) : wp (f_X9_lookRegister_28 S 28 x1 x2 xs0 D) (fun q => Rg 0 3 q.1 ∧ Inv g S q.2) := by
  unfold f_X9_lookRegister_28
  refine wp_rq (iR_28_1 h) ?_
  refine wp_ix (in_rg hx1 (iA_29 h) (by decide)) ?_
  refine wp_if (fun c_1 => ?_) (fun c_1 => ?_)
  ·
    have h_2 : Rg 0 0 _ := rg_eq1 (rg_top _) rc_0 c_1 (by decide)
    exact s_X9_lookRegister_51 hx1 hx2 hxs0 h30_x1 h31_x1 (by first | exact h13 | exact (fun ne => absurd rfl ne)) hfz h
  ·
    refine wp_if (fun c_3 => ?_) (fun c_3 => ?_)
    ·
      have h_4 : Rg 13 13 _ := rg_eq1 hx2 rc_13 c_3 (by decide)
      exact s_X9_lookRegister_51 hx1 (rg_w h_4 (by decide)) hxs0 h30_x1 h31_x1 (by first | exact h13 | exact (fun ne => absurd rfl ne)) hfz h
    ·
      exact s_X9_lookRegister_52 hx1 hx2 hxs0 (rg_w rc_1 (by decide)) h30_x1 h31_x1 (by first | exact h13 | exact (fun ne => absurd rfl ne)) hfz h
set_option maxRecDepth 100000 in
theorem s_X9_lookRegister {g : gh} {S : sh}  {x1 : Int32} {D : dt} (hx1 : Rg 0 199 x1) (h30_x1 : Rg 0 10 (g.2 30 x1.toNatClampNeg)) (h31_x1 : Rg 0 10 (g.2 31 x1.toNatClampNeg)) (h13 : (g.2 29 x1.toNatClampNeg >>> ((4 : Int32) &&& 31) = 13 → Rg 0 64 (g.2 33 x1.toNatClampNeg))) (hfz : g.1 12 = 0) (h : Inv g S D) : wp (f_X9_lookRegister S 28 x1 D) (fun q => Rg 0 3 q.1 ∧ Inv g S q.2) := by
  unfold f_X9_lookRegister
  refine wp_rq (iR_28_1 h) ?_
  refine wp_ix (in_rg hx1 (iA_29 h) (by decide)) ?_
  refine wp_nmI (fun y128 e_y128 => ?_)
  have h_y128 : Rg 0 15 y128 := rg_eq e_y128 (rg_shr (iI_29 h _) (by decide) : Rg 0 15 _)
  refine wp_rq (iR_28_1 h) ?_
  refine wp_ix (in_rg hx1 (iA_29 h) (by decide)) ?_
  refine wp_if (fun c_1 => ?_) (fun c_1 => ?_)
  ·
    have h_2 : Rg 7 7 _ := rg_eq1 (rg_andr _ (by decide) : Rg 0 7 _) rc_7 c_1 (by decide)
    exact s_X9_lookRegister_28 hx1 h_y128 (rg_w rc_1 (by decide)) h30_x1 h31_x1 (by first | exact h13 | exact (fun ne => absurd rfl ne)) hfz h
  ·
    have h_3 : Rg 0 6 _ := rg_ne1 (rg_andr _ (by decide) : Rg 0 7 _) rc_7 c_1 (by decide)
    exact s_X9_lookRegister_28 hx1 h_y128 (rg_w rc_0 (by decide)) h30_x1 h31_x1 (by first | exact h13 | exact (fun ne => absurd rfl ne)) hfz h
set_option maxRecDepth 100000 in
theorem s_X9_onward {g : gh} {S : sh}  {x1 : Int32} {x2 : Int32} {D : dt} (hx1 : Rg 0 4 x1) (h : Inv g S D) : wp (f_X9_onward S 28 x1 x2 D) (fun q => Rg 0 6 q.1 ∧ Inv g S q.2) := by
  unfold f_X9_onward
  refine wp_if (fun c_1 => ?_) (fun c_1 => ?_)
  ·
    have h_2 : Rg 0 0 _ := rg_le1 hx1 rc_0 c_1 (by decide)
    refine wp_pqs (s_X9_isWay h) (fun r9 q_r9 => ?_)
    obtain ⟨h_r9, x_r9⟩ := q_r9
    refine wp_if (fun c_3 => ?_) (fun c_3 => ?_)
    ·
      have h_4 : Rg 0 0 _ := rg_eq1 h_r9 rc_0 c_3 (by decide)
      exact ⟨_, rfl, (rg_w rc_6 (by decide)), h⟩
    ·
      have h_5 := x_r9 c_3
      have h_6 : Rg 0 199 _ := rg_eq1 h_5 (rg_top _) rfl (by decide)
      have h_7 : Rg 1 1 _ := rg_ne1 h_r9 rc_0 c_3 (by decide)
      refine wp_cqs (s_X9_goTo h_6 h) (fun _ D12 h_D12 => ?_)
      exact ⟨_, rfl, (rg_w rc_0 (by decide)), h_D12⟩
  ·
    have h_8 : Rg 1 4 _ := rg_lt2 rc_0 hx1 (nle32 c_1) (by decide)
    exact ⟨_, rfl, (rg_w h_8 (by decide)), h⟩
set_option maxRecDepth 100000 in
theorem s_X9_otherCode  {x0 : Int32} (hx0 : Rg 0 15 x0) : wp (f_X9_otherCode x0) (fun q => Rg 1 11 q) := by
  unfold f_X9_otherCode
  refine wp_if (fun c_1 => ?_) (fun c_1 => ?_)
  ·
    have h_2 : Rg 1 1 _ := rg_eq1 hx0 rc_1 c_1 (by decide)
    exact ⟨_, rfl, (rg_w rc_5 (by decide))⟩
  ·
    refine wp_if (fun c_3 => ?_) (fun c_3 => ?_)
    ·
      have h_4 : Rg 5 5 _ := rg_eq1 hx0 rc_5 c_3 (by decide)
      exact ⟨_, rfl, (rg_w rc_1 (by decide))⟩
    ·
      refine wp_if (fun c_5 => ?_) (fun c_5 => ?_)
      ·
        have h_6 : Rg 2 2 _ := rg_eq1 hx0 rc_2 c_5 (by decide)
        exact ⟨_, rfl, (rg_w rc_11 (by decide))⟩
      ·
        refine wp_if (fun c_7 => ?_) (fun c_7 => ?_)
        ·
          have h_8 : Rg 11 11 _ := rg_eq1 hx0 rc_11 c_7 (by decide)
          exact ⟨_, rfl, (rg_w rc_2 (by decide))⟩
        ·
          refine wp_if (fun c_9 => ?_) (fun c_9 => ?_)
          ·
            have h_10 : Rg 3 3 _ := rg_eq1 hx0 rc_3 c_9 (by decide)
            exact ⟨_, rfl, (rg_w rc_10 (by decide))⟩
          ·
            exact ⟨_, rfl, (rg_w rc_3 (by decide))⟩
set_option maxRecDepth 100000 in
theorem s_X9_settle_114 {g : gh} {S : sh} {k2 : Nat → Int32 → Int32 → Int32 → dt → Option (Unit × dt)} {n2 : Nat} (hk2 : ∀ (x1 : Int32) (x2 : Int32) (x3 : Int32) (D : dt), Rg 0 1 x2 → Rg 0 75 x3 → 75 - x3.toInt < (n2 : Int) → Inv g S D → wp (k2 28 x1 x2 x3 D) (fun q => Inv g S q.2)) {x1 : Int32} {x2 : Int32} {x3 : Int32} {D : dt} (hx2 : Rg 0 1 x2) (hx3 : Rg 0 74 x3) (hm2 : 75 - x3.toInt < ((n2 + 1 : Nat) : Int)) (h : Inv g S D) : wp (f_X9_settle_114 S k2 28 x1 x2 x3 D) (fun q => Inv g S q.2) := by
  unfold f_X9_settle_114
  refine wp_nmI (fun y49 e_y49 => ?_)
  have h_y49 : Rg 1 75 y49 := rg_eq e_y49 (rg_add hx3 rc_1 (by decide) : Rg 1 75 _)
  exact hk2 _ _ _ _ hx2 (rg_w h_y49 (by decide)) (by rw [e_y49]; exact ms_up hx3 (by decide) hm2) h
set_option maxRecDepth 100000 in
theorem s_X9_settle_91 {g : gh} {S : sh} {k2 : Nat → Int32 → Int32 → Int32 → dt → Option (Unit × dt)} {n2 : Nat} (hk2 : ∀ (x1 : Int32) (x2 : Int32) (x3 : Int32) (D : dt), Rg 0 1 x2 → Rg 0 75 x3 → 75 - x3.toInt < (n2 : Int) → Inv g S D → wp (k2 28 x1 x2 x3 D) (fun q => Inv g S q.2)) {x1 : Int32} {x2 : Int32} {x3 : Int32} {D : dt} (hx2 : Rg 1 1 x2) (hx3 : Rg 0 74 x3) (hm2 : 75 - x3.toInt < ((n2 + 1 : Nat) : Int)) (h : Inv g S D) : wp (f_X9_settle_91 S k2 28 x1 x2 x3 D) (fun q => Inv g S q.2) := by
  unfold f_X9_settle_91
  exact s_X9_settle_114 hk2 (rg_w hx2 (by decide)) hx3 hm2 h
set_option maxRecDepth 100000 in
theorem s_X9_settle_57 {g : gh} {S : sh} {k2 : Nat → Int32 → Int32 → Int32 → dt → Option (Unit × dt)} {n2 : Nat} (hk2 : ∀ (x1 : Int32) (x2 : Int32) (x3 : Int32) (D : dt), Rg 0 1 x2 → Rg 0 75 x3 → 75 - x3.toInt < (n2 : Int) → Inv g S D → wp (k2 28 x1 x2 x3 D) (fun q => Inv g S q.2)) : ∀ (n : Nat) (x1 : Int32) (x2 : Int32) (x3 : Int32) (x5 : Int32) (D : dt), Rg 1 1 x2 → Rg 0 74 x3 → Rg (-88) 512 x5 → 75 - x3.toInt < ((n2 + 1 : Nat) : Int) → 512 - x5.toInt < (n : Int) → Inv g S D → wp (f_X9_settle_57 S k2 n 28 x1 x2 x3 x5 D) (fun q => Inv g S q.2) := by
  intro n
  induction n with
  | zero =>
    intro x1 x2 x3 x5 D hx2 hx3 hx5 hm2 hm h
    exact (ms_0 hx5 (by decide) hm).elim
  | succ n ih =>
    intro x1 x2 x3 x5 D hx2 hx3 hx5 hm2 hm h
    rw [f_X9_settle_57.eq_2]
    refine wp_if (fun c_1 => ?_) (fun c_1 => ?_)
    ·
      have h_2 : Rg (-88) (-1) _ := rg_lt1 hx5 rc_0 c_1 (by decide)
      exact s_X9_settle_91 hk2 hx2 hx3 hm2 h
    ·
      have h_3 : Rg 0 512 _ := rg_le2 rc_0 hx5 (nlt32 c_1) (by decide)
      refine wp_if (fun c_4 => ?_) (fun c_4 => ?_)
      ·
        exact s_X9_settle_91 hk2 hx2 hx3 hm2 h
      ·
        have h_5 : Rg 0 511 _ := rg_lt1 h_3 (rg_add (rg_mul rc_8 (rg_sub hx3 rc_11 (by decide) : Rg (-11) 63 _) (by decide) : Rg (-88) 504 _) rc_8 (by decide) : Rg (-80) 512 _) (nle32 c_4) (by decide)
        have h_6 : Rg 1 512 _ := rg_lt2 h_3 (rg_add (rg_mul rc_8 (rg_sub hx3 rc_11 (by decide) : Rg (-11) 63 _) (by decide) : Rg (-88) 504 _) rc_8 (by decide) : Rg (-80) 512 _) (nle32 c_4) (by decide)
        have h_7 : Rg (-7) 504 _ := rg_unadd (rg_mul rc_8 (rg_sub hx3 rc_11 (by decide) : Rg (-11) 63 _) (by decide) : Rg (-88) 504 _) h_6 (by decide)
        refine wp_rq (iR_28_45 h) ?_
        refine wp_ix (in_rg h_5 (iA_65 h) (by decide)) ?_
        refine wp_nmI (fun D57 e_D57 => ?_)
        have h_D57 : Inv g S D57 := by rw [e_D57]; exact inv_i65 h (rg_top _)
        refine wp_nmI (fun y58 e_y58 => ?_)
        have h_y58 : Rg 1 512 y58 := rg_eq e_y58 (rg_add h_5 rc_1 (by decide) : Rg 1 512 _)
        exact ih _ _ _ _ _ hx2 hx3 (rg_w h_y58 (by decide)) hm2 (by rw [e_y58]; exact ms_up h_5 (by decide) hm) h_D57
set_option maxRecDepth 100000 in
theorem s_X9_settle_2 {g : gh} {S : sh}  : ∀ (n : Nat) (x1 : Int32) (x2 : Int32) (x3 : Int32) (D : dt), Rg 0 1 x2 → Rg 0 75 x3 → 75 - x3.toInt < (n : Int) → Inv g S D → wp (f_X9_settle_2 S n 28 x1 x2 x3 D) (fun q => Inv g S q.2) := by
  intro n
  induction n with
  | zero =>
    intro x1 x2 x3 D hx2 hx3 hm h
    exact (ms_0 hx3 (by decide) hm).elim
  | succ n ih =>
    intro x1 x2 x3 D hx2 hx3 hm h
    rw [f_X9_settle_2.eq_2]
    refine wp_if (fun c_1 => ?_) (fun c_1 => ?_)
    ·
      have h_2 : Rg 75 75 _ := rg_le2 rc_75 hx3 c_1 (by decide)
      exact ⟨_, rfl, h⟩
    ·
      have h_3 : Rg 0 74 _ := rg_lt1 hx3 rc_75 (nle32 c_1) (by decide)
      refine wp_rq (iR_28_40 h) ?_
      refine wp_ix (in_rg h_3 (iA_60 h) (by decide)) ?_
      refine wp_if (fun c_4 => ?_) (fun c_4 => ?_)
      ·
        have h_5 : Rg 6 6 _ := rg_eq1 (rg_top _) rc_6 c_4 (by decide)
        refine wp_rq (iR_28_44 h) ?_
        refine wp_ix (in_rg h_3 (iA_64 h) (by decide)) ?_
        refine wp_if (fun c_6 => ?_) (fun c_6 => ?_)
        ·
          refine wp_rq (iR_28_43 h) ?_
          refine wp_ix (in_rg h_3 (iA_63 h) (by decide)) ?_
          refine wp_nmI (fun y77 e_y77 => ?_)
          have h_y77 : Rg 0 3 y77 := rg_eq e_y77 (iI_63 h _)
          refine wp_if (fun c_7 => ?_) (fun c_7 => ?_)
          ·
            have h_8 : Rg 0 0 _ := rg_eq1 hx2 rc_0 c_7 (by decide)
            refine wp_cqs (s_X9_forget (rg_w h_3 (by decide)) h) (fun _ D80 h_D80 => ?_)
            refine wp_rq (iR_28_40 h_D80) ?_
            refine wp_ix (in_rg h_3 (iA_60 h_D80) (by decide)) ?_
            refine wp_nmI (fun D86 e_D86 => ?_)
            have h_D86 : Inv g S D86 := by rw [e_D86]; exact inv_i60 h_D80 (rg_ne3 rc_5 (by decide)) (rg_top _)
            have h_9 : Rg 5 5 (gI D86 60 x3.toNatClampNeg) := by rw [e_D86, gI_pI, if_pos ⟨rfl, rfl⟩]; exact rc_5
            refine wp_rq (iR_28_43 h_D86) ?_
            refine wp_ix (in_rg h_3 (iA_63 h_D86) (by decide)) ?_
            refine wp_nmI (fun D92 e_D92 => ?_)
            have h_D92 : Inv g S D92 := by rw [e_D92]; exact inv_i63 h_D86 h_y77
            exact s_X9_settle_114 ih (rg_w h_8 (by decide)) h_3 hm h_D92
          ·
            have h_10 : Rg 1 1 _ := rg_ne1 hx2 rc_0 c_7 (by decide)
            refine wp_cqs (s_X9_number h_3 h) (fun _ D94 h_D94 => ?_)
            refine wp_nmI (fun y95 e_y95 => ?_)
            have h_y95 : Rg (-88) 504 y95 := rg_eq e_y95 (rg_mul rc_8 (rg_sub h_3 rc_11 (by decide) : Rg (-11) 63 _) (by decide) : Rg (-88) 504 _)
            exact s_X9_settle_57 ih LF _ _ _ _ _ h_10 h_3 (rg_w h_y95 (by decide)) hm (ms_in h_y95 (by decide)) h_D94
        ·
          exact s_X9_settle_114 ih hx2 h_3 hm h
      ·
        exact s_X9_settle_114 ih hx2 h_3 hm h
set_option maxRecDepth 100000 in
theorem s_X9_settle {g : gh} {S : sh}  {x1 : Int32} {x2 : Int32} {D : dt} (hx2 : Rg 0 1 x2) (h : Inv g S D) : wp (f_X9_settle S 28 x1 x2 D) (fun q => Inv g S q.2) := by
  unfold f_X9_settle
  refine wp_nmI (fun y96 e_y96 => ?_)
  have h_y96 : Rg 0 0 y96 := rg_eq e_y96 rc_0
  exact s_X9_settle_2  LF _ _ _ _ hx2 (rg_w h_y96 (by decide)) (ms_in h_y96 (by decide)) h
set_option maxRecDepth 100000 in
theorem s_X9_narrow_270 {g : gh} {S : sh}  {x1 : Int32} {x5 : Int64} {x7 : Int64} {xs0 : Int32} {D : dt} (hx1 : Rg 0 10 x1) (hxs0 : Rg 0 1 xs0) (hk3 : gI D 60 x1.toNatClampNeg ≠ 3) (h : Inv g S D) : wp (f_X9_narrow_270 S 28 x1 x5 x7 xs0 D) (fun q => Rg 0 1 q.1 ∧ Inv g S q.2) := by
  unfold f_X9_narrow_270
  refine wp_if (fun c_1 => ?_) (fun c_1 => ?_)
  ·
    have h_2 : Rg 0 0 _ := rg_eq1 hxs0 rc_0 c_1 (by decide)
    refine wp_ck (rg_01 h_2 (by decide)) ?_
    exact ⟨_, rfl, (rg_w h_2 (by decide)), h⟩
  ·
    have h_3 : Rg 1 1 _ := rg_ne1 hxs0 rc_0 c_1 (by decide)
    refine wp_rq (iR_28_41 h) ?_
    refine wp_ix (in_rg hx1 (iA_61 h) (by decide)) ?_
    refine wp_nmI (fun D71 e_D71 => ?_)
    have h_D71 : Inv g S D71 := by rw [e_D71]; exact inv_l61 h (Or.inl hk3)
    refine wp_rq (iR_28_42 h_D71) ?_
    refine wp_ix (in_rg hx1 (iA_62 h_D71) (by decide)) ?_
    refine wp_nmI (fun D77 e_D77 => ?_)
    have h_D77 : Inv g S D77 := by rw [e_D77]; exact inv_l62 h_D71
    refine wp_ck (rg_01 h_3 (by decide)) ?_
    exact ⟨_, rfl, (rg_w h_3 (by decide)), h_D77⟩
set_option maxRecDepth 100000 in
theorem s_X9_narrow_269 {g : gh} {S : sh}  {x1 : Int32} {x5 : Int64} {x7 : Int64} {D : dt} (hx1 : Rg 0 10 x1) (hk3 : gI D 60 x1.toNatClampNeg ≠ 3) (h : Inv g S D) : wp (f_X9_narrow_269 S 28 x1 x5 x7 D) (fun q => Rg 0 1 q.1 ∧ Inv g S q.2) := by
  unfold f_X9_narrow_269
  exact s_X9_narrow_270 hx1 (rg_w rc_0 (by decide)) (by first | exact hk3 | exact (fun ne => absurd rfl ne)) h
set_option maxRecDepth 100000 in
theorem s_X9_narrow_250 {g : gh} {S : sh}  {x1 : Int32} {x5 : Int64} {x7 : Int64} {x9 : Int32} {D : dt} (hx1 : Rg 0 10 x1) (hx9 : Rg 0 1 x9) (hk3 : gI D 60 x1.toNatClampNeg ≠ 3) (h : Inv g S D) : wp (f_X9_narrow_250 S 28 x1 x5 x7 x9 D) (fun q => Rg 0 1 q.1 ∧ Inv g S q.2) := by
  unfold f_X9_narrow_250
  refine wp_if (fun c_1 => ?_) (fun c_1 => ?_)
  ·
    have h_2 : Rg 0 0 _ := rg_eq1 hx9 rc_0 c_1 (by decide)
    exact s_X9_narrow_269 hx1 (by first | exact hk3 | exact (fun ne => absurd rfl ne)) h
  ·
    have h_3 : Rg 1 1 _ := rg_ne1 hx9 rc_0 c_1 (by decide)
    refine wp_pqs (s_X9_isBelow ) (fun r81 h_r81 => ?_)
    refine wp_if (fun c_4 => ?_) (fun c_4 => ?_)
    ·
      have h_5 : Rg 0 0 _ := rg_eq1 h_r81 rc_0 c_4 (by decide)
      exact s_X9_narrow_270 hx1 (rg_w rc_1 (by decide)) (by first | exact hk3 | exact (fun ne => absurd rfl ne)) h
    ·
      have h_6 : Rg 1 1 _ := rg_ne1 h_r81 rc_0 c_4 (by decide)
      exact s_X9_narrow_269 hx1 (by first | exact hk3 | exact (fun ne => absurd rfl ne)) h
set_option maxRecDepth 100000 in
theorem s_X9_narrow_172 {g : gh} {S : sh}  {x1 : Int32} {x7 : Int64} {x9 : Int32} {xs0 : Int64} {D : dt} (hx1 : Rg 0 10 x1) (hx9 : Rg 0 1 x9) (hk3 : gI D 60 x1.toNatClampNeg ≠ 3) (h : Inv g S D) : wp (f_X9_narrow_172 S 28 x1 x7 x9 xs0 D) (fun q => Rg 0 1 q.1 ∧ Inv g S q.2) := by
  unfold f_X9_narrow_172
  exact s_X9_narrow_250 hx1 hx9 (by first | exact hk3 | exact (fun ne => absurd rfl ne)) h
set_option maxRecDepth 100000 in
theorem s_X9_narrow_154 {g : gh} {S : sh}  {x1 : Int32} {x3 : Int64} {x5 : Int64} {x9 : Int32} {xs0 : Int64} {D : dt} (hx1 : Rg 0 10 x1) (hx9 : Rg 0 1 x9) (hk3 : gI D 60 x1.toNatClampNeg ≠ 3) (h : Inv g S D) : wp (f_X9_narrow_154 S 28 x1 x3 x5 x9 xs0 D) (fun q => Rg 0 1 q.1 ∧ Inv g S q.2) := by
  unfold f_X9_narrow_154
  refine wp_if (fun c_1 => ?_) (fun c_1 => ?_)
  ·
    exact s_X9_narrow_172 hx1 hx9 (by first | exact hk3 | exact (fun ne => absurd rfl ne)) h
  ·
    exact s_X9_narrow_172 hx1 hx9 (by first | exact hk3 | exact (fun ne => absurd rfl ne)) h
set_option maxRecDepth 100000 in
theorem s_X9_narrow_152 {g : gh} {S : sh}  {x1 : Int32} {x3 : Int64} {x5 : Int64} {x7 : Int64} {x9 : Int32} {D : dt} (hx1 : Rg 0 10 x1) (hx9 : Rg 0 1 x9) (hk3 : gI D 60 x1.toNatClampNeg ≠ 3) (h : Inv g S D) : wp (f_X9_narrow_152 S 28 x1 x3 x5 x7 x9 D) (fun q => Rg 0 1 q.1 ∧ Inv g S q.2) := by
  unfold f_X9_narrow_152
  exact s_X9_narrow_154 hx1 hx9 (by first | exact hk3 | exact (fun ne => absurd rfl ne)) h
set_option maxRecDepth 100000 in
theorem s_X9_narrow_129 {g : gh} {S : sh}  {x1 : Int32} {x3 : Int64} {x5 : Int64} {x7 : Int64} {xs0 : Int32} {D : dt} (hx1 : Rg 0 10 x1) (hxs0 : Rg 0 1 xs0) (hk3 : gI D 60 x1.toNatClampNeg ≠ 3) (h : Inv g S D) : wp (f_X9_narrow_129 S 28 x1 x3 x5 x7 xs0 D) (fun q => Rg 0 1 q.1 ∧ Inv g S q.2) := by
  unfold f_X9_narrow_129
  refine wp_if (fun c_1 => ?_) (fun c_1 => ?_)
  ·
    refine wp_if (fun c_2 => ?_) (fun c_2 => ?_)
    ·
      exact s_X9_narrow_152 hx1 hxs0 (by first | exact hk3 | exact (fun ne => absurd rfl ne)) h
    ·
      exact s_X9_narrow_154 hx1 hxs0 (by first | exact hk3 | exact (fun ne => absurd rfl ne)) h
  ·
    exact s_X9_narrow_152 hx1 hxs0 (by first | exact hk3 | exact (fun ne => absurd rfl ne)) h
set_option maxRecDepth 100000 in
theorem s_X9_narrow_99 {g : gh} {S : sh}  {x1 : Int32} {x3 : Int64} {xs0 : Int32} {D : dt} (hx1 : Rg 0 10 x1) (hxs0 : Rg 0 1 xs0) (hk3 : gI D 60 x1.toNatClampNeg ≠ 3) (h : Inv g S D) : wp (f_X9_narrow_99 S 28 x1 x3 xs0 D) (fun q => Rg 0 1 q.1 ∧ Inv g S q.2) := by
  unfold f_X9_narrow_99
  exact s_X9_narrow_250 hx1 hxs0 (by first | exact hk3 | exact (fun ne => absurd rfl ne)) h
set_option maxRecDepth 100000 in
theorem s_X9_narrow_98 {g : gh} {S : sh}  {x1 : Int32} {x3 : Int64} {D : dt} (hx1 : Rg 0 10 x1) (hk3 : gI D 60 x1.toNatClampNeg ≠ 3) (h : Inv g S D) : wp (f_X9_narrow_98 S 28 x1 x3 D) (fun q => Rg 0 1 q.1 ∧ Inv g S q.2) := by
  unfold f_X9_narrow_98
  exact s_X9_narrow_99 hx1 (rg_w rc_0 (by decide)) (by first | exact hk3 | exact (fun ne => absurd rfl ne)) h
set_option maxRecDepth 100000 in
theorem s_X9_narrow_227 {g : gh} {S : sh}  {x1 : Int32} {x3 : Int64} {x5 : Int64} {x7 : Int64} {xs0 : Int32} {D : dt} (hx1 : Rg 0 10 x1) (hxs0 : Rg 0 1 xs0) (hk3 : gI D 60 x1.toNatClampNeg ≠ 3) (h : Inv g S D) : wp (f_X9_narrow_227 S 28 x1 x3 x5 x7 xs0 D) (fun q => Rg 0 1 q.1 ∧ Inv g S q.2) := by
  unfold f_X9_narrow_227
  refine wp_pqs (s_X9_lesser ) (fun r87 _ => ?_)
  exact s_X9_narrow_250 hx1 hxs0 (by first | exact hk3 | exact (fun ne => absurd rfl ne)) h
set_option maxRecDepth 100000 in
theorem s_X9_narrow_242 {g : gh} {S : sh}  {x1 : Int32} {x3 : Int64} {x5 : Int64} {x7 : Int64} {x9 : Int32} {D : dt} (hx1 : Rg 0 10 x1) (hx9 : Rg 1 1 x9) (hk3 : gI D 60 x1.toNatClampNeg ≠ 3) (h : Inv g S D) : wp (f_X9_narrow_242 S 28 x1 x3 x5 x7 x9 D) (fun q => Rg 0 1 q.1 ∧ Inv g S q.2) := by
  unfold f_X9_narrow_242
  refine wp_pqs (s_X9_lesser ) (fun r89 _ => ?_)
  exact s_X9_narrow_250 hx1 (rg_w hx9 (by decide)) (by first | exact hk3 | exact (fun ne => absurd rfl ne)) h
set_option maxRecDepth 100000 in
theorem s_X9_narrow_124 {g : gh} {S : sh}  {x1 : Int32} {x3 : Int64} {x5 : Int64} {x7 : Int64} {D : dt} (hx1 : Rg 0 10 x1) (hk3 : gI D 60 x1.toNatClampNeg ≠ 3) (h : Inv g S D) : wp (f_X9_narrow_124 S 28 x1 x3 x5 x7 D) (fun q => Rg 0 1 q.1 ∧ Inv g S q.2) := by
  unfold f_X9_narrow_124
  exact s_X9_narrow_129 hx1 (rg_w rc_1 (by decide)) (by first | exact hk3 | exact (fun ne => absurd rfl ne)) h
set_option maxRecDepth 100000 in
theorem s_X9_narrow_190 {g : gh} {S : sh}  {x1 : Int32} {x3 : Int64} {x5 : Int64} {x7 : Int64} {xs0 : Int32} {D : dt} (hx1 : Rg 0 10 x1) (hxs0 : Rg 0 1 xs0) (hk3 : gI D 60 x1.toNatClampNeg ≠ 3) (h : Inv g S D) : wp (f_X9_narrow_190 S 28 x1 x3 x5 x7 xs0 D) (fun q => Rg 0 1 q.1 ∧ Inv g S q.2) := by
  unfold f_X9_narrow_190
  refine wp_pqs (s_X9_greater ) (fun r91 _ => ?_)
  exact s_X9_narrow_250 hx1 hxs0 (by first | exact hk3 | exact (fun ne => absurd rfl ne)) h
set_option maxRecDepth 100000 in
theorem s_X9_narrow {g : gh} {S : sh}  {x1 : Int32} {x2 : Int32} {x3 : Int64} {D : dt} (hx1 : Rg 0 10 x1) (hx2 : Rg 0 15 x2) (hk3 : gI D 60 x1.toNatClampNeg ≠ 3) (h : Inv g S D) : wp (f_X9_narrow S 28 x1 x2 x3 D) (fun q => Rg 0 1 q.1 ∧ Inv g S q.2) := by
  unfold f_X9_narrow
  refine wp_rq (iR_28_41 h) ?_
  refine wp_ix (in_rg hx1 (iA_61 h) (by decide)) ?_
  refine wp_nmI (fun y97 e_y97 => ?_)
  refine wp_rq (iR_28_42 h) ?_
  refine wp_ix (in_rg hx1 (iA_62 h) (by decide)) ?_
  refine wp_nmI (fun y103 e_y103 => ?_)
  refine wp_nmI (fun y104 e_y104 => ?_)
  have h_y104 : Rg 1 1 y104 := rg_eq e_y104 rc_1
  refine wp_if (fun c_1 => ?_) (fun c_1 => ?_)
  ·
    have h_2 : Rg 1 1 _ := rg_eq1 hx2 rc_1 c_1 (by decide)
    refine wp_pqs (s_X9_isBelow ) (fun r107 h_r107 => ?_)
    refine wp_if (fun c_3 => ?_) (fun c_3 => ?_)
    ·
      have h_4 : Rg 0 0 _ := rg_eq1 h_r107 rc_0 c_3 (by decide)
      refine wp_pqs (s_X9_isBelow ) (fun r110 h_r110 => ?_)
      refine wp_if (fun c_5 => ?_) (fun c_5 => ?_)
      ·
        have h_6 : Rg 0 0 _ := rg_eq1 h_r110 rc_0 c_5 (by decide)
        exact s_X9_narrow_99 hx1 (rg_w rc_1 (by decide)) (by first | exact hk3 | exact (fun ne => absurd rfl ne)) h
      ·
        have h_7 : Rg 1 1 _ := rg_ne1 h_r110 rc_0 c_5 (by decide)
        exact s_X9_narrow_98 hx1 (by first | exact hk3 | exact (fun ne => absurd rfl ne)) h
    ·
      have h_8 : Rg 1 1 _ := rg_ne1 h_r107 rc_0 c_3 (by decide)
      exact s_X9_narrow_98 hx1 (by first | exact hk3 | exact (fun ne => absurd rfl ne)) h
  ·
    refine wp_if (fun c_9 => ?_) (fun c_9 => ?_)
    ·
      have h_10 : Rg 2 2 _ := rg_eq1 hx2 rc_2 c_9 (by decide)
      refine wp_if (fun c_11 => ?_) (fun c_11 => ?_)
      ·
        have h_12 : RgL (-1) (-1) _ := rgl_eq1 (rgl_top _) rcl_m1 ((lg_cmp_eq _ _).mp c_11) (by decide)
        exact s_X9_narrow_190 hx1 (rg_w rc_0 (by decide)) (by first | exact hk3 | exact (fun ne => absurd rfl ne)) h
      ·
        exact s_X9_narrow_190 hx1 (rg_w rc_1 (by decide)) (by first | exact hk3 | exact (fun ne => absurd rfl ne)) h
    ·
      refine wp_if (fun c_13 => ?_) (fun c_13 => ?_)
      ·
        have h_14 : Rg 3 3 _ := rg_eq1 hx2 rc_3 c_13 (by decide)
        refine wp_pqs (s_X9_greater ) (fun r116 _ => ?_)
        exact s_X9_narrow_250 hx1 (rg_w h_y104 (by decide)) (by first | exact hk3 | exact (fun ne => absurd rfl ne)) h
      ·
        refine wp_if (fun c_15 => ?_) (fun c_15 => ?_)
        ·
          have h_16 : Rg 4 4 _ := rg_eq1 hx2 rc_4 c_15 (by decide)
          exact s_X9_narrow_242 hx1 h_y104 (by first | exact hk3 | exact (fun ne => absurd rfl ne)) h
        ·
          refine wp_if (fun c_17 => ?_) (fun c_17 => ?_)
          ·
            have h_18 : Rg 5 5 _ := rg_eq1 hx2 rc_5 c_17 (by decide)
            refine wp_if (fun c_19 => ?_) (fun c_19 => ?_)
            ·
              refine wp_if (fun c_20 => ?_) (fun c_20 => ?_)
              ·
                exact s_X9_narrow_129 hx1 (rg_w rc_0 (by decide)) (by first | exact hk3 | exact (fun ne => absurd rfl ne)) h
              ·
                exact s_X9_narrow_124 hx1 (by first | exact hk3 | exact (fun ne => absurd rfl ne)) h
            ·
              exact s_X9_narrow_124 hx1 (by first | exact hk3 | exact (fun ne => absurd rfl ne)) h
          ·
            refine wp_if (fun c_21 => ?_) (fun c_21 => ?_)
            ·
              have h_22 : Rg 6 6 _ := rg_eq1 hx2 rc_6 c_21 (by decide)
              exact s_X9_narrow_242 hx1 h_y104 (by first | exact hk3 | exact (fun ne => absurd rfl ne)) h
            ·
              refine wp_if (fun c_23 => ?_) (fun c_23 => ?_)
              ·
                have h_24 : Rg 7 7 _ := rg_eq1 hx2 rc_7 c_23 (by decide)
                exact s_X9_narrow_242 hx1 h_y104 (by first | exact hk3 | exact (fun ne => absurd rfl ne)) h
              ·
                refine wp_if (fun c_25 => ?_) (fun c_25 => ?_)
                ·
                  have h_26 : Rg 8 8 _ := rg_eq1 hx2 rc_8 c_25 (by decide)
                  exact s_X9_narrow_242 hx1 h_y104 (by first | exact hk3 | exact (fun ne => absurd rfl ne)) h
                ·
                  refine wp_if (fun c_27 => ?_) (fun c_27 => ?_)
                  ·
                    have h_28 : Rg 9 9 _ := rg_eq1 hx2 rc_9 c_27 (by decide)
                    exact s_X9_narrow_242 hx1 h_y104 (by first | exact hk3 | exact (fun ne => absurd rfl ne)) h
                  ·
                    refine wp_if (fun c_29 => ?_) (fun c_29 => ?_)
                    ·
                      have h_30 : Rg 10 10 _ := rg_eq1 hx2 rc_10 c_29 (by decide)
                      refine wp_if (fun c_31 => ?_) (fun c_31 => ?_)
                      ·
                        have h_32 : RgL 0 0 _ := rgl_eq1 (rgl_top _) rcl_0 ((lg_cmp_eq _ _).mp c_31) (by decide)
                        exact s_X9_narrow_227 hx1 (rg_w rc_0 (by decide)) (by first | exact hk3 | exact (fun ne => absurd rfl ne)) h
                      ·
                        exact s_X9_narrow_227 hx1 (rg_w rc_1 (by decide)) (by first | exact hk3 | exact (fun ne => absurd rfl ne)) h
                    ·
                      exact s_X9_narrow_242 hx1 h_y104 (by first | exact hk3 | exact (fun ne => absurd rfl ne)) h
set_option maxRecDepth 100000 in
theorem s_X9_changedCode  {x0 : Int32} (hx0 : Rg 0 15 x0) : wp (f_X9_changedCode x0) (fun q => Rg 0 15 q) := by
  unfold f_X9_changedCode
  refine wp_if (fun c_1 => ?_) (fun c_1 => ?_)
  ·
    have h_2 : Rg 2 2 _ := rg_eq1 hx0 rc_2 c_1 (by decide)
    exact ⟨_, rfl, (rg_w rc_10 (by decide))⟩
  ·
    refine wp_if (fun c_3 => ?_) (fun c_3 => ?_)
    ·
      have h_4 : Rg 3 3 _ := rg_eq1 hx0 rc_3 c_3 (by decide)
      exact ⟨_, rfl, (rg_w rc_11 (by decide))⟩
    ·
      refine wp_if (fun c_5 => ?_) (fun c_5 => ?_)
      ·
        have h_6 : Rg 10 10 _ := rg_eq1 hx0 rc_10 c_5 (by decide)
        exact ⟨_, rfl, (rg_w rc_2 (by decide))⟩
      ·
        refine wp_if (fun c_7 => ?_) (fun c_7 => ?_)
        ·
          have h_8 : Rg 11 11 _ := rg_eq1 hx0 rc_11 c_7 (by decide)
          exact ⟨_, rfl, (rg_w rc_3 (by decide))⟩
        ·
          exact ⟨_, rfl, hx0⟩
set_option maxRecDepth 100000 in
theorem s_X9_goWay_57 {g : gh} {S : sh}  {xs1 : Int32} {xs2 : Int32} {D : dt} (hxs2 : Rg 0 1 xs2) (h : Inv g S D) : wp (f_X9_goWay_57 S 28 xs1 xs2 D) (fun q => Rg 0 1 q.1 ∧ Inv g S q.2) := by
  unfold f_X9_goWay_57
  refine wp_cqs (s_X9_settle hxs2 h) (fun _ D61 h_D61 => ?_)
  exact ⟨_, rfl, (rg_w rc_1 (by decide)), h_D61⟩
set_option maxRecDepth 100000 in
theorem s_X9_goWay_121 {g : gh} {S : sh}   {D : dt}  (h : Inv g S D) : wp (f_X9_goWay_121 S D) (fun q => Rg 0 1 q.1 ∧ Inv g S q.2) := by
  unfold f_X9_goWay_121
  exact ⟨_, rfl, (rg_w rc_1 (by decide)), h⟩
set_option maxRecDepth 100000 in
theorem s_X9_goWay_26 {g : gh} {S : sh}  {x1 : Int32} {xs0 : Int32} {D : dt} (hx1 : Rg 0 199 x1) (hxs0 : Rg 0 15 xs0) (h30_x1 : Rg 0 10 (g.2 30 x1.toNatClampNeg)) (h31_x1 : Rg 0 10 (g.2 31 x1.toNatClampNeg)) (hf1 : g.1 12 ≠ 0) (hgw : ((g.2 28 53 = 1 → g.2 60 (g.2 30 x1.toNatClampNeg).toNatClampNeg ≠ 3) ∧ (¬ g.2 28 53 = 3 → ¬ g.2 28 53 = 1 → ¬ g.2 28 53 = 0 → g.2 60 (g.2 31 x1.toNatClampNeg).toNatClampNeg ≠ 3))) (h : Inv g S D) : wp (f_X9_goWay_26 S 28 x1 xs0 D) (fun q => Rg 0 1 q.1 ∧ Inv g S q.2) := by
  unfold f_X9_goWay_26
  refine wp_if (fun c_1 => ?_) (fun c_1 => ?_)
  ·
    have h_2 : Rg 3 3 _ := rg_eq1 (rg_top _) rc_3 c_1 (by decide)
    refine wp_rq (iR_28_44 h) ?_
    refine wp_rq (iR_28_2 h) ?_
    refine wp_ix (in_rg hx1 (iA_30 h) (by decide)) ?_
    refine wp_ix (in_rg (rg_eq (h.p 30 _ rfl) h30_x1) (iA_64 h) (by decide)) ?_
    refine wp_if (fun c_3 => ?_) (fun c_3 => ?_)
    ·
      have h_4 : Rg 1 1 _ := rg_eq1 hxs0 rc_1 c_3 (by decide)
      exact s_X9_goWay_57 (rg_w rc_1 (by decide)) h
    ·
      exact s_X9_goWay_57 (rg_w rc_0 (by decide)) h
  ·
    refine wp_if (fun c_5 => ?_) (fun c_5 => ?_)
    ·
      have h_6 : Rg 1 1 _ := rg_eq1 (rg_top _) rc_1 c_5 (by decide)
      refine wp_rq (iR_28_2 h) ?_
      refine wp_ix (in_rg hx1 (iA_30 h) (by decide)) ?_
      refine wp_cqs (s_X9_narrow (rg_eq (h.p 30 _ rfl) h30_x1) hxs0 (gw_k h hf1 rfl (fun f => hgw.1 (f.symm.trans c_5))) h) (fun r92 D93 q_r92 => ?_)
      obtain ⟨h_r92, h_D93⟩ := q_r92
      refine wp_ck (rg_01 h_r92 (by decide)) ?_
      exact ⟨_, rfl, h_r92, h_D93⟩
    ·
      refine wp_if (fun c_7 => ?_) (fun c_7 => ?_)
      ·
        have h_8 : Rg 0 0 _ := rg_eq1 (rg_top _) rc_0 c_7 (by decide)
        exact s_X9_goWay_121 h
      ·
        refine wp_rq (iR_28_3 h) ?_
        refine wp_ix (in_rg hx1 (iA_31 h) (by decide)) ?_
        refine wp_pqs (s_X9_changedCode hxs0) (fun r71 h_r71 => ?_)
        refine wp_rq (iR_28_41 h) ?_
        refine wp_rq (iR_28_2 h) ?_
        refine wp_ix (in_rg hx1 (iA_30 h) (by decide)) ?_
        refine wp_ix (in_rg (rg_eq (h.p 30 _ rfl) h30_x1) (iA_61 h) (by decide)) ?_
        refine wp_cqs (s_X9_narrow (rg_eq (h.p 31 _ rfl) h31_x1) h_r71 (gw_k h hf1 rfl (fun f => hgw.2 (fun e => c_1 (f.trans e)) (fun e => c_5 (f.trans e)) (fun e => c_7 (f.trans e)))) h) (fun r83 D84 q_r83 => ?_)
        obtain ⟨h_r83, h_D84⟩ := q_r83
        refine wp_if (fun c_9 => ?_) (fun c_9 => ?_)
        ·
          have h_10 : Rg 0 0 _ := rg_eq1 h_r83 rc_0 c_9 (by decide)
          exact ⟨_, rfl, (rg_w rc_0 (by decide)), h_D84⟩
        ·
          have h_11 : Rg 1 1 _ := rg_ne1 h_r83 rc_0 c_9 (by decide)
          exact s_X9_goWay_121 h_D84
set_option maxRecDepth 100000 in
theorem s_X9_goWay {g : gh} {S : sh}  {x1 : Int32} {x2 : Int32} {D : dt} (hx1 : Rg 0 199 x1) (hx2 : Rg 0 1 x2) (h30_x1 : Rg 0 10 (g.2 30 x1.toNatClampNeg)) (h31_x1 : Rg 0 10 (g.2 31 x1.toNatClampNeg)) (hf1 : g.1 12 ≠ 0) (hgw : ((g.2 28 53 = 1 → g.2 60 (g.2 30 x1.toNatClampNeg).toNatClampNeg ≠ 3) ∧ (¬ g.2 28 53 = 3 → ¬ g.2 28 53 = 1 → ¬ g.2 28 53 = 0 → g.2 60 (g.2 31 x1.toNatClampNeg).toNatClampNeg ≠ 3))) (h : Inv g S D) : wp (f_X9_goWay S 28 x1 x2 D) (fun q => Rg 0 1 q.1 ∧ Inv g S q.2) := by
  unfold f_X9_goWay
  refine wp_if (fun c_1 => ?_) (fun c_1 => ?_)
  ·
    have h_2 : Rg 0 0 _ := rg_eq1 hx2 rc_0 c_1 (by decide)
    refine wp_rq (iR_28_1 h) ?_
    refine wp_ix (in_rg hx1 (iA_29 h) (by decide)) ?_
    refine wp_pqs (s_X9_otherCode (rg_shr (iI_29 h _) (by decide) : Rg 0 15 _)) (fun r113 h_r113 => ?_)
    exact s_X9_goWay_26 hx1 (rg_w h_r113 (by decide)) h30_x1 h31_x1 (by first | exact hf1 | exact (fun ne => absurd rfl ne)) (by first | exact hgw | exact (fun ne => absurd rfl ne)) h
  ·
    have h_3 : Rg 1 1 _ := rg_ne1 hx2 rc_0 c_1 (by decide)
    refine wp_rq (iR_28_1 h) ?_
    refine wp_ix (in_rg hx1 (iA_29 h) (by decide)) ?_
    exact s_X9_goWay_26 hx1 (rg_shr (iI_29 h _) (by decide) : Rg 0 15 _) h30_x1 h31_x1 (by first | exact hf1 | exact (fun ne => absurd rfl ne)) (by first | exact hgw | exact (fun ne => absurd rfl ne)) h
set_option maxRecDepth 100000 in
theorem s_X9_lookJump_354 {g : gh} {S : sh}  {x1 : Int32} {x9 : Int32} {D : dt} (hx1 : Rg 0 199 x1) (hx9 : Rg 0 1 x9) (h30_x1 : Rg 0 10 (g.2 30 x1.toNatClampNeg)) (h31_x1 : Rg 0 10 (g.2 31 x1.toNatClampNeg)) (hf1 : g.1 12 ≠ 0) (hgw : ((g.2 28 53 = 1 → g.2 60 (g.2 30 x1.toNatClampNeg).toNatClampNeg ≠ 3) ∧ (¬ g.2 28 53 = 3 → ¬ g.2 28 53 = 1 → ¬ g.2 28 53 = 0 → g.2 60 (g.2 31 x1.toNatClampNeg).toNatClampNeg ≠ 3))) (hcp : (g.1 12 = 0 ∨ ∀ j, j < 75 → g.2 60 (75 + j) = g.2 60 j)) (hw9 : (x9 ≠ 0 → Rg 0 199 (x1 + 1 + g.2 32 x1.toNatClampNeg))) (h : Inv g S D) : wp (f_X9_lookJump_354 S 28 x1 x9 D) (fun q => Rg 0 6 q.1 ∧ Inv g S q.2) := by
  unfold f_X9_lookJump_354
  refine wp_cqs (s_X9_copy (rg_w rc_75 (by decide)) (rg_w rc_0 (by decide)) (by first | exact hcp | exact (fun ne => absurd rfl ne)) (Or.inr ⟨rfl, rfl⟩) h) (fun _ D127 h_D127 => ?_)
  refine wp_if (fun c_1 => ?_) (fun c_1 => ?_)
  ·
    have h_2 : Rg 0 0 _ := rg_eq1 hx9 rc_0 c_1 (by decide)
    exact ⟨_, rfl, (rg_w rc_0 (by decide)), h_D127⟩
  ·
    have h_3 : Rg 1 1 _ := rg_ne1 hx9 rc_0 c_1 (by decide)
    refine wp_cqs (s_X9_goWay hx1 (rg_w rc_1 (by decide)) h30_x1 h31_x1 (by first | exact hf1 | exact (fun ne => absurd rfl ne)) (by first | exact hgw | exact (fun ne => absurd rfl ne)) h_D127) (fun r130 D131 q_r130 => ?_)
    obtain ⟨h_r130, h_D131⟩ := q_r130
    refine wp_if (fun c_4 => ?_) (fun c_4 => ?_)
    ·
      have h_5 : Rg 0 0 _ := rg_eq1 h_r130 rc_0 c_4 (by decide)
      exact ⟨_, rfl, (rg_w rc_0 (by decide)), h_D131⟩
    ·
      have h_6 : Rg 1 1 _ := rg_ne1 h_r130 rc_0 c_4 (by decide)
      refine wp_rq (iR_28_4 h_D131) ?_
      refine wp_ix (in_rg hx1 (iA_32 h_D131) (by decide)) ?_
      refine wp_cqs (s_X9_goTo (way_32 h_D131 (hw9 c_1)) h_D131) (fun _ D139 h_D139 => ?_)
      exact ⟨_, rfl, (rg_w rc_0 (by decide)), h_D139⟩
set_option maxRecDepth 100000 in
theorem s_X9_lookJump_333 {g : gh} {S : sh}  {x1 : Int32} {x8 : Int32} {x9 : Int32} {D : dt} (hx1 : Rg 0 199 x1) (hx8 : Rg 0 1 x8) (hx9 : Rg 0 1 x9) (h30_x1 : Rg 0 10 (g.2 30 x1.toNatClampNeg)) (h31_x1 : Rg 0 10 (g.2 31 x1.toNatClampNeg)) (hx8_c_x1 : (x8 ≠ 0 → Rg 0 198 x1)) (hf1 : g.1 12 ≠ 0) (hgw : ((g.2 28 53 = 1 → g.2 60 (g.2 30 x1.toNatClampNeg).toNatClampNeg ≠ 3) ∧ (¬ g.2 28 53 = 3 → ¬ g.2 28 53 = 1 → ¬ g.2 28 53 = 0 → g.2 60 (g.2 31 x1.toNatClampNeg).toNatClampNeg ≠ 3))) (hcp : (g.1 12 = 0 ∨ ∀ j, j < 75 → g.2 60 (75 + j) = g.2 60 j)) (hw9 : (x9 ≠ 0 → Rg 0 199 (x1 + 1 + g.2 32 x1.toNatClampNeg))) (h : Inv g S D) : wp (f_X9_lookJump_333 S 28 x1 x8 x9 D) (fun q => Rg 0 6 q.1 ∧ Inv g S q.2) := by
  unfold f_X9_lookJump_333
  refine wp_if (fun c_1 => ?_) (fun c_1 => ?_)
  ·
    have h_2 : Rg 0 0 _ := rg_eq1 hx8 rc_0 c_1 (by decide)
    exact s_X9_lookJump_354 hx1 hx9 h30_x1 h31_x1 (by first | exact hf1 | exact (fun ne => absurd rfl ne)) (by first | exact hgw | exact (fun ne => absurd rfl ne)) (by first | exact hcp | exact (fun ne => absurd rfl ne)) (by first | exact hw9 | exact (fun ne => absurd rfl ne)) h
  ·
    have h_3 := hx8_c_x1 c_1
    have h_4 : Rg 0 198 _ := rg_eq1 h_3 hx1 rfl (by decide)
    have h_5 : Rg 1 1 _ := rg_ne1 hx8 rc_0 c_1 (by decide)
    refine wp_cqs (s_X9_goWay (rg_w h_4 (by decide)) (rg_w rc_0 (by decide)) h30_x1 h31_x1 (by first | exact hf1 | exact (fun ne => absurd rfl ne)) (by first | exact hgw | exact (fun ne => absurd rfl ne)) h) (fun r142 D143 q_r142 => ?_)
    obtain ⟨h_r142, h_D143⟩ := q_r142
    refine wp_if (fun c_6 => ?_) (fun c_6 => ?_)
    ·
      have h_7 : Rg 0 0 _ := rg_eq1 h_r142 rc_0 c_6 (by decide)
      exact s_X9_lookJump_354 (rg_w h_4 (by decide)) hx9 h30_x1 h31_x1 (by first | exact hf1 | exact (fun ne => absurd rfl ne)) (by first | exact hgw | exact (fun ne => absurd rfl ne)) (by first | exact hcp | exact (fun ne => absurd rfl ne)) (by first | exact hw9 | exact (fun ne => absurd rfl ne)) h_D143
    ·
      have h_8 : Rg 1 1 _ := rg_ne1 h_r142 rc_0 c_6 (by decide)
      refine wp_cqs (s_X9_goTo (rg_w (rg_add h_4 rc_1 (by decide) : Rg 1 199 _) (by decide)) h_D143) (fun _ D146 h_D146 => ?_)
      exact s_X9_lookJump_354 (rg_w h_4 (by decide)) hx9 h30_x1 h31_x1 (by first | exact hf1 | exact (fun ne => absurd rfl ne)) (by first | exact hgw | exact (fun ne => absurd rfl ne)) (by first | exact hcp | exact (fun ne => absurd rfl ne)) (by first | exact hw9 | exact (fun ne => absurd rfl ne)) h_D146
set_option maxRecDepth 100000 in
theorem s_X9_lookJump_308 {g : gh} {S : sh}  {x1 : Int32} {x8 : Int32} {x9 : Int32} {D : dt} (hx1 : Rg 0 199 x1) (hx8 : Rg 0 1 x8) (hx9 : Rg 0 1 x9) (h30_x1 : Rg 0 10 (g.2 30 x1.toNatClampNeg)) (h31_x1 : Rg 0 10 (g.2 31 x1.toNatClampNeg)) (hx8_c_x1 : (x8 ≠ 0 → Rg 0 198 x1)) (hf1 : g.1 12 ≠ 0) (hgw : ((g.2 28 53 = 1 → g.2 60 (g.2 30 x1.toNatClampNeg).toNatClampNeg ≠ 3) ∧ (¬ g.2 28 53 = 3 → ¬ g.2 28 53 = 1 → ¬ g.2 28 53 = 0 → g.2 60 (g.2 31 x1.toNatClampNeg).toNatClampNeg ≠ 3))) (hcp : (g.1 12 = 0 ∨ ∀ j, j < 75 → g.2 60 (75 + j) = g.2 60 j)) (h : Inv g S D) : wp (f_X9_lookJump_308 S 28 x1 x8 x9 D) (fun q => Rg 0 6 q.1 ∧ Inv g S q.2) := by
  unfold f_X9_lookJump_308
  refine wp_if (fun c_1 => ?_) (fun c_1 => ?_)
  ·
    have h_2 : Rg 0 0 _ := rg_eq1 hx9 rc_0 c_1 (by decide)
    exact s_X9_lookJump_333 hx1 hx8 (rg_w h_2 (by decide)) h30_x1 h31_x1 (fun ne => by have h_3 := hx8_c_x1 ne; have h_4 : Rg 0 198 _ := rg_eq1 h_3 hx1 rfl (by decide); have h_5 : Rg 1 1 _ := rg_ne1 hx8 rc_0 ne (by decide); exact h_4) (by first | exact hf1 | exact (fun ne => absurd rfl ne)) (by first | exact hgw | exact (fun ne => absurd rfl ne)) (by first | exact hcp | exact (fun ne => absurd rfl ne)) (fun q => absurd c_1 q) h
  ·
    have h_6 : Rg 1 1 _ := rg_ne1 hx9 rc_0 c_1 (by decide)
    refine wp_rq (iR_28_4 h) ?_
    refine wp_ix (in_rg hx1 (iA_32 h) (by decide)) ?_
    refine wp_pqs (s_X9_isWay h) (fun r154 q_r154 => ?_)
    obtain ⟨h_r154, x_r154⟩ := q_r154
    refine wp_if (fun c_7 => ?_) (fun c_7 => ?_)
    ·
      have h_8 : Rg 0 0 _ := rg_eq1 h_r154 rc_0 c_7 (by decide)
      exact ⟨_, rfl, (rg_w rc_6 (by decide)), h⟩
    ·
      have h_9 := x_r154 c_7
      have h_10 : Rg 0 199 _ := rg_eq1 h_9 (rg_add (rg_add hx1 rc_1 (by decide) : Rg 1 200 _) (iI_32 h _) (by decide) : Rg (-32767) 32967 _) rfl (by decide)
      have h_11 : Rg 1 1 _ := rg_ne1 h_r154 rc_0 c_7 (by decide)
      exact s_X9_lookJump_333 hx1 hx8 (rg_w h_6 (by decide)) h30_x1 h31_x1 (fun ne => by have h_12 := hx8_c_x1 ne; have h_13 : Rg 0 198 _ := rg_eq1 h_12 hx1 rfl (by decide); have h_14 : Rg 1 1 _ := rg_ne1 hx8 rc_0 ne (by decide); exact h_13) (by first | exact hf1 | exact (fun ne => absurd rfl ne)) (by first | exact hgw | exact (fun ne => absurd rfl ne)) (by first | exact hcp | exact (fun ne => absurd rfl ne)) (fun _ => way_g h (x_r154 c_7)) h
def jmg (g : gh) (D D2 : dt) : gh := (fun n => if n = 12 then 1 else if n = 13 then (gL D2 14 9).toInt else if n = 14 then (gL D2 14 11).toInt else g.1 n, fun o j => if o = 14 then gI D2 14 j else if o = 60 then (if j < 75 then gI D 60 j else if j < 150 then gI D 60 (j - 75) else 3) else if o = 28 then gI D2 28 j else g.2 o j)
theorem Inv.jm {g : gh} {S : sh} {D D2 : dt} (h : Inv g S D2) (k1 : ∀ j, j < 75 → gI D2 60 j = 3 → gI D 60 j = 3) (k2 : ∀ j, j < 75 → gI D2 60 (75 + j) = 3 → gI D 60 j = 3) : Inv (jmg g D D2) S D2 := by
  obtain ⟨a1, a2, a3, a4, a5, a6, a7, a8, a9, a10, a11⟩ := h
  refine ⟨a1, a2, a3, a4, a5, a6, a7, fun o j ho => ?_, a9, a10, fun _ => ⟨rfl, rfl, rfl, rfl, fun j e => ?_, rfl⟩⟩
  · show gI D2 o j = if o = 14 then gI D2 14 j else if o = 60 then (if j < 75 then gI D 60 j else if j < 150 then gI D 60 (j - 75) else 3) else if o = 28 then gI D2 28 j else g.2 o j
    rw [if_neg (isP_ne ho rfl), if_neg (isP_ne ho rfl), if_neg (isP_ne ho rfl)]
    exact a8 o j ho
  · show (if j < 75 then gI D 60 j else if j < 150 then gI D 60 (j - 75) else 3) = 3
    split
    · rename_i w
      exact k1 j w e
    · split
      · rename_i w1 w2
        obtain ⟨i, rfl⟩ : ∃ i, j = 75 + i := ⟨j - 75, by omega⟩
        rw [Nat.add_sub_cancel_left]
        exact k2 i (by omega) e
      · rfl
theorem Inv.unjm {g : gh} {S : sh} {D D0 D2 : dt} (h : Inv (jmg g D0 D2) S D) (hz : g.1 12 = 0) : Inv g S D := by
  obtain ⟨a1, a2, a3, a4, a5, a6, a7, a8, a9, a10, a11⟩ := h
  refine ⟨a1, a2, a3, a4, a5, a6, a7, fun o j ho => ?_, a9, a10, fun q => absurd hz q⟩
  have e : gI D o j = if o = 14 then gI D2 14 j else if o = 60 then (if j < 75 then gI D0 60 j else if j < 150 then gI D0 60 (j - 75) else 3) else if o = 28 then gI D2 28 j else g.2 o j := a8 o j ho
  rw [if_neg (isP_ne ho rfl), if_neg (isP_ne ho rfl), if_neg (isP_ne ho rfl)] at e
  exact e
theorem s_X9_lookJump_253 {g : gh} {S : sh} {x1 : Int32} {xs1 : Int32} {D : dt} (hx1 : Rg 0 199 x1) (hxs1 : Rg 0 3 xs1) (h30_x1 : Rg 0 10 (g.2 30 x1.toNatClampNeg)) (h31_x1 : Rg 0 10 (g.2 31 x1.toNatClampNeg)) (hm : ((xs1 = 1 → gI D 60 (g.2 30 x1.toNatClampNeg).toNatClampNeg ≠ 3) ∧ (¬ xs1 = 3 → ¬ xs1 = 1 → ¬ xs1 = 0 → gI D 60 (g.2 31 x1.toNatClampNeg).toNatClampNeg ≠ 3))) (hfz : g.1 12 = 0) (h : Inv g S D) : wp (f_X9_lookJump_253 S 28 x1 28 xs1 D) (fun q => Rg 0 6 q.1 ∧ Inv g S q.2) := by
  unfold f_X9_lookJump_253
  refine wp_nmI (fun D1 e1 => ?_)
  have h1 : Inv g S D1 := by rw [e1]; exact inv_i28 h (Or.inr (Or.inr ⟨rfl, hfz⟩)) (rg_top _)
  have k60 : ∀ j, gI D1 60 j = gI D 60 j := fun j => by rw [e1, gI_pI, if_neg (fun q => by omega)]
  have k53 : gI D1 28 53 = xs1 := by rw [e1, gI_pI, if_pos ⟨rfl, rfl⟩]
  refine wp_cqs (q_copy0 hfz h1) (fun _ D2 q => ?_)
  obtain ⟨q1, q2, q3, h2⟩ := q
  have q3 : gI D2 28 53 = gI D1 28 53 := q3
  have h2 : Inv g S D2 := h2
  have j2 : Inv (jmg g D1 D2) S D2 := h2.jm q1 q2
  have hf1 : (jmg g D1 D2).1 12 ≠ 0 := by
    show (1 : Int) ≠ 0
    decide
  have small : ∀ {p : Int32}, Rg 0 10 p → (jmg g D1 D2).2 60 p.toNatClampNeg = gI D 60 p.toNatClampNeg := fun {p} r => by
    show (if p.toNatClampNeg < 75 then gI D1 60 p.toNatClampNeg else _) = _
    have t := tnc (x := p) r.1
    rw [if_pos (by have := r.2; omega), k60]
  have m53 : (jmg g D1 D2).2 28 53 = xs1 := q3.trans k53
  have hgw : (((jmg g D1 D2).2 28 53 = 1 → (jmg g D1 D2).2 60 ((jmg g D1 D2).2 30 x1.toNatClampNeg).toNatClampNeg ≠ 3) ∧ (¬ (jmg g D1 D2).2 28 53 = 3 → ¬ (jmg g D1 D2).2 28 53 = 1 → ¬ (jmg g D1 D2).2 28 53 = 0 → (jmg g D1 D2).2 60 ((jmg g D1 D2).2 31 x1.toNatClampNeg).toNatClampNeg ≠ 3)) := by
    have s0 := small h30_x1
    have s1 := small h31_x1
    rw [m53]
    refine ⟨fun e => ?_, fun n3 n1 n0 => ?_⟩
    · show (jmg g D1 D2).2 60 (g.2 30 x1.toNatClampNeg).toNatClampNeg ≠ 3
      rw [s0]
      exact hm.1 e
    · show (jmg g D1 D2).2 60 (g.2 31 x1.toNatClampNeg).toNatClampNeg ≠ 3
      rw [s1]
      exact hm.2 n3 n1 n0
  have hcp : (jmg g D1 D2).1 12 = 0 ∨ ∀ j, j < 75 → (jmg g D1 D2).2 60 (75 + j) = (jmg g D1 D2).2 60 j := Or.inr (fun j w => by
    show (if 75 + j < 75 then gI D1 60 (75 + j) else if 75 + j < 150 then gI D1 60 (75 + j - 75) else 3) = (if j < 75 then gI D1 60 j else _)
    rw [if_neg (by omega), if_pos (by omega), if_pos w, Nat.add_sub_cancel_left])
  have a30 : Rg 0 10 ((jmg g D1 D2).2 30 x1.toNatClampNeg) := h30_x1
  have a31 : Rg 0 10 ((jmg g D1 D2).2 31 x1.toNatClampNeg) := h31_x1
  have r75 : Rg 0 75 (75 : Int32) := by decide
  have r0 : Rg 0 75 (0 : Int32) := by decide
  have b0 : Rg 0 1 (0 : Int32) := by decide
  have b1 : Rg 0 1 (1 : Int32) := by decide
  refine wp_cqs (s_X9_goWay hx1 b0 a30 a31 hf1 hgw j2) (fun r160 D3 q => ?_)
  obtain ⟨hr, j3⟩ := q
  refine wp_cqs (s_X9_copy r75 r0 hcp (Or.inr ⟨rfl, rfl⟩) j3) (fun _ D4 j4 => ?_)
  refine wp_cqs (s_X9_goWay hx1 b1 a30 a31 hf1 hgw j4) (fun r165 D5 q => ?_)
  obtain ⟨hs, j5⟩ := q
  refine wp_cqs (s_X9_copy r75 r0 hcp (Or.inr ⟨rfl, rfl⟩) j5) (fun _ D6 j6 => ?_)
  have fin : ∀ {k : Option (Int32 × dt)}, wp k (fun q => Rg 0 6 q.1 ∧ Inv (jmg g D1 D2) S q.2) → wp k (fun q => Rg 0 6 q.1 ∧ Inv g S q.2) := fun w => wp_mono w (fun q r => ⟨r.1, r.2.unjm hfz⟩)
  refine wp_if (fun c => fin (s_X9_lookJump_308 hx1 hr hs a30 a31 (fun n => absurd c n) hf1 hgw hcp j6)) (fun c => wp_pqs (s_X9_isWay j6) (fun r171 q => wp_if (fun _ => ⟨_, rfl, (by decide : Rg 0 6 (6 : Int32)), Inv.unjm j6 hfz⟩) (fun c2 => fin (s_X9_lookJump_308 hx1 hr hs a30 a31 (fun _ => ?_) hf1 hgw hcp j6))))
  have w := q.2 c2
  have l1 : (1 : Int32).toInt = 1 := rfl
  have e := i32_add hx1 (by decide : Rg 1 1 (1 : Int32)) (by decide)
  exact ⟨hx1.1, by have := w.2; omega⟩
set_option maxRecDepth 100000 in
theorem s_X9_lookJump_210 {g : gh} {S : sh}  {x1 : Int32} {D : dt} (hx1 : Rg 0 199 x1) (h30_x1 : Rg 0 10 (g.2 30 x1.toNatClampNeg)) (h31_x1 : Rg 0 10 (g.2 31 x1.toNatClampNeg)) (hfz : g.1 12 = 0) (h : Inv g S D) : wp (f_X9_lookJump_210 S 28 x1 28 D) (fun q => Rg 0 6 q.1 ∧ Inv g S q.2) := by
  unfold f_X9_lookJump_210
  exact s_X9_lookJump_253 hx1 (rg_w rc_0 (by decide)) h30_x1 h31_x1 ⟨fun e => absurd e (by decide), fun _ _ e => absurd rfl e⟩ hfz h
set_option maxRecDepth 100000 in
theorem s_X9_lookJump_189 {g : gh} {S : sh}  {x1 : Int32} {x3 : Int32} {x5 : Int32} {x6 : Int32} {xs0 : Int32} {D : dt} (hx1 : Rg 0 199 x1) (hx3 : Rg 0 1 x3) (hx5 : Rg 0 10 x5) (hx6 : Rg 0 1 x6) (hxs0 : Rg 0 1 xs0) (h30_x1 : Rg 0 10 (g.2 30 x1.toNatClampNeg)) (h31_x1 : Rg 0 10 (g.2 31 x1.toNatClampNeg)) (hs2 : (gI D 28 50 = 1 → gL D 28 51 ≠ gL D 28 52 → gI D 60 (g.2 31 x1.toNatClampNeg).toNatClampNeg ≠ 3)) (h5 : x5 = g.2 30 x1.toNatClampNeg) (hq6 : (x6 = 0 → gI D 60 x5.toNatClampNeg ≠ 3 ∧ gI D 28 50 = 1)) (hfz : g.1 12 = 0) (h : Inv g S D) : wp (f_X9_lookJump_189 S 28 x1 x3 x5 x6 xs0 D) (fun q => Rg 0 6 q.1 ∧ Inv g S q.2) := by
  unfold f_X9_lookJump_189
  refine wp_if (fun c_1 => ?_) (fun c_1 => ?_)
  ·
    have h_2 : Rg 0 0 _ := rg_eq1 hx6 rc_0 c_1 (by decide)
    refine wp_if (fun c_3 => ?_) (fun c_3 => ?_)
    ·
      have h_4 : Rg 0 0 _ := rg_eq1 hx3 rc_0 c_3 (by decide)
      exact s_X9_lookJump_210 hx1 h30_x1 h31_x1 hfz h
    ·
      have h_5 : Rg 1 1 _ := rg_ne1 hx3 rc_0 c_3 (by decide)
      refine wp_if (fun c_6 => ?_) (fun c_6 => ?_)
      ·
        have h_7 : Rg 0 0 _ := rg_eq1 hxs0 rc_0 c_6 (by decide)
        exact s_X9_lookJump_210 hx1 h30_x1 h31_x1 hfz h
      ·
        have h_8 : Rg 1 1 _ := rg_ne1 hxs0 rc_0 c_6 (by decide)
        refine wp_if (fun c_9 => ?_) (fun c_9 => ?_)
        ·
          exact s_X9_lookJump_253 hx1 (rg_w rc_1 (by decide)) h30_x1 h31_x1 ⟨fun _ => h5 ▸ (hq6 c_1).1, fun _ e => absurd rfl e⟩ hfz h
        ·
          refine wp_rq (iR_28_41 h) ?_
          refine wp_ix (in_rg hx5 (iA_61 h) (by decide)) ?_
          refine wp_rq (iR_28_42 h) ?_
          refine wp_ix (in_rg hx5 (iA_62 h) (by decide)) ?_
          refine wp_if (fun c_10 => ?_) (fun c_10 => ?_)
          ·
            exact s_X9_lookJump_253 hx1 (rg_w rc_2 (by decide)) h30_x1 h31_x1 ⟨fun e => absurd e (by decide), fun _ _ _ => hs2 (hq6 c_1).2 (fun e => c_9 ((lg_cmp_eq _ _).mpr e))⟩ hfz h
          ·
            exact s_X9_lookJump_253 hx1 (rg_w rc_0 (by decide)) h30_x1 h31_x1 ⟨fun e => absurd e (by decide), fun _ _ e => absurd rfl e⟩ hfz h
  ·
    have h_11 : Rg 1 1 _ := rg_ne1 hx6 rc_0 c_1 (by decide)
    exact s_X9_lookJump_253 hx1 (rg_w rc_3 (by decide)) h30_x1 h31_x1 ⟨fun e => absurd e (by decide), fun e => absurd rfl e⟩ hfz h
set_option maxRecDepth 100000 in
theorem s_X9_lookJump_184 {g : gh} {S : sh}  {x1 : Int32} {x3 : Int32} {x5 : Int32} {x6 : Int32} {D : dt} (hx1 : Rg 0 199 x1) (hx3 : Rg 0 1 x3) (hx5 : Rg 0 10 x5) (hx6 : Rg 0 1 x6) (h30_x1 : Rg 0 10 (g.2 30 x1.toNatClampNeg)) (h31_x1 : Rg 0 10 (g.2 31 x1.toNatClampNeg)) (hs2 : (gI D 28 50 = 1 → gL D 28 51 ≠ gL D 28 52 → gI D 60 (g.2 31 x1.toNatClampNeg).toNatClampNeg ≠ 3)) (h5 : x5 = g.2 30 x1.toNatClampNeg) (hq6 : (x6 = 0 → gI D 60 x5.toNatClampNeg ≠ 3 ∧ gI D 28 50 = 1)) (hfz : g.1 12 = 0) (h : Inv g S D) : wp (f_X9_lookJump_184 S 28 x1 x3 x5 x6 D) (fun q => Rg 0 6 q.1 ∧ Inv g S q.2) := by
  unfold f_X9_lookJump_184
  exact s_X9_lookJump_189 hx1 hx3 hx5 hx6 (rg_w rc_1 (by decide)) h30_x1 h31_x1 (by first | exact hs2 | exact (fun ne => absurd rfl ne)) (by first | exact h5 | exact (fun ne => absurd rfl ne)) (by first | exact hq6 | exact (fun ne => absurd rfl ne)) hfz h
set_option maxRecDepth 100000 in
theorem s_X9_lookJump_152 {g : gh} {S : sh}  {x1 : Int32} {x2 : Int32} {x3 : Int32} {x5 : Int32} {x6 : Int32} {D : dt} (hx1 : Rg 0 199 x1) (hx2 : Rg 0 15 x2) (hx3 : Rg 0 1 x3) (hx5 : Rg 0 10 x5) (hx6 : Rg 0 1 x6) (h30_x1 : Rg 0 10 (g.2 30 x1.toNatClampNeg)) (h31_x1 : Rg 0 10 (g.2 31 x1.toNatClampNeg)) (hs2 : (gI D 28 50 = 1 → gL D 28 51 ≠ gL D 28 52 → gI D 60 (g.2 31 x1.toNatClampNeg).toNatClampNeg ≠ 3)) (h5 : x5 = g.2 30 x1.toNatClampNeg) (hq6 : (x6 = 0 → gI D 60 x5.toNatClampNeg ≠ 3 ∧ gI D 28 50 = 1)) (hfz : g.1 12 = 0) (h : Inv g S D) : wp (f_X9_lookJump_152 S 28 x1 x2 x3 x5 x6 D) (fun q => Rg 0 6 q.1 ∧ Inv g S q.2) := by
  unfold f_X9_lookJump_152
  refine wp_if (fun c_1 => ?_) (fun c_1 => ?_)
  ·
    have h_2 : Rg 1 1 _ := rg_eq1 hx2 rc_1 c_1 (by decide)
    exact s_X9_lookJump_184 hx1 hx3 hx5 hx6 h30_x1 h31_x1 (by first | exact hs2 | exact (fun ne => absurd rfl ne)) (by first | exact h5 | exact (fun ne => absurd rfl ne)) (by first | exact hq6 | exact (fun ne => absurd rfl ne)) hfz h
  ·
    refine wp_if (fun c_3 => ?_) (fun c_3 => ?_)
    ·
      have h_4 : Rg 5 5 _ := rg_eq1 hx2 rc_5 c_3 (by decide)
      exact s_X9_lookJump_184 hx1 hx3 hx5 hx6 h30_x1 h31_x1 (by first | exact hs2 | exact (fun ne => absurd rfl ne)) (by first | exact h5 | exact (fun ne => absurd rfl ne)) (by first | exact hq6 | exact (fun ne => absurd rfl ne)) hfz h
    ·
      refine wp_if (fun c_5 => ?_) (fun c_5 => ?_)
      ·
        have h_6 : Rg 2 2 _ := rg_eq1 hx2 rc_2 c_5 (by decide)
        exact s_X9_lookJump_184 hx1 hx3 hx5 hx6 h30_x1 h31_x1 (by first | exact hs2 | exact (fun ne => absurd rfl ne)) (by first | exact h5 | exact (fun ne => absurd rfl ne)) (by first | exact hq6 | exact (fun ne => absurd rfl ne)) hfz h
      ·
        refine wp_if (fun c_7 => ?_) (fun c_7 => ?_)
        ·
          have h_8 : Rg 3 3 _ := rg_eq1 hx2 rc_3 c_7 (by decide)
          exact s_X9_lookJump_184 hx1 hx3 hx5 hx6 h30_x1 h31_x1 (by first | exact hs2 | exact (fun ne => absurd rfl ne)) (by first | exact h5 | exact (fun ne => absurd rfl ne)) (by first | exact hq6 | exact (fun ne => absurd rfl ne)) hfz h
        ·
          refine wp_if (fun c_9 => ?_) (fun c_9 => ?_)
          ·
            have h_10 : Rg 10 10 _ := rg_eq1 hx2 rc_10 c_9 (by decide)
            exact s_X9_lookJump_184 hx1 hx3 hx5 hx6 h30_x1 h31_x1 (by first | exact hs2 | exact (fun ne => absurd rfl ne)) (by first | exact h5 | exact (fun ne => absurd rfl ne)) (by first | exact hq6 | exact (fun ne => absurd rfl ne)) hfz h
          ·
            refine wp_if (fun c_11 => ?_) (fun c_11 => ?_)
            ·
              have h_12 : Rg 11 11 _ := rg_eq1 hx2 rc_11 c_11 (by decide)
              exact s_X9_lookJump_184 hx1 hx3 hx5 hx6 h30_x1 h31_x1 (by first | exact hs2 | exact (fun ne => absurd rfl ne)) (by first | exact h5 | exact (fun ne => absurd rfl ne)) (by first | exact hq6 | exact (fun ne => absurd rfl ne)) hfz h
            ·
              exact s_X9_lookJump_189 hx1 hx3 hx5 hx6 (rg_w rc_0 (by decide)) h30_x1 h31_x1 (by first | exact hs2 | exact (fun ne => absurd rfl ne)) (by first | exact h5 | exact (fun ne => absurd rfl ne)) (by first | exact hq6 | exact (fun ne => absurd rfl ne)) hfz h
set_option maxRecDepth 100000 in
theorem s_X9_lookJump_124 {g : gh} {S : sh}  {x1 : Int32} {x2 : Int32} {x3 : Int32} {x5 : Int32} {xs0 : Int32} {D : dt} (hx1 : Rg 0 199 x1) (hx2 : Rg 0 15 x2) (hx3 : Rg 0 1 x3) (hx5 : Rg 0 10 x5) (hxs0 : Rg 0 1 xs0) (h30_x1 : Rg 0 10 (g.2 30 x1.toNatClampNeg)) (h31_x1 : Rg 0 10 (g.2 31 x1.toNatClampNeg)) (hs2 : (gI D 28 50 = 1 → gL D 28 51 ≠ gL D 28 52 → gI D 60 (g.2 31 x1.toNatClampNeg).toNatClampNeg ≠ 3)) (h5 : x5 = g.2 30 x1.toNatClampNeg) (hfz : g.1 12 = 0) (h : Inv g S D) : wp (f_X9_lookJump_124 S 28 x1 x2 x3 x5 xs0 D) (fun q => Rg 0 6 q.1 ∧ Inv g S q.2) := by
  unfold f_X9_lookJump_124
  refine wp_if (fun c_1 => ?_) (fun c_1 => ?_)
  ·
    have h_2 : Rg 0 0 _ := rg_eq1 hxs0 rc_0 c_1 (by decide)
    refine wp_rq (iR_28_40 h) ?_
    refine wp_ix (in_rg hx5 (iA_60 h) (by decide)) ?_
    refine wp_if (fun c_3 => ?_) (fun c_3 => ?_)
    ·
      have h_4 : Rg 1 1 _ := rg_eq1 (rg_top _) rc_1 c_3 (by decide)
      refine wp_if (fun c_5 => ?_) (fun c_5 => ?_)
      ·
        have h_6 : Rg 1 1 _ := rg_eq1 (rg_top _) rc_1 c_5 (by decide)
        exact s_X9_lookJump_152 hx1 hx2 hx3 hx5 (rg_w h_2 (by decide)) h30_x1 h31_x1 (by first | exact hs2 | exact (fun ne => absurd rfl ne)) (by first | exact h5 | exact (fun ne => absurd rfl ne)) (fun _ => ⟨fun e => absurd (c_3.symm.trans e) (by decide), c_5⟩) hfz h
      ·
        exact ⟨_, rfl, (rg_w rc_3 (by decide)), h⟩
    ·
      exact ⟨_, rfl, (rg_w rc_3 (by decide)), h⟩
  ·
    have h_7 : Rg 1 1 _ := rg_ne1 hxs0 rc_0 c_1 (by decide)
    exact s_X9_lookJump_152 hx1 hx2 hx3 hx5 (rg_w h_7 (by decide)) h30_x1 h31_x1 (by first | exact hs2 | exact (fun ne => absurd rfl ne)) (by first | exact h5 | exact (fun ne => absurd rfl ne)) (fun e => absurd e c_1) hfz h
set_option maxRecDepth 100000 in
theorem s_X9_lookJump_123 {g : gh} {S : sh}  {x1 : Int32} {x2 : Int32} {x3 : Int32} {x5 : Int32} {D : dt} (hx1 : Rg 0 199 x1) (hx2 : Rg 0 15 x2) (hx3 : Rg 0 1 x3) (hx5 : Rg 0 10 x5) (h30_x1 : Rg 0 10 (g.2 30 x1.toNatClampNeg)) (h31_x1 : Rg 0 10 (g.2 31 x1.toNatClampNeg)) (hs2 : (gI D 28 50 = 1 → gL D 28 51 ≠ gL D 28 52 → gI D 60 (g.2 31 x1.toNatClampNeg).toNatClampNeg ≠ 3)) (h5 : x5 = g.2 30 x1.toNatClampNeg) (hfz : g.1 12 = 0) (h : Inv g S D) : wp (f_X9_lookJump_123 S 28 x1 x2 x3 x5 D) (fun q => Rg 0 6 q.1 ∧ Inv g S q.2) := by
  unfold f_X9_lookJump_123
  exact s_X9_lookJump_124 hx1 hx2 hx3 hx5 (rg_w rc_0 (by decide)) h30_x1 h31_x1 (by first | exact hs2 | exact (fun ne => absurd rfl ne)) (by first | exact h5 | exact (fun ne => absurd rfl ne)) hfz h
set_option maxRecDepth 100000 in
theorem s_X9_lookJump_119 {g : gh} {S : sh}  {x1 : Int32} {x2 : Int32} {x3 : Int32} {x5 : Int32} {D : dt} (hx1 : Rg 0 199 x1) (hx2 : Rg 1 5 x2) (hx3 : Rg 1 1 x3) (hx5 : Rg 0 10 x5) (h30_x1 : Rg 0 10 (g.2 30 x1.toNatClampNeg)) (h31_x1 : Rg 0 10 (g.2 31 x1.toNatClampNeg)) (hs2 : (gI D 28 50 = 1 → gL D 28 51 ≠ gL D 28 52 → gI D 60 (g.2 31 x1.toNatClampNeg).toNatClampNeg ≠ 3)) (h5 : x5 = g.2 30 x1.toNatClampNeg) (hfz : g.1 12 = 0) (h : Inv g S D) : wp (f_X9_lookJump_119 S 28 x1 x2 x3 x5 D) (fun q => Rg 0 6 q.1 ∧ Inv g S q.2) := by
  unfold f_X9_lookJump_119
  exact s_X9_lookJump_124 hx1 (rg_w hx2 (by decide)) (rg_w hx3 (by decide)) hx5 (rg_w rc_1 (by decide)) h30_x1 h31_x1 (by first | exact hs2 | exact (fun ne => absurd rfl ne)) (by first | exact h5 | exact (fun ne => absurd rfl ne)) hfz h
set_option maxRecDepth 100000 in
theorem s_X9_lookJump_45 {g : gh} {S : sh}  {x1 : Int32} {x2 : Int32} {x3 : Int32} {xs0 : Int32} {D : dt} (hx1 : Rg 0 199 x1) (hx2 : Rg 0 15 x2) (hx3 : Rg 0 1 x3) (hxs0 : Rg 0 1 xs0) (h30_x1 : Rg 0 10 (g.2 30 x1.toNatClampNeg)) (h31_x1 : Rg 0 10 (g.2 31 x1.toNatClampNeg)) (hfz : g.1 12 = 0) (h : Inv g S D) : wp (f_X9_lookJump_45 S 28 x1 x2 x3 xs0 D) (fun q => Rg 0 6 q.1 ∧ Inv g S q.2) := by
  unfold f_X9_lookJump_45
  refine wp_rq (iR_28_2 h) ?_
  refine wp_ix (in_rg hx1 (iA_30 h) (by decide)) ?_
  refine wp_nmI (fun y207 e_y207 => ?_)
  have h_y207 : Rg 0 10 y207 := rg_eq e_y207 (rg_eq (h.p 30 _ rfl) h30_x1)
  refine wp_cqs (s_X9_takeSecond hx1 h30_x1 h31_x1 h) (fun _ D209 q_D209 => ?_)
  obtain ⟨p__, h_D209⟩ := q_D209
  refine wp_rq (iR_28_40 h_D209) ?_
  refine wp_ix (in_rg h_y207 (iA_60 h_D209) (by decide)) ?_
  refine wp_if (fun c_1 => ?_) (fun c_1 => ?_)
  ·
    have h_2 : Rg 0 0 _ := rg_eq1 (rg_top _) rc_0 c_1 (by decide)
    exact ⟨_, rfl, (rg_w rc_2 (by decide)), h_D209⟩
  ·
    refine wp_if (fun c_3 => ?_) (fun c_3 => ?_)
    ·
      have h_4 : Rg 0 0 _ := rg_eq1 (rg_top _) rc_0 c_3 (by decide)
      exact ⟨_, rfl, (rg_w rc_2 (by decide)), h_D209⟩
    ·
      refine wp_rq (iR_28_40 h_D209) ?_
      refine wp_ix (in_rg h_y207 (iA_60 h_D209) (by decide)) ?_
      refine wp_if (fun c_5 => ?_) (fun c_5 => ?_)
      ·
        have h_6 : Rg 6 6 _ := rg_eq1 (rg_top _) rc_6 c_5 (by decide)
        refine wp_if (fun c_7 => ?_) (fun c_7 => ?_)
        ·
          have h_8 : Rg 0 0 _ := rg_eq1 hxs0 rc_0 c_7 (by decide)
          refine wp_rq (iR_28_5 h_D209) ?_
          refine wp_ix (in_rg hx1 (iA_33 h_D209) (by decide)) ?_
          refine wp_if (fun c_9 => ?_) (fun c_9 => ?_)
          ·
            have h_10 : Rg 0 0 _ := rg_eq1 (rg_top _) rc_0 c_9 (by decide)
            refine wp_if (fun c_11 => ?_) (fun c_11 => ?_)
            ·
              have h_12 : Rg 0 0 _ := rg_eq1 hx3 rc_0 c_11 (by decide)
              exact s_X9_lookJump_123 hx1 hx2 (rg_w h_12 (by decide)) h_y207 h30_x1 h31_x1 p__ (e_y207.trans (h.p 30 _ rfl)) hfz h_D209
            ·
              have h_13 : Rg 1 1 _ := rg_ne1 hx3 rc_0 c_11 (by decide)
              refine wp_if (fun c_14 => ?_) (fun c_14 => ?_)
              ·
                have h_15 : Rg 1 1 _ := rg_eq1 hx2 rc_1 c_14 (by decide)
                exact s_X9_lookJump_119 hx1 (rg_w h_15 (by decide)) h_13 h_y207 h30_x1 h31_x1 p__ (e_y207.trans (h.p 30 _ rfl)) hfz h_D209
              ·
                refine wp_if (fun c_16 => ?_) (fun c_16 => ?_)
                ·
                  have h_17 : Rg 5 5 _ := rg_eq1 hx2 rc_5 c_16 (by decide)
                  exact s_X9_lookJump_119 hx1 (rg_w h_17 (by decide)) h_13 h_y207 h30_x1 h31_x1 p__ (e_y207.trans (h.p 30 _ rfl)) hfz h_D209
                ·
                  exact s_X9_lookJump_123 hx1 hx2 (rg_w h_13 (by decide)) h_y207 h30_x1 h31_x1 p__ (e_y207.trans (h.p 30 _ rfl)) hfz h_D209
          ·
            exact s_X9_lookJump_123 hx1 hx2 hx3 h_y207 h30_x1 h31_x1 p__ (e_y207.trans (h.p 30 _ rfl)) hfz h_D209
        ·
          have h_18 : Rg 1 1 _ := rg_ne1 hxs0 rc_0 c_7 (by decide)
          exact s_X9_lookJump_123 hx1 hx2 hx3 h_y207 h30_x1 h31_x1 p__ (e_y207.trans (h.p 30 _ rfl)) hfz h_D209
      ·
        exact s_X9_lookJump_123 hx1 hx2 hx3 h_y207 h30_x1 h31_x1 p__ (e_y207.trans (h.p 30 _ rfl)) hfz h_D209
set_option maxRecDepth 100000 in
theorem s_X9_lookJump_27 {g : gh} {S : sh}  {x1 : Int32} {x2 : Int32} {xs0 : Int32} {D : dt} (hx1 : Rg 0 199 x1) (hx2 : Rg 0 15 x2) (hxs0 : Rg 0 1 xs0) (h30_x1 : Rg 0 10 (g.2 30 x1.toNatClampNeg)) (h31_x1 : Rg 0 10 (g.2 31 x1.toNatClampNeg)) (hfz : g.1 12 = 0) (h : Inv g S D) : wp (f_X9_lookJump_27 S 28 x1 x2 xs0 D) (fun q => Rg 0 6 q.1 ∧ Inv g S q.2) := by
  unfold f_X9_lookJump_27
  refine wp_rq (iR_28_1 h) ?_
  refine wp_ix (in_rg hx1 (iA_29 h) (by decide)) ?_
  refine wp_if (fun c_1 => ?_) (fun c_1 => ?_)
  ·
    have h_2 : Rg 0 0 _ := rg_eq1 (rg_top _) rc_0 c_1 (by decide)
    exact s_X9_lookJump_45 hx1 hx2 hxs0 (rg_w rc_0 (by decide)) h30_x1 h31_x1 hfz h
  ·
    exact s_X9_lookJump_45 hx1 hx2 hxs0 (rg_w rc_1 (by decide)) h30_x1 h31_x1 hfz h
set_option maxRecDepth 100000 in
theorem s_X9_lookJump {g : gh} {S : sh}  {x1 : Int32} {D : dt} (hx1 : Rg 0 199 x1) (h30_x1 : Rg 0 10 (g.2 30 x1.toNatClampNeg)) (h31_x1 : Rg 0 10 (g.2 31 x1.toNatClampNeg)) (hfz : g.1 12 = 0) (h : Inv g S D) : wp (f_X9_lookJump S 28 x1 D) (fun q => Rg 0 6 q.1 ∧ Inv g S q.2) := by
  unfold f_X9_lookJump
  refine wp_rq (iR_28_1 h) ?_
  refine wp_ix (in_rg hx1 (iA_29 h) (by decide)) ?_
  refine wp_nmI (fun y244 e_y244 => ?_)
  have h_y244 : Rg 0 15 y244 := rg_eq e_y244 (rg_shr (iI_29 h _) (by decide) : Rg 0 15 _)
  refine wp_rq (iR_28_1 h) ?_
  refine wp_ix (in_rg hx1 (iA_29 h) (by decide)) ?_
  refine wp_if (fun c_1 => ?_) (fun c_1 => ?_)
  ·
    have h_2 : Rg 5 5 _ := rg_eq1 (rg_andr _ (by decide) : Rg 0 7 _) rc_5 c_1 (by decide)
    exact s_X9_lookJump_27 hx1 h_y244 (rg_w rc_1 (by decide)) h30_x1 h31_x1 hfz h
  ·
    exact s_X9_lookJump_27 hx1 h_y244 (rg_w rc_0 (by decide)) h30_x1 h31_x1 hfz h
theorem s_X9_access {g : gh} {S : sh} {D : dt} {x1 x2 x3 x4 : Int32} (hx1 : Rg 0 10 x1) (hx2 : Rg (-32768) 32767 x2) (hx3 : Rg 0 32 x3) (hx4 : Rg 0 1 x4) (h : Inv g S D) : wp (f_X9_access S D 28 x1 x2 x3 x4) (fun q => Rg 0 4 q ∧ (q.toInt ≤ 0 → gI D 60 x1.toNatClampNeg = 3 → InM D x1.toNatClampNeg x2.toInt x3.toInt)) := by
  unfold f_X9_access
  have i : ∀ {o : Nat}, sA S o = 150 → vp_in x1 (sA S o) := fun e => in_rg hx1 e (by decide)
  have a4 : ∀ {k : Option Int32}, k = some 4 → wp k (fun q => Rg 0 4 q ∧ (q.toInt ≤ 0 → gI D 60 x1.toNatClampNeg = 3 → InM D x1.toNatClampNeg x2.toInt x3.toInt)) := fun e => ⟨4, e, by decide, fun n => absurd n (by decide)⟩
  have a3 : ∀ {k : Option Int32}, k = some 3 → wp k (fun q => Rg 0 4 q ∧ (q.toInt ≤ 0 → gI D 60 x1.toNatClampNeg = 3 → InM D x1.toNatClampNeg x2.toInt x3.toInt)) := fun e => ⟨3, e, by decide, fun n => absurd n (by decide)⟩
  have a0 : ∀ {k : Option Int32}, (gI D 60 x1.toNatClampNeg = 3 → InM D x1.toNatClampNeg x2.toInt x3.toInt) → k = some 0 → wp k (fun q => Rg 0 4 q ∧ (q.toInt ≤ 0 → gI D 60 x1.toNatClampNeg = 3 → InM D x1.toNatClampNeg x2.toInt x3.toInt)) := fun w e => ⟨0, e, by decide, fun _ => w⟩
  refine wp_rq (iR_28_41 h) (wp_ix (i (iA_61 h)) (wp_nmI (fun y44 e44 => ?_)))
  refine wp_rq (iR_28_42 h) (wp_ix (i (iA_62 h)) (wp_nmI (fun y50 e50 => ?_)))
  refine wp_rq (iR_28_40 h) (wp_ix (i (iA_60 h)) ?_)
  refine wp_if (fun c2 => ?_) (fun _ => wp_if (fun c3 => ?_) (fun c3 => wp_if (fun _ => a3 rfl) (fun _ => wp_if (fun c5 => ?_) (fun _ => a3 rfl))))
  · have w : gI D 60 x1.toNatClampNeg = 3 → InM D x1.toNatClampNeg x2.toInt x3.toInt := fun e => absurd (c2.symm.trans e) (by decide)
    exact wp_if (fun _ => wp_if (fun _ => a4 rfl) (fun _ => wp_if (fun _ => a4 rfl) (fun _ => a0 w rfl))) (fun _ => a4 rfl)
  · refine wp_if (fun _ => a4 rfl) (fun c => wp_if (fun _ => a4 rfl) (fun d => a0 (fun _ => ?_) rfl))
    have l : RgL (-1048576) 1048576 (gL D 61 x1.toNatClampNeg) := h.k.1 _ c3
    obtain ⟨l1, l2⟩ := l
    obtain ⟨o1, o2⟩ := hx2
    obtain ⟨n1, n2⟩ := hx3
    have l5 : (-512 : Int64).toInt = -512 := rfl
    have l0 : (0 : Int64).toInt = 0 := rfl
    have e1 : y44.toInt = (gL D 61 x1.toNatClampNeg).toInt + x2.toInt := by rw [e44, Int64.toInt_add, Int32.toInt_toInt64, bm64 (by omega) (by omega)]
    have e2 : (y44 + x3.toInt64).toInt = y44.toInt + x3.toInt := by rw [Int64.toInt_add, Int32.toInt_toInt64, bm64 (by omega) (by omega)]
    have c := Int64.le_iff_toInt_le.mp (nlt64 (fun q => c ((lg_cmp_lt _ _).mpr q)))
    have d := Int64.le_iff_toInt_le.mp (nlt64 (fun q => d ((lg_cmp_gt _ _).mpr q)))
    exact ⟨by omega, by omega⟩
  · have w : gI D 60 x1.toNatClampNeg = 3 → InM D x1.toNatClampNeg x2.toInt x3.toInt := fun e => absurd (c5.symm.trans e) (by decide)
    exact wp_if (fun _ => a4 rfl) (fun _ => wp_rq (iR_28_12 h) (wp_rq (iR_28_43 h) (wp_ix (i (iA_63 h)) (wp_ix (in_rg (iI_63 h _) (iA_38 h) (by decide)) (wp_if (fun _ => a4 rfl) (fun _ => a0 w rfl))))))
set_option maxRecDepth 100000 in
theorem s_X9_areKnown_32 {g : gh} {S : sh} {D : dt} {k5 : Nat → Int32 → Int32 → Int32 → Int32 → Option Int32} {n5 : Nat} (hk5 : ∀ (x1 : Int32) (x2 : Int32) (x3 : Int32) (x4 : Int32), Rg 0 512 x1 → Rg 0 32 x2 → Rg 0 1 x3 → Rg 0 544 x4 → 544 - x4.toInt < (n5 : Int) → wp (k5 28 x1 x2 x3 x4) (fun q => Rg 0 1 q)) {x1 : Int32} {x2 : Int32} {x4 : Int32} {xs0 : Int32} (hx1 : Rg 0 512 x1) (hx2 : Rg 0 32 x2) (hx4 : Rg 0 543 x4) (hxs0 : Rg 0 1 xs0) (hm5 : 544 - x4.toInt < ((n5 + 1 : Nat) : Int)) (h : Inv g S D) : wp (f_X9_areKnown_32 S D k5 28 x1 x2 x4 xs0) (fun q => Rg 0 1 q) := by
  unfold f_X9_areKnown_32
  refine wp_nmI (fun y12 e_y12 => ?_)
  have h_y12 : Rg 1 544 y12 := rg_eq e_y12 (rg_add hx4 rc_1 (by decide) : Rg 1 544 _)
  exact hk5 _ _ _ _ hx1 hx2 hxs0 (rg_w h_y12 (by decide)) (by rw [e_y12]; exact ms_up hx4 (by decide) hm5)
set_option maxRecDepth 100000 in
theorem s_X9_areKnown_31 {g : gh} {S : sh} {D : dt} {k5 : Nat → Int32 → Int32 → Int32 → Int32 → Option Int32} {n5 : Nat} (hk5 : ∀ (x1 : Int32) (x2 : Int32) (x3 : Int32) (x4 : Int32), Rg 0 512 x1 → Rg 0 32 x2 → Rg 0 1 x3 → Rg 0 544 x4 → 544 - x4.toInt < (n5 : Int) → wp (k5 28 x1 x2 x3 x4) (fun q => Rg 0 1 q)) {x1 : Int32} {x2 : Int32} {x4 : Int32} (hx1 : Rg 0 512 x1) (hx2 : Rg 0 32 x2) (hx4 : Rg 0 543 x4) (hm5 : 544 - x4.toInt < ((n5 + 1 : Nat) : Int)) (h : Inv g S D) : wp (f_X9_areKnown_31 S D k5 28 x1 x2 x4) (fun q => Rg 0 1 q) := by
  unfold f_X9_areKnown_31
  exact s_X9_areKnown_32 hk5 hx1 hx2 hx4 (rg_w rc_0 (by decide)) hm5 h
set_option maxRecDepth 100000 in
theorem s_X9_areKnown_5 {g : gh} {S : sh} {D : dt}  (h : Inv g S D) : ∀ (n : Nat) (x1 : Int32) (x2 : Int32) (x3 : Int32) (x4 : Int32), Rg 0 512 x1 → Rg 0 32 x2 → Rg 0 1 x3 → Rg 0 544 x4 → 544 - x4.toInt < (n : Int) → wp (f_X9_areKnown_5 S D n 28 x1 x2 x3 x4) (fun q => Rg 0 1 q) := by
  intro n
  induction n with
  | zero =>
    intro x1 x2 x3 x4 hx1 hx2 hx3 hx4 hm
    exact (ms_0 hx4 (by decide) hm).elim
  | succ n ih =>
    intro x1 x2 x3 x4 hx1 hx2 hx3 hx4 hm
    rw [f_X9_areKnown_5.eq_2]
    refine wp_if (fun c_1 => ?_) (fun c_1 => ?_)
    ·
      refine wp_ck (rg_01 hx3 (by decide)) ?_
      exact ⟨_, rfl, hx3⟩
    ·
      have h_2 : Rg 0 543 _ := rg_lt1 hx4 (rg_add hx1 hx2 (by decide) : Rg 0 544 _) (nle32 c_1) (by decide)
      have h_3 : Rg 1 544 _ := rg_lt2 hx4 (rg_add hx1 hx2 (by decide) : Rg 0 544 _) (nle32 c_1) (by decide)
      refine wp_if (fun c_4 => ?_) (fun c_4 => ?_)
      ·
        have h_5 : Rg 0 0 _ := rg_eq1 hx3 rc_0 c_4 (by decide)
        exact s_X9_areKnown_31 ih hx1 hx2 h_2 hm h
      ·
        have h_6 : Rg 1 1 _ := rg_ne1 hx3 rc_0 c_4 (by decide)
        refine wp_rq (iR_28_45 h) ?_
        refine wp_ix (in_rg h_2 (iA_65 h) (by decide)) ?_
        refine wp_if (fun c_7 => ?_) (fun c_7 => ?_)
        ·
          have h_8 : Rg 0 0 _ := rg_eq1 (rg_top _) rc_0 c_7 (by decide)
          exact s_X9_areKnown_31 ih hx1 hx2 h_2 hm h
        ·
          exact s_X9_areKnown_32 ih hx1 hx2 h_2 (rg_w rc_1 (by decide)) hm h
set_option maxRecDepth 100000 in
theorem s_X9_areKnown {g : gh} {S : sh} {D : dt}  {x1 : Int32} {x2 : Int32} (hx1 : Rg 0 512 x1) (hx2 : Rg 0 32 x2) (h : Inv g S D) : wp (f_X9_areKnown S D 28 x1 x2) (fun q => Rg 0 1 q) := by
  unfold f_X9_areKnown
  refine wp_nmI (fun y22 e_y22 => ?_)
  have h_y22 : Rg 1 1 y22 := rg_eq e_y22 rc_1
  exact s_X9_areKnown_5 h LF _ _ _ _ hx1 hx2 (rg_w h_y22 (by decide)) (rg_w hx1 (by decide)) (ms_in hx1 (by decide))
set_option maxRecDepth 100000 in
theorem s_X9_reads_47 {g : gh} {S : sh} {D : dt}  {x3 : Int32} {xs0 : Int32} (hx3 : Rg 0 4 x3) (hxs0 : Rg 0 1 xs0) (h : Inv g S D) : wp (f_X9_reads_47 S D x3 xs0) (fun q => Rg 0 4 q) := by
  unfold f_X9_reads_47
  refine wp_if (fun c_1 => ?_) (fun c_1 => ?_)
  ·
    have h_2 : Rg 0 0 _ := rg_eq1 hxs0 rc_0 c_1 (by decide)
    exact ⟨_, rfl, hx3⟩
  ·
    have h_3 : Rg 1 1 _ := rg_ne1 hxs0 rc_0 c_1 (by decide)
    exact ⟨_, rfl, (rg_w rc_4 (by decide))⟩
set_option maxRecDepth 100000 in
theorem s_X9_reads_46 {g : gh} {S : sh} {D : dt}  {x3 : Int32} (hx3 : Rg 0 4 x3) (h : Inv g S D) : wp (f_X9_reads_46 S D x3) (fun q => Rg 0 4 q) := by
  unfold f_X9_reads_46
  exact s_X9_reads_47 hx3 (rg_w rc_0 (by decide)) h
set_option maxRecDepth 100000 in
theorem s_X9_reads {g : gh} {S : sh} {D : dt}  {x1 : Int32} {x2 : Int32} (hx1 : Rg 2 3 x1) (hx2 : Rg 0 32 x2) (h : Inv g S D) : wp (f_X9_reads S D 28 x1 x2) (fun q => Rg 0 4 q) := by
  unfold f_X9_reads
  refine wp_pqs (s_X9_access (rg_w hx1 (by decide)) (rg_w rc_0 (by decide)) hx2 (rg_w rc_0 (by decide)) h) (fun r21 q_r21 => ?_)
  obtain ⟨h_r21, p_r21⟩ := q_r21
  refine wp_if (fun c_1 => ?_) (fun c_1 => ?_)
  ·
    have h_2 : Rg 0 0 _ := rg_eq1 h_r21 rc_0 c_1 (by decide)
    refine wp_rq (iR_28_40 h) ?_
    refine wp_ix (in_rg hx1 (iA_60 h) (by decide)) ?_
    refine wp_if (fun c_3 => ?_) (fun c_3 => ?_)
    ·
      have h_4 : Rg 3 3 _ := rg_eq1 (rg_top _) rc_3 c_3 (by decide)
      refine wp_rq (iR_28_41 h) ?_
      refine wp_ix (in_rg hx1 (iA_61 h) (by decide)) ?_
      refine wp_pqs (s_X9_areKnown (inm_rd h c_3 (p_r21 (eq_z c_1) c_3) hx2.1) hx2 h) (fun r35 h_r35 => ?_)
      refine wp_if (fun c_5 => ?_) (fun c_5 => ?_)
      ·
        have h_6 : Rg 0 0 _ := rg_eq1 h_r35 rc_0 c_5 (by decide)
        exact s_X9_reads_47 (rg_w h_2 (by decide)) (rg_w rc_1 (by decide)) h
      ·
        have h_7 : Rg 1 1 _ := rg_ne1 h_r35 rc_0 c_5 (by decide)
        exact s_X9_reads_46 (rg_w h_2 (by decide)) h
    ·
      exact s_X9_reads_46 (rg_w h_2 (by decide)) h
  ·
    have h_8 : Rg 1 4 _ := rg_ne1 h_r21 rc_0 c_1 (by decide)
    exact s_X9_reads_46 (rg_w h_8 (by decide)) h
set_option maxRecDepth 100000 in
theorem s_X9_lookCall_229 {g : gh} {S : sh}  : ∀ (n : Nat) (x5 : Int32) (D : dt), Rg 1 6 x5 → 6 - x5.toInt < (n : Int) → Inv g S D → wp (f_X9_lookCall_229 S n 28 x5 D) (fun q => Rg 0 4 q.1 ∧ Inv g S q.2) := by
  intro n
  induction n with
  | zero =>
    intro x5 D hx5 hm h
    exact (ms_0 hx5 (by decide) hm).elim
  | succ n ih =>
    intro x5 D hx5 hm h
    rw [f_X9_lookCall_229.eq_2]
    refine wp_if (fun c_1 => ?_) (fun c_1 => ?_)
    ·
      have h_2 : Rg 6 6 _ := rg_le2 rc_6 hx5 c_1 (by decide)
      exact ⟨_, rfl, (rg_w rc_0 (by decide)), h⟩
    ·
      have h_3 : Rg 1 5 _ := rg_lt1 hx5 rc_6 (nle32 c_1) (by decide)
      refine wp_cqs (s_X9_forget (rg_w h_3 (by decide)) h) (fun _ D90 h_D90 => ?_)
      refine wp_nmI (fun y91 e_y91 => ?_)
      have h_y91 : Rg 2 6 y91 := rg_eq e_y91 (rg_add h_3 rc_1 (by decide) : Rg 2 6 _)
      exact ih _ _ (rg_w h_y91 (by decide)) (by rw [e_y91]; exact ms_up h_3 (by decide) hm) h_D90
set_option maxRecDepth 100000 in
theorem s_X9_lookCall_226 {g : gh} {S : sh}   {D : dt}  (h : Inv g S D) : wp (f_X9_lookCall_226 S 28 D) (fun q => Rg 0 4 q.1 ∧ Inv g S q.2) := by
  unfold f_X9_lookCall_226
  refine wp_nmI (fun y92 e_y92 => ?_)
  have h_y92 : Rg 1 1 y92 := rg_eq e_y92 rc_1
  exact s_X9_lookCall_229  LF _ _ (rg_w h_y92 (by decide)) (ms_in h_y92 (by decide)) h
set_option maxRecDepth 100000 in
theorem s_X9_lookCall_181 {g : gh} {S : sh}  {x1 : Int32} {x2 : Int32} {x4 : Int32} {D : dt} (hx1 : Rg 0 199 x1) (hx4 : Rg 0 3 x4) (h30_x1 : Rg 0 10 (g.2 30 x1.toNatClampNeg)) (h31_x1 : Rg 0 10 (g.2 31 x1.toNatClampNeg)) (h : Inv g S D) : wp (f_X9_lookCall_181 S 28 x1 x2 x4 D) (fun q => Rg 0 4 q.1 ∧ Inv g S q.2) := by
  unfold f_X9_lookCall_181
  refine wp_if (fun c_1 => ?_) (fun c_1 => ?_)
  ·
    have h_2 : Rg 1 1 _ := rg_eq1 (rg_top _) rc_1 c_1 (by decide)
    refine wp_cqs (s_X9_forget (rg_w rc_0 (by decide)) h) (fun _ D97 h_D97 => ?_)
    refine wp_rq (iR_28_40 h_D97) ?_
    refine wp_ix (in_rg rc_0 (iA_60 h_D97) (by decide)) ?_
    refine wp_nmI (fun D103 e_D103 => ?_)
    have h_D103 : Inv g S D103 := by rw [e_D103]; exact inv_i60 h_D97 (rg_ne3 rc_6 (by decide)) (rg_top _)
    have h_3 : Rg 6 6 (gI D103 60 (0 : Int32).toNatClampNeg) := by rw [e_D103, gI_pI, if_pos ⟨rfl, rfl⟩]; exact rc_6
    refine wp_rq (iR_28_43 h_D103) ?_
    refine wp_ix (in_rg rc_0 (iA_63 h_D103) (by decide)) ?_
    refine wp_nmI (fun D109 e_D109 => ?_)
    have h_D109 : Inv g S D109 := by rw [e_D109]; exact inv_i63 h_D103 hx4
    refine wp_rq (iR_28_44 h_D109) ?_
    refine wp_ix (in_rg rc_0 (iA_64 h_D109) (by decide)) ?_
    refine wp_nmI (fun D115 e_D115 => ?_)
    have h_D115 : Inv g S D115 := by rw [e_D115]; exact inv_i64 h_D109 (rg_top _)
    exact s_X9_lookCall_226 h_D115
  ·
    refine wp_cqs (s_X9_number (rg_w rc_0 (by decide)) h) (fun _ D95 h_D95 => ?_)
    exact s_X9_lookCall_226 h_D95
set_option maxRecDepth 100000 in
theorem s_X9_lookCall_169 {g : gh} {S : sh}  {x1 : Int32} {x2 : Int32} {x4 : Int32} {x5 : Int32} {x6 : Int32} {D : dt} (hx1 : Rg 0 199 x1) (hx2 : Rg (-2147483648) 3 x2) (hx4 : Rg 0 3 x4) (hx5 : Rg 0 4 x5) (hx6 : Rg 0 4 x6) (h30_x1 : Rg 0 10 (g.2 30 x1.toNatClampNeg)) (h31_x1 : Rg 0 10 (g.2 31 x1.toNatClampNeg)) (h : Inv g S D) : wp (f_X9_lookCall_169 S 28 x1 x2 x4 x5 x6 D) (fun q => Rg 0 4 q.1 ∧ Inv g S q.2) := by
  unfold f_X9_lookCall_169
  refine wp_if (fun c_1 => ?_) (fun c_1 => ?_)
  ·
    have h_2 : Rg 1 4 _ := rg_lt2 rc_0 hx5 c_1 (by decide)
    exact ⟨_, rfl, (rg_w rc_4 (by decide)), h⟩
  ·
    have h_3 : Rg 0 0 _ := rg_le1 hx5 rc_0 (nlt32 c_1) (by decide)
    refine wp_if (fun c_4 => ?_) (fun c_4 => ?_)
    ·
      have h_5 : Rg 0 0 _ := rg_le1 hx6 rc_0 c_4 (by decide)
      exact s_X9_lookCall_181 hx1 hx4 h30_x1 h31_x1 h
    ·
      have h_6 : Rg 1 4 _ := rg_lt2 rc_0 hx6 (nle32 c_4) (by decide)
      exact ⟨_, rfl, (rg_w rc_4 (by decide)), h⟩
set_option maxRecDepth 100000 in
theorem s_X9_lookCall_138 {g : gh} {S : sh}  {x1 : Int32} {x2 : Int32} {x4 : Int32} {x5 : Int32} {xs0 : Int32} {D : dt} (hx1 : Rg 0 199 x1) (hx2 : Rg (-2147483648) 3 x2) (hx4 : Rg 0 3 x4) (hx5 : Rg 0 4 x5) (hxs0 : Rg 0 4 xs0) (h30_x1 : Rg 0 10 (g.2 30 x1.toNatClampNeg)) (h31_x1 : Rg 0 10 (g.2 31 x1.toNatClampNeg)) (h : Inv g S D) : wp (f_X9_lookCall_138 S 28 x1 x2 x4 x5 xs0 D) (fun q => Rg 0 4 q.1 ∧ Inv g S q.2) := by
  unfold f_X9_lookCall_138
  refine wp_if (fun c_1 => ?_) (fun c_1 => ?_)
  ·
    have h_2 : Rg 3 3 _ := rg_eq1 hx5 rc_3 c_1 (by decide)
    exact ⟨_, rfl, (rg_w rc_3 (by decide)), h⟩
  ·
    refine wp_if (fun c_3 => ?_) (fun c_3 => ?_)
    ·
      have h_4 : Rg 3 3 _ := rg_eq1 hxs0 rc_3 c_3 (by decide)
      exact ⟨_, rfl, (rg_w rc_3 (by decide)), h⟩
    ·
      refine wp_if (fun c_5 => ?_) (fun c_5 => ?_)
      ·
        have h_6 : Rg 2 2 _ := rg_eq1 hx2 rc_2 c_5 (by decide)
        refine wp_rq (iR_28_40 h) ?_
        refine wp_ix (in_rg rc_4 (iA_60 h) (by decide)) ?_
        refine wp_if (fun c_7 => ?_) (fun c_7 => ?_)
        ·
          have h_8 : Rg 1 1 _ := rg_eq1 (rg_top _) rc_1 c_7 (by decide)
          exact s_X9_lookCall_169 hx1 (rg_w h_6 (by decide)) hx4 hx5 hxs0 h30_x1 h31_x1 h
        ·
          exact ⟨_, rfl, (rg_w rc_3 (by decide)), h⟩
      ·
        exact s_X9_lookCall_169 hx1 hx2 hx4 hx5 hxs0 h30_x1 h31_x1 h
set_option maxRecDepth 100000 in
theorem s_X9_lookCall_98 {g : gh} {S : sh}  {x1 : Int32} {x2 : Int32} {x4 : Int32} {D : dt} (hx1 : Rg 0 199 x1) (hx4 : Rg 0 3 x4) (h30_x1 : Rg 0 10 (g.2 30 x1.toNatClampNeg)) (h31_x1 : Rg 0 10 (g.2 31 x1.toNatClampNeg)) (h : Inv g S D) : wp (f_X9_lookCall_98 S 28 x1 x2 x4 D) (fun q => Rg 0 4 q.1 ∧ Inv g S q.2) := by
  unfold f_X9_lookCall_98
  refine wp_if (fun c_1 => ?_) (fun c_1 => ?_)
  ·
    have h_2 : Rg 4 2147483647 _ := rg_le2 rc_4 (rg_top _) c_1 (by decide)
    exact s_X9_lookCall_181 hx1 hx4 h30_x1 h31_x1 h
  ·
    have h_3 : Rg (-2147483648) 3 _ := rg_lt1 (rg_top _) rc_4 (nle32 c_1) (by decide)
    refine wp_rq (iR_28_11 h) ?_
    refine wp_ix (in_rg hx4 (iA_37 h) (by decide)) ?_
    refine wp_pqs (s_X9_reads (rg_w rc_2 (by decide)) (rg_w (iI_37 h _) (by decide)) h) (fun r134 h_r134 => ?_)
    refine wp_if (fun c_4 => ?_) (fun c_4 => ?_)
    ·
      have h_5 : Rg 2 2 _ := rg_eq1 h_3 rc_2 c_4 (by decide)
      refine wp_rq (iR_28_12 h) ?_
      refine wp_ix (in_rg hx4 (iA_38 h) (by decide)) ?_
      refine wp_pqs (s_X9_reads (rg_w rc_3 (by decide)) (iI_38 h _) h) (fun r142 h_r142 => ?_)
      exact s_X9_lookCall_138 hx1 (rg_w h_5 (by decide)) hx4 h_r134 h_r142 h30_x1 h31_x1 h
    ·
      exact s_X9_lookCall_138 hx1 h_3 hx4 h_r134 (rg_w rc_0 (by decide)) h30_x1 h31_x1 h
set_option maxRecDepth 100000 in
theorem s_X9_lookCall_81 {g : gh} {S : sh}  {x1 : Int32} {x2 : Int32} {x4 : Int32} {D : dt} (hx1 : Rg 0 199 x1) (hx4 : Rg 0 3 x4) (h30_x1 : Rg 0 10 (g.2 30 x1.toNatClampNeg)) (h31_x1 : Rg 0 10 (g.2 31 x1.toNatClampNeg)) (h : Inv g S D) : wp (f_X9_lookCall_81 S 28 x1 x2 x4 D) (fun q => Rg 0 4 q.1 ∧ Inv g S q.2) := by
  unfold f_X9_lookCall_81
  refine wp_if (fun c_1 => ?_) (fun c_1 => ?_)
  ·
    have h_2 : Rg 4 2147483647 _ := rg_le2 rc_4 (rg_top _) c_1 (by decide)
    exact s_X9_lookCall_98 hx1 hx4 h30_x1 h31_x1 h
  ·
    have h_3 : Rg (-2147483648) 3 _ := rg_lt1 (rg_top _) rc_4 (nle32 c_1) (by decide)
    refine wp_rq (iR_28_40 h) ?_
    refine wp_ix (in_rg rc_1 (iA_60 h) (by decide)) ?_
    refine wp_if (fun c_4 => ?_) (fun c_4 => ?_)
    ·
      have h_5 : Rg 4 4 _ := rg_eq1 (rg_top _) rc_4 c_4 (by decide)
      exact s_X9_lookCall_98 hx1 hx4 h30_x1 h31_x1 h
    ·
      exact ⟨_, rfl, (rg_w rc_3 (by decide)), h⟩
set_option maxRecDepth 100000 in
theorem s_X9_lookCall_33 {g : gh} {S : sh}  : ∀ (n : Nat) (x1 : Int32) (x2 : Int32) (x3 : Int32) (x4 : Int32) (D : dt), Rg 0 199 x1 → Rg 0 4 x3 → Rg 1 5 x4 → Rg 0 10 (g.2 30 x1.toNatClampNeg) → Rg 0 10 (g.2 31 x1.toNatClampNeg) → 5 - x4.toInt < (n : Int) → Inv g S D → wp (f_X9_lookCall_33 S n 28 x1 x2 x3 x4 D) (fun q => Rg 0 4 q.1 ∧ Inv g S q.2) := by
  intro n
  induction n with
  | zero =>
    intro x1 x2 x3 x4 D hx1 hx3 hx4 h30_x1 h31_x1 hm h
    exact (ms_0 hx4 (by decide) hm).elim
  | succ n ih =>
    intro x1 x2 x3 x4 D hx1 hx3 hx4 h30_x1 h31_x1 hm h
    rw [f_X9_lookCall_33.eq_2]
    refine wp_if (fun c_1 => ?_) (fun c_1 => ?_)
    ·
      refine wp_rq (iR_28_43 h) ?_
      refine wp_ix (in_rg rc_1 (iA_63 h) (by decide)) ?_
      refine wp_nmI (fun y156 e_y156 => ?_)
      have h_y156 : Rg 0 3 y156 := rg_eq e_y156 (iI_63 h _)
      refine wp_if (fun c_2 => ?_) (fun c_2 => ?_)
      ·
        have h_3 : Rg 6 6 _ := rg_eq1 (rg_top _) rc_6 c_2 (by decide)
        refine wp_rq (iR_28_40 h) ?_
        refine wp_ix (in_rg rc_1 (iA_60 h) (by decide)) ?_
        refine wp_if (fun c_4 => ?_) (fun c_4 => ?_)
        ·
          have h_5 : Rg 1 1 _ := rg_eq1 (rg_top _) rc_1 c_4 (by decide)
          exact s_X9_lookCall_81 hx1 h_y156 h30_x1 h31_x1 h
        ·
          exact ⟨_, rfl, (rg_w rc_3 (by decide)), h⟩
      ·
        exact s_X9_lookCall_81 hx1 h_y156 h30_x1 h31_x1 h
    ·
      have h_6 : Rg 1 4 _ := rg_le1 hx4 hx3 (nlt32 c_1) (by decide)
      have h_7 : Rg 1 4 _ := rg_le2 hx4 hx3 (nlt32 c_1) (by decide)
      refine wp_rq (iR_28_40 h) ?_
      refine wp_ix (in_rg h_6 (iA_60 h) (by decide)) ?_
      refine wp_if (fun c_8 => ?_) (fun c_8 => ?_)
      ·
        have h_9 : Rg 0 0 _ := rg_eq1 (rg_top _) rc_0 c_8 (by decide)
        exact ⟨_, rfl, (rg_w rc_2 (by decide)), h⟩
      ·
        refine wp_nmI (fun y170 e_y170 => ?_)
        have h_y170 : Rg 2 5 y170 := rg_eq e_y170 (rg_add h_6 rc_1 (by decide) : Rg 2 5 _)
        exact ih _ _ _ _ _ hx1 (rg_w h_7 (by decide)) (rg_w h_y170 (by decide)) h30_x1 h31_x1 (by rw [e_y170]; exact ms_up h_6 (by decide) hm) h
set_option maxRecDepth 100000 in
theorem s_X9_lookCall_29 {g : gh} {S : sh}  {x1 : Int32} {x2 : Int32} {xs0 : Int32} {D : dt} (hx1 : Rg 0 199 x1) (hxs0 : Rg 0 4 xs0) (h30_x1 : Rg 0 10 (g.2 30 x1.toNatClampNeg)) (h31_x1 : Rg 0 10 (g.2 31 x1.toNatClampNeg)) (h : Inv g S D) : wp (f_X9_lookCall_29 S 28 x1 x2 xs0 D) (fun q => Rg 0 4 q.1 ∧ Inv g S q.2) := by
  unfold f_X9_lookCall_29
  refine wp_nmI (fun y171 e_y171 => ?_)
  have h_y171 : Rg 1 1 y171 := rg_eq e_y171 rc_1
  exact s_X9_lookCall_33  LF _ _ _ _ _ hx1 hxs0 (rg_w h_y171 (by decide)) h30_x1 h31_x1 (ms_in h_y171 (by decide)) h
set_option maxRecDepth 100000 in
theorem s_X9_lookCall {g : gh} {S : sh}  {x1 : Int32} {x2 : Int32} {D : dt} (hx1 : Rg 0 199 x1) (h30_x1 : Rg 0 10 (g.2 30 x1.toNatClampNeg)) (h31_x1 : Rg 0 10 (g.2 31 x1.toNatClampNeg)) (h : Inv g S D) : wp (f_X9_lookCall S 28 x1 x2 D) (fun q => Rg 0 4 q.1 ∧ Inv g S q.2) := by
  unfold f_X9_lookCall
  refine wp_if (fun c_1 => ?_) (fun c_1 => ?_)
  ·
    have h_2 : Rg 2 2 _ := rg_eq1 (rg_top _) rc_2 c_1 (by decide)
    exact s_X9_lookCall_29 hx1 (rg_w rc_4 (by decide)) h30_x1 h31_x1 h
  ·
    refine wp_if (fun c_3 => ?_) (fun c_3 => ?_)
    ·
      have h_4 : Rg 5 5 _ := rg_eq1 (rg_top _) rc_5 c_3 (by decide)
      exact s_X9_lookCall_29 hx1 (rg_w rc_0 (by decide)) h30_x1 h31_x1 h
    ·
      refine wp_if (fun c_5 => ?_) (fun c_5 => ?_)
      ·
        have h_6 : Rg 6 6 _ := rg_eq1 (rg_top _) rc_6 c_5 (by decide)
        exact s_X9_lookCall_29 hx1 (rg_w rc_1 (by decide)) h30_x1 h31_x1 h
      ·
        exact s_X9_lookCall_29 hx1 (rg_w rc_2 (by decide)) h30_x1 h31_x1 h
set_option maxRecDepth 100000 in
theorem s_X9_mostOf  {x0 : Int32} (hx0 : Rg 1 8 x0) : wp (f_X9_mostOf x0) (fun q => True) := by
  unfold f_X9_mostOf
  refine wp_if (fun c_1 => ?_) (fun c_1 => ?_)
  ·
    have h_2 : Rg 8 8 _ := rg_eq1 hx0 rc_8 c_1 (by decide)
    exact ⟨_, rfl, trivial⟩
  ·
    have h_3 : Rg 1 7 _ := rg_ne1 hx0 rc_8 c_1 (by decide)
    exact ⟨_, rfl, trivial⟩
set_option maxRecDepth 100000 in
theorem s_X9_lookLoad_164 {g : gh} {S : sh}  {xs1 : Int32} {xs2 : Int64} {xs3 : Int64} {D : dt} (hxs1 : Rg 0 10 xs1) (hxs2 : RgL 0 0 xs2) (h : Inv g S D) : wp (f_X9_lookLoad_164 S 28 xs1 xs2 xs3 D) (fun q => Rg 0 4 q.1 ∧ Inv g S q.2) := by
  unfold f_X9_lookLoad_164
  refine wp_cqs (s_X9_number (rg_w hxs1 (by decide)) h) (fun _ D70 h_D70 => ?_)
  exact ⟨_, rfl, (rg_w rc_0 (by decide)), h_D70⟩
set_option maxRecDepth 100000 in
theorem s_X9_lookLoad_141 {g : gh} {S : sh}  {x1 : Int32} {x2 : Int32} {x4 : Int32} {D : dt} (hx1 : Rg 0 199 x1) (hx2 : Rg 0 1 x2) (hx4 : Rg 1 8 x4) (h30_x1 : Rg 0 10 (g.2 30 x1.toNatClampNeg)) (h31_x1 : Rg 0 10 (g.2 31 x1.toNatClampNeg)) (h : Inv g S D) : wp (f_X9_lookLoad_141 S 28 x1 x2 x4 D) (fun q => Rg 0 4 q.1 ∧ Inv g S q.2) := by
  unfold f_X9_lookLoad_141
  refine wp_rq (iR_28_2 h) ?_
  refine wp_ix (in_rg hx1 (iA_30 h) (by decide)) ?_
  refine wp_if (fun c_1 => ?_) (fun c_1 => ?_)
  ·
    have h_2 : Rg 0 0 _ := rg_eq1 hx2 rc_0 c_1 (by decide)
    refine wp_pqs (s_X9_mostOf hx4) (fun r78 _ => ?_)
    exact s_X9_lookLoad_164 (rg_eq (h.p 30 _ rfl) h30_x1) rcl_0 h
  ·
    have h_3 : Rg 1 1 _ := rg_ne1 hx2 rc_0 c_1 (by decide)
    exact s_X9_lookLoad_164 (rg_eq (h.p 30 _ rfl) h30_x1) rcl_0 h
set_option maxRecDepth 100000 in
theorem s_X9_lookLoad_128 {g : gh} {S : sh}  {x1 : Int32} {x2 : Int32} {x4 : Int32} {x6 : Int32} {D : dt} (hx1 : Rg 0 199 x1) (hx2 : Rg 0 1 x2) (hx4 : Rg 1 8 x4) (hx6 : Rg 0 511 x6) (h30_x1 : Rg 0 10 (g.2 30 x1.toNatClampNeg)) (h31_x1 : Rg 0 10 (g.2 31 x1.toNatClampNeg)) (h : Inv g S D) : wp (f_X9_lookLoad_128 S 28 x1 x2 x4 x6 D) (fun q => Rg 0 4 q.1 ∧ Inv g S q.2) := by
  unfold f_X9_lookLoad_128
  refine wp_pqs (s_X9_areKnown (rg_w hx6 (by decide)) (rg_w hx4 (by decide)) h) (fun r80 h_r80 => ?_)
  refine wp_if (fun c_1 => ?_) (fun c_1 => ?_)
  ·
    have h_2 : Rg 0 0 _ := rg_eq1 h_r80 rc_0 c_1 (by decide)
    exact ⟨_, rfl, (rg_w rc_4 (by decide)), h⟩
  ·
    have h_3 : Rg 1 1 _ := rg_ne1 h_r80 rc_0 c_1 (by decide)
    exact s_X9_lookLoad_141 hx1 hx2 hx4 h30_x1 h31_x1 h
set_option maxRecDepth 100000 in
theorem s_X9_lookLoad {g : gh} {S : sh}  {x1 : Int32} {x2 : Int32} {D : dt} (hx1 : Rg 0 199 x1) (hx2 : Rg 0 1 x2) (h30_x1 : Rg 0 10 (g.2 30 x1.toNatClampNeg)) (h31_x1 : Rg 0 10 (g.2 31 x1.toNatClampNeg)) (hfz : g.1 12 = 0) (h : Inv g S D) : wp (f_X9_lookLoad S 28 x1 x2 D) (fun q => Rg 0 4 q.1 ∧ Inv g S q.2) := by
  unfold f_X9_lookLoad
  refine wp_rq (iR_28_3 h) ?_
  refine wp_ix (in_rg hx1 (iA_31 h) (by decide)) ?_
  refine wp_nmI (fun y87 e_y87 => ?_)
  have h_y87 : Rg 0 10 y87 := rg_eq e_y87 (rg_eq (h.p 31 _ rfl) h31_x1)
  refine wp_pqs (s_X9_widthOf hx1 h) (fun r89 h_r89 => ?_)
  refine wp_rq (iR_28_40 h) ?_
  refine wp_ix (in_rg h_y87 (iA_60 h) (by decide)) ?_
  refine wp_if (fun c_1 => ?_) (fun c_1 => ?_)
  ·
    have h_2 : Rg 0 0 _ := rg_eq1 (rg_top _) rc_0 c_1 (by decide)
    exact ⟨_, rfl, (rg_w rc_2 (by decide)), h⟩
  ·
    refine wp_rq (iR_28_4 h) ?_
    refine wp_ix (in_rg hx1 (iA_32 h) (by decide)) ?_
    refine wp_pqs (s_X9_access h_y87 (iI_32 h _) (rg_w h_r89 (by decide)) (rg_w rc_0 (by decide)) h) (fun r102 q_r102 => ?_)
    obtain ⟨h_r102, p_r102⟩ := q_r102
    refine wp_if (fun c_3 => ?_) (fun c_3 => ?_)
    ·
      have h_4 : Rg 0 0 _ := rg_le1 h_r102 rc_0 c_3 (by decide)
      refine wp_rq (iR_28_40 h) ?_
      refine wp_ix (in_rg h_y87 (iA_60 h) (by decide)) ?_
      refine wp_if (fun c_5 => ?_) (fun c_5 => ?_)
      ·
        have h_6 : Rg 3 3 _ := rg_eq1 (rg_top _) rc_3 c_5 (by decide)
        refine wp_rq (iR_28_41 h) ?_
        refine wp_ix (in_rg h_y87 (iA_61 h) (by decide)) ?_
        refine wp_rq (iR_28_4 h) ?_
        refine wp_ix (in_rg hx1 (iA_32 h) (by decide)) ?_
        refine wp_nmI (fun y120 e_y120 => ?_)
        have h_y120 : Rg 0 511 y120 := rg_eq e_y120 (inm_rg h c_5 (p_r102 (le_z c_3) c_5) (iI_32 h _) (Int.le_trans (by decide) h_r89.1))
        refine wp_nmI (fun y121 e_y121 => ?_)
        have h_y121 : Rg 11 74 y121 := rg_eq e_y121 (rg_add rc_11 (rg_div h_y120 (by decide) : Rg 0 63 _) (by decide) : Rg 11 74 _)
        refine wp_if (fun c_7 => ?_) (fun c_7 => ?_)
        ·
          have h_8 : Rg 8 8 _ := rg_eq1 h_r89 rc_8 c_7 (by decide)
          refine wp_if (fun c_9 => ?_) (fun c_9 => ?_)
          ·
            have h_10 : Rg 0 0 _ := rg_eq1 (rg_sub h_y120 (rg_mul (rg_div h_y120 (by decide) : Rg 0 63 _) rc_8 (by decide) : Rg 0 504 _) (by decide) : Rg (-504) 511 _) rc_0 c_9 (by decide)
            refine wp_rq (iR_28_40 h) ?_
            refine wp_ix (in_rg h_y121 (iA_60 h) (by decide)) ?_
            refine wp_if (fun c_11 => ?_) (fun c_11 => ?_)
            ·
              have h_12 : Rg 0 0 _ := rg_eq1 (rg_top _) rc_0 c_11 (by decide)
              exact s_X9_lookLoad_128 hx1 hx2 (rg_w h_8 (by decide)) h_y120 h30_x1 h31_x1 h
            ·
              refine wp_rq (iR_28_2 h) ?_
              refine wp_ix (in_rg hx1 (iA_30 h) (by decide)) ?_
              refine wp_cqs (s_X9_same (rg_w h_y121 (by decide)) (rg_w (rg_eq (h.p 30 _ rfl) h30_x1) (by decide)) hfz h) (fun _ D136 h_D136 => ?_)
              exact ⟨_, rfl, (rg_w rc_0 (by decide)), h_D136⟩
          ·
            exact s_X9_lookLoad_128 hx1 hx2 (rg_w h_8 (by decide)) h_y120 h30_x1 h31_x1 h
        ·
          have h_13 : Rg 1 7 _ := rg_ne1 h_r89 rc_8 c_7 (by decide)
          exact s_X9_lookLoad_128 hx1 hx2 (rg_w h_13 (by decide)) h_y120 h30_x1 h31_x1 h
      ·
        exact s_X9_lookLoad_141 hx1 hx2 h_r89 h30_x1 h31_x1 h
    ·
      have h_14 : Rg 1 4 _ := rg_lt2 rc_0 h_r102 (nle32 c_3) (by decide)
      exact ⟨_, rfl, (rg_w h_14 (by decide)), h⟩
set_option maxRecDepth 100000 in
theorem s_X9_put__2 {g : gh} {S : sh}  : ∀ (n : Nat) (x1 : Int32) (x2 : Int32) (x3 : Int32) (D : dt), Rg 0 511 x1 → Rg 1 8 x2 → Rg 0 519 x3 → 519 - x3.toInt < (n : Int) → Inv g S D → wp (f_X9_put__2 S n 28 x1 x2 x3 D) (fun q => Inv g S q.2) := by
  intro n
  induction n with
  | zero =>
    intro x1 x2 x3 D hx1 hx2 hx3 hm h
    exact (ms_0 hx3 (by decide) hm).elim
  | succ n ih =>
    intro x1 x2 x3 D hx1 hx2 hx3 hm h
    rw [f_X9_put__2.eq_2]
    refine wp_if (fun c_1 => ?_) (fun c_1 => ?_)
    ·
      have h_2 : Rg 1 519 _ := rg_le2 (rg_add hx1 hx2 (by decide) : Rg 1 519 _) hx3 c_1 (by decide)
      exact ⟨_, rfl, h⟩
    ·
      have h_3 : Rg 0 518 _ := rg_lt1 hx3 (rg_add hx1 hx2 (by decide) : Rg 1 519 _) (nle32 c_1) (by decide)
      refine wp_cqs (s_X9_forget (rg_w (rg_add rc_11 (rg_div h_3 (by decide) : Rg 0 64 _) (by decide) : Rg 11 75 _) (by decide)) h) (fun _ D13 h_D13 => ?_)
      refine wp_rq (iR_28_45 h_D13) ?_
      refine wp_ix (in_rg h_3 (iA_65 h_D13) (by decide)) ?_
      refine wp_nmI (fun D19 e_D19 => ?_)
      have h_D19 : Inv g S D19 := by rw [e_D19]; exact inv_i65 h_D13 (rg_top _)
      refine wp_nmI (fun y20 e_y20 => ?_)
      have h_y20 : Rg 1 519 y20 := rg_eq e_y20 (rg_add h_3 rc_1 (by decide) : Rg 1 519 _)
      exact ih _ _ _ _ hx1 hx2 (rg_w h_y20 (by decide)) (by rw [e_y20]; exact ms_up h_3 (by decide) hm) h_D19
set_option maxRecDepth 100000 in
theorem s_X9_put_ {g : gh} {S : sh}  {x1 : Int32} {x2 : Int32} {D : dt} (hx1 : Rg 0 511 x1) (hx2 : Rg 1 8 x2) (h : Inv g S D) : wp (f_X9_put_ S 28 x1 x2 D) (fun q => Inv g S q.2) := by
  unfold f_X9_put_
  exact s_X9_put__2  LF _ _ _ _ hx1 hx2 (rg_w hx1 (by decide)) (ms_in hx1 (by decide)) h
set_option maxRecDepth 100000 in
theorem s_X9_lookPut_195 {g : gh} {S : sh} {k164 : Nat → Int32 → Int32 → Int32 → dt → Option (Int32 × dt)} {n164 : Nat} (hk164 : ∀ (x3 : Int32) (x10 : Int32) (x11 : Int32) (D : dt), Rg 0 10 x3 → Rg 0 511 x10 → Rg 0 519 x11 → 519 - x11.toInt < (n164 : Int) → Inv g S D → wp (k164 28 x3 x10 x11 D) (fun q => Rg 0 4 q.1 ∧ Inv g S q.2)) {x3 : Int32} {x10 : Int32} {x11 : Int32} {xs1 : Int32} {xs2 : Int32} {D : dt} (hx3 : Rg 0 10 x3) (hx10 : Rg 0 511 x10) (hx11 : Rg 0 518 x11) (hxs1 : Rg 0 518 xs1) (hxs2 : Rg 0 1 xs2) (hm164 : 519 - x11.toInt < ((n164 + 1 : Nat) : Int)) (h : Inv g S D) : wp (f_X9_lookPut_195 S k164 28 x3 x10 x11 65 xs1 xs2 D) (fun q => Rg 0 4 q.1 ∧ Inv g S q.2) := by
  unfold f_X9_lookPut_195
  refine wp_ix (in_rg hxs1 (iA_65 h) (by decide)) ?_
  refine wp_nmI (fun D66 e_D66 => ?_)
  have h_D66 : Inv g S D66 := by rw [e_D66]; exact inv_i65 h (rg_top _)
  refine wp_nmI (fun y67 e_y67 => ?_)
  have h_y67 : Rg 1 519 y67 := rg_eq e_y67 (rg_add hx11 rc_1 (by decide) : Rg 1 519 _)
  exact hk164 _ _ _ _ hx3 hx10 (rg_w h_y67 (by decide)) (by rw [e_y67]; exact ms_up hx11 (by decide) hm164) h_D66
set_option maxRecDepth 100000 in
theorem s_X9_lookPut_164 {g : gh} {S : sh}  : ∀ (n : Nat) (x3 : Int32) (x10 : Int32) (x11 : Int32) (D : dt), Rg 0 10 x3 → Rg 0 511 x10 → Rg 0 519 x11 → 519 - x11.toInt < (n : Int) → Inv g S D → wp (f_X9_lookPut_164 S n 28 x3 x10 x11 D) (fun q => Rg 0 4 q.1 ∧ Inv g S q.2) := by
  intro n
  induction n with
  | zero =>
    intro x3 x10 x11 D hx3 hx10 hx11 hm h
    exact (ms_0 hx11 (by decide) hm).elim
  | succ n ih =>
    intro x3 x10 x11 D hx3 hx10 hx11 hm h
    rw [f_X9_lookPut_164.eq_2]
    refine wp_if (fun c_1 => ?_) (fun c_1 => ?_)
    ·
      have h_2 : Rg 8 519 _ := rg_le2 (rg_add hx10 rc_8 (by decide) : Rg 8 519 _) hx11 c_1 (by decide)
      exact ⟨_, rfl, (rg_w rc_0 (by decide)), h⟩
    ·
      have h_3 : Rg 0 518 _ := rg_lt1 hx11 (rg_add hx10 rc_8 (by decide) : Rg 8 519 _) (nle32 c_1) (by decide)
      refine wp_rq (iR_28_45 h) ?_
      refine wp_rq (iR_28_40 h) ?_
      refine wp_ix (in_rg hx3 (iA_60 h) (by decide)) ?_
      refine wp_if (fun c_4 => ?_) (fun c_4 => ?_)
      ·
        have h_5 : Rg 1 1 _ := rg_eq1 (rg_top _) rc_1 c_4 (by decide)
        exact s_X9_lookPut_195 ih hx3 hx10 h_3 h_3 (rg_w rc_1 (by decide)) hm h
      ·
        exact s_X9_lookPut_195 ih hx3 hx10 h_3 h_3 (rg_w rc_0 (by decide)) hm h
set_option maxRecDepth 100000 in
theorem s_X9_lookPut_101 {g : gh} {S : sh}  {x1 : Int32} {x2 : Int32} {x3 : Int32} {x4 : Int32} {x5 : Int32} {x6 : Int64} {x8 : Int32} {D : dt} (hx1 : Rg 0 199 x1) (hx2 : Rg 1 8 x2) (hx3 : Rg (-1) 10 x3) (hx4 : Rg 0 10 x4) (hx5 : Rg 0 1 x5) (hx8 : Rg 0 1 x8) (h30_x1 : Rg 0 10 (g.2 30 x1.toNatClampNeg)) (h31_x1 : Rg 0 10 (g.2 31 x1.toNatClampNeg)) (hk : (x5 ≠ 0 → gI D 60 x4.toNatClampNeg = 3)) (hv : x6 = gL D 61 x4.toNatClampNeg + (gI D 32 x1.toNatClampNeg).toInt64 + 512) (h8 : (x8 ≠ 0 → 0 ≤ x3.toInt)) (hfz : g.1 12 = 0) (h : Inv g S D) : wp (f_X9_lookPut_101 S 28 x1 x2 x3 x4 x5 x6 x8 D) (fun q => Rg 0 4 q.1 ∧ Inv g S q.2) := by
  unfold f_X9_lookPut_101
  refine wp_rq (iR_28_4 h) ?_
  refine wp_ix (in_rg hx1 (iA_32 h) (by decide)) ?_
  refine wp_pqs (s_X9_access hx4 (iI_32 h _) (rg_w hx2 (by decide)) (rg_w rc_1 (by decide)) h) (fun r85 q_r85 => ?_)
  obtain ⟨h_r85, p_r85⟩ := q_r85
  refine wp_if (fun c_1 => ?_) (fun c_1 => ?_)
  ·
    have h_2 : Rg 1 4 _ := rg_lt2 rc_0 h_r85 c_1 (by decide)
    exact ⟨_, rfl, (rg_w h_2 (by decide)), h⟩
  ·
    have h_3 : Rg 0 0 _ := rg_le1 h_r85 rc_0 (nlt32 c_1) (by decide)
    refine wp_if (fun c_4 => ?_) (fun c_4 => ?_)
    ·
      have h_5 : Rg 0 0 _ := rg_eq1 hx5 rc_0 c_4 (by decide)
      exact ⟨_, rfl, (rg_w h_3 (by decide)), h⟩
    ·
      have h_6 : Rg 1 1 _ := rg_ne1 hx5 rc_0 c_4 (by decide)
      refine wp_nmI (fun y88 e_y88 => ?_)
      have h_y88 : Rg 0 511 y88 := rg_eq e_y88 (inm_x6 h hv (hk c_4) (p_r85 (le_z (nlt32 c_1)) (hk c_4)) (iI_32 h _) hx2.1)
      refine wp_cqs (s_X9_put_ h_y88 hx2 h) (fun _ D90 h_D90 => ?_)
      refine wp_if (fun c_7 => ?_) (fun c_7 => ?_)
      ·
        have h_8 : Rg 0 0 _ := rg_eq1 hx8 rc_0 c_7 (by decide)
        exact ⟨_, rfl, (rg_w rc_0 (by decide)), h_D90⟩
      ·
        have h_9 : Rg 1 1 _ := rg_ne1 hx8 rc_0 c_7 (by decide)
        refine wp_cqs (s_X9_same ⟨h8 c_7, Int.le_trans hx3.2 (by decide)⟩ (rg_w (rg_add rc_11 (rg_div h_y88 (by decide) : Rg 0 63 _) (by decide) : Rg 11 74 _) (by decide)) hfz h_D90) (fun _ D93 h_D93 => ?_)
        exact s_X9_lookPut_164  LF _ _ _ _ ⟨h8 c_7, hx3.2⟩ h_y88 (rg_w h_y88 (by decide)) (ms_in h_y88 (by decide)) h_D93
set_option maxRecDepth 100000 in
theorem s_X9_lookPut_78 {g : gh} {S : sh}  {x1 : Int32} {x2 : Int32} {x3 : Int32} {x4 : Int32} {x5 : Int32} {x6 : Int64} {xs0 : Int32} {D : dt} (hx1 : Rg 0 199 x1) (hx2 : Rg 1 8 x2) (hx3 : Rg (-1) 10 x3) (hx4 : Rg 0 10 x4) (hx5 : Rg 0 1 x5) (hxs0 : Rg 0 1 xs0) (h30_x1 : Rg 0 10 (g.2 30 x1.toNatClampNeg)) (h31_x1 : Rg 0 10 (g.2 31 x1.toNatClampNeg)) (hk : (x5 ≠ 0 → gI D 60 x4.toNatClampNeg = 3)) (hv : x6 = gL D 61 x4.toNatClampNeg + (gI D 32 x1.toNatClampNeg).toInt64 + 512) (h8 : (xs0 ≠ 0 → 0 ≤ x3.toInt)) (hfz : g.1 12 = 0) (h : Inv g S D) : wp (f_X9_lookPut_78 S 28 x1 x2 x3 x4 x5 x6 xs0 D) (fun q => Rg 0 4 q.1 ∧ Inv g S q.2) := by
  unfold f_X9_lookPut_78
  refine wp_if (fun c_1 => ?_) (fun c_1 => ?_)
  ·
    have h_2 : Rg (-1) (-1) _ := rg_lt1 hx3 rc_0 c_1 (by decide)
    exact s_X9_lookPut_101 hx1 hx2 (rg_w h_2 (by decide)) hx4 hx5 hxs0 h30_x1 h31_x1 hk hv h8 hfz h
  ·
    have h_3 : Rg 0 10 _ := rg_le2 rc_0 hx3 (nlt32 c_1) (by decide)
    refine wp_rq (iR_28_40 h) ?_
    refine wp_ix (in_rg h_3 (iA_60 h) (by decide)) ?_
    refine wp_if (fun c_4 => ?_) (fun c_4 => ?_)
    ·
      have h_5 : Rg 1 1 _ := rg_eq1 (rg_top _) rc_1 c_4 (by decide)
      exact s_X9_lookPut_101 hx1 hx2 (rg_w h_3 (by decide)) hx4 hx5 hxs0 h30_x1 h31_x1 hk hv h8 hfz h
    ·
      refine wp_if (fun c_6 => ?_) (fun c_6 => ?_)
      ·
        have h_7 : Rg 0 0 _ := rg_eq1 hxs0 rc_0 c_6 (by decide)
        exact ⟨_, rfl, (rg_w rc_3 (by decide)), h⟩
      ·
        have h_8 : Rg 1 1 _ := rg_ne1 hxs0 rc_0 c_6 (by decide)
        exact s_X9_lookPut_101 hx1 hx2 (rg_w h_3 (by decide)) hx4 hx5 (rg_w h_8 (by decide)) h30_x1 h31_x1 hk hv h8 hfz h
set_option maxRecDepth 100000 in
theorem s_X9_lookPut_77 {g : gh} {S : sh}  {x1 : Int32} {x2 : Int32} {x3 : Int32} {x4 : Int32} {x5 : Int32} {x6 : Int64} {D : dt} (hx1 : Rg 0 199 x1) (hx2 : Rg 1 8 x2) (hx3 : Rg (-1) 10 x3) (hx4 : Rg 0 10 x4) (hx5 : Rg 0 1 x5) (h30_x1 : Rg 0 10 (g.2 30 x1.toNatClampNeg)) (h31_x1 : Rg 0 10 (g.2 31 x1.toNatClampNeg)) (hk : (x5 ≠ 0 → gI D 60 x4.toNatClampNeg = 3)) (hv : x6 = gL D 61 x4.toNatClampNeg + (gI D 32 x1.toNatClampNeg).toInt64 + 512) (hfz : g.1 12 = 0) (h : Inv g S D) : wp (f_X9_lookPut_77 S 28 x1 x2 x3 x4 x5 x6 D) (fun q => Rg 0 4 q.1 ∧ Inv g S q.2) := by
  unfold f_X9_lookPut_77
  exact s_X9_lookPut_78 hx1 hx2 hx3 hx4 hx5 (rg_w rc_0 (by decide)) h30_x1 h31_x1 hk hv (fun q => absurd rfl q) hfz h
set_option maxRecDepth 100000 in
theorem s_X9_lookPut_24 {g : gh} {S : sh}  {x1 : Int32} {x2 : Int32} {x3 : Int32} {x4 : Int32} {xs0 : Int32} {D : dt} (hx1 : Rg 0 199 x1) (hx2 : Rg 1 8 x2) (hx3 : Rg (-1) 10 x3) (hx4 : Rg 0 10 x4) (hxs0 : Rg 0 1 xs0) (h30_x1 : Rg 0 10 (g.2 30 x1.toNatClampNeg)) (h31_x1 : Rg 0 10 (g.2 31 x1.toNatClampNeg)) (hk : (xs0 ≠ 0 → gI D 60 x4.toNatClampNeg = 3)) (hfz : g.1 12 = 0) (h : Inv g S D) : wp (f_X9_lookPut_24 S 28 x1 x2 x3 x4 xs0 D) (fun q => Rg 0 4 q.1 ∧ Inv g S q.2) := by
  unfold f_X9_lookPut_24
  refine wp_rq (iR_28_41 h) ?_
  refine wp_ix (in_rg hx4 (iA_61 h) (by decide)) ?_
  refine wp_rq (iR_28_4 h) ?_
  refine wp_ix (in_rg hx1 (iA_32 h) (by decide)) ?_
  refine wp_nmI (fun y112 e_y112 => ?_)
  refine wp_if (fun c_1 => ?_) (fun c_1 => ?_)
  ·
    have h_2 : Rg (-1) (-1) _ := rg_lt1 hx3 rc_0 c_1 (by decide)
    exact s_X9_lookPut_77 hx1 hx2 (rg_w h_2 (by decide)) hx4 hxs0 h30_x1 h31_x1 hk e_y112 hfz h
  ·
    have h_3 : Rg 0 10 _ := rg_le2 rc_0 hx3 (nlt32 c_1) (by decide)
    refine wp_if (fun c_4 => ?_) (fun c_4 => ?_)
    ·
      have h_5 : Rg 8 8 _ := rg_eq1 hx2 rc_8 c_4 (by decide)
      refine wp_if (fun c_6 => ?_) (fun c_6 => ?_)
      ·
        have h_7 : Rg 0 0 _ := rg_eq1 hxs0 rc_0 c_6 (by decide)
        exact s_X9_lookPut_77 hx1 (rg_w h_5 (by decide)) (rg_w h_3 (by decide)) hx4 (rg_w h_7 (by decide)) h30_x1 h31_x1 hk e_y112 hfz h
      ·
        have h_8 : Rg 1 1 _ := rg_ne1 hxs0 rc_0 c_6 (by decide)
        refine wp_if (fun c_9 => ?_) (fun c_9 => ?_)
        ·
          have h_10 : RgL 0 0 _ := rgl_eq1 (rgl_andr _ (by decide) : RgL 0 7 _) rcl_0 ((lg_cmp_eq _ _).mp c_9) (by decide)
          exact s_X9_lookPut_78 hx1 (rg_w h_5 (by decide)) (rg_w h_3 (by decide)) hx4 (rg_w h_8 (by decide)) (rg_w rc_1 (by decide)) h30_x1 h31_x1 hk e_y112 (fun _ => Int32.le_iff_toInt_le.mp (nlt32 c_1)) hfz h
        ·
          have h_11 : RgL 1 7 _ := rgl_ne1 (rgl_andr _ (by decide) : RgL 0 7 _) rcl_0 (fun q => c_9 ((lg_cmp_eq _ _).mpr q)) (by decide)
          exact s_X9_lookPut_77 hx1 (rg_w h_5 (by decide)) (rg_w h_3 (by decide)) hx4 (rg_w h_8 (by decide)) h30_x1 h31_x1 hk e_y112 hfz h
    ·
      have h_12 : Rg 1 7 _ := rg_ne1 hx2 rc_8 c_4 (by decide)
      exact s_X9_lookPut_77 hx1 (rg_w h_12 (by decide)) (rg_w h_3 (by decide)) hx4 hxs0 h30_x1 h31_x1 hk e_y112 hfz h
set_option maxRecDepth 100000 in
theorem s_X9_lookPut {g : gh} {S : sh}  {x1 : Int32} {x2 : Int32} {x3 : Int32} {D : dt} (hx1 : Rg 0 199 x1) (hx2 : Rg 1 8 x2) (hx3 : Rg (-1) 10 x3) (h30_x1 : Rg 0 10 (g.2 30 x1.toNatClampNeg)) (h31_x1 : Rg 0 10 (g.2 31 x1.toNatClampNeg)) (hfz : g.1 12 = 0) (h : Inv g S D) : wp (f_X9_lookPut S 28 x1 x2 x3 D) (fun q => Rg 0 4 q.1 ∧ Inv g S q.2) := by
  unfold f_X9_lookPut
  refine wp_rq (iR_28_2 h) ?_
  refine wp_ix (in_rg hx1 (iA_30 h) (by decide)) ?_
  refine wp_nmI (fun y122 e_y122 => ?_)
  have h_y122 : Rg 0 10 y122 := rg_eq e_y122 (rg_eq (h.p 30 _ rfl) h30_x1)
  refine wp_rq (iR_28_40 h) ?_
  refine wp_ix (in_rg h_y122 (iA_60 h) (by decide)) ?_
  refine wp_if (fun c_1 => ?_) (fun c_1 => ?_)
  ·
    have h_2 : Rg 3 3 _ := rg_eq1 (rg_top _) rc_3 c_1 (by decide)
    exact s_X9_lookPut_24 hx1 hx2 hx3 h_y122 (rg_w rc_1 (by decide)) h30_x1 h31_x1 (fun _ => c_1) hfz h
  ·
    exact s_X9_lookPut_24 hx1 hx2 hx3 h_y122 (rg_w rc_0 (by decide)) h30_x1 h31_x1 (fun q => absurd rfl q) hfz h
set_option maxRecDepth 100000 in
theorem s_X9_lookBoth_175 {g : gh} {S : sh}  {x1 : Int32} {x2 : Int32} {x4 : Int32} {x5 : Int32} {D : dt} (hx1 : Rg 0 199 x1) (hx2 : Rg 4 8 x2) (hx4 : Rg 0 10 x4) (hx5 : Rg 0 1 x5) (h30_x1 : Rg 0 10 (g.2 30 x1.toNatClampNeg)) (h31_x1 : Rg 0 10 (g.2 31 x1.toNatClampNeg)) (h : Inv g S D) : wp (f_X9_lookBoth_175 S 28 x1 x2 x4 x5 D) (fun q => Rg 0 4 q.1 ∧ Inv g S q.2) := by
  unfold f_X9_lookBoth_175
  refine wp_if (fun c_1 => ?_) (fun c_1 => ?_)
  ·
    have h_2 : Rg 0 0 _ := rg_eq1 hx5 rc_0 c_1 (by decide)
    refine wp_rq (iR_28_5 h) ?_
    refine wp_ix (in_rg hx1 (iA_33 h) (by decide)) ?_
    refine wp_if (fun c_3 => ?_) (fun c_3 => ?_)
    ·
      have h_4 : Rg 1 1 _ := rg_eq1 (rg_andr _ (by decide) : Rg 0 1 _) rc_1 c_3 (by decide)
      refine wp_pqs (s_X9_mostOf (rg_w hx2 (by decide))) (fun r105 _ => ?_)
      refine wp_cqs (s_X9_number (rg_w hx4 (by decide)) h) (fun _ D107 h_D107 => ?_)
      exact ⟨_, rfl, (rg_w rc_0 (by decide)), h_D107⟩
    ·
      have h_5 : Rg 0 0 _ := rg_ne1 (rg_andr _ (by decide) : Rg 0 1 _) rc_1 c_3 (by decide)
      exact ⟨_, rfl, (rg_w rc_0 (by decide)), h⟩
  ·
    have h_6 : Rg 1 1 _ := rg_ne1 hx5 rc_0 c_1 (by decide)
    refine wp_pqs (s_X9_mostOf (rg_w hx2 (by decide))) (fun r109 _ => ?_)
    refine wp_cqs (s_X9_number (rg_w rc_0 (by decide)) h) (fun _ D111 h_D111 => ?_)
    exact ⟨_, rfl, (rg_w rc_0 (by decide)), h_D111⟩
set_option maxRecDepth 100000 in
theorem s_X9_lookBoth_118 {g : gh} {S : sh}  {x1 : Int32} {x2 : Int32} {x3 : Int32} {x4 : Int32} {x5 : Int32} {x6 : Int32} {D : dt} (hx1 : Rg 0 199 x1) (hx2 : Rg 4 8 x2) (hx3 : Rg 0 10 x3) (hx4 : Rg 0 10 x4) (hx5 : Rg 0 1 x5) (hx6 : Rg 0 4 x6) (h30_x1 : Rg 0 10 (g.2 30 x1.toNatClampNeg)) (h31_x1 : Rg 0 10 (g.2 31 x1.toNatClampNeg)) (ha : (x6.toInt ≤ 0 → gI D 60 x3.toNatClampNeg = 3 → InM D x3.toNatClampNeg (gI D 32 x1.toNatClampNeg).toInt x2.toInt)) (h : Inv g S D) : wp (f_X9_lookBoth_118 S 28 x1 x2 x3 x4 x5 x6 D) (fun q => Rg 0 4 q.1 ∧ Inv g S q.2) := by
  unfold f_X9_lookBoth_118
  refine wp_if (fun c_1 => ?_) (fun c_1 => ?_)
  ·
    have h_2 : Rg 0 0 _ := rg_le1 hx6 rc_0 c_1 (by decide)
    refine wp_rq (iR_28_40 h) ?_
    refine wp_ix (in_rg hx3 (iA_60 h) (by decide)) ?_
    refine wp_if (fun c_3 => ?_) (fun c_3 => ?_)
    ·
      have h_4 : Rg 3 3 _ := rg_eq1 (rg_top _) rc_3 c_3 (by decide)
      refine wp_rq (iR_28_41 h) ?_
      refine wp_ix (in_rg hx3 (iA_61 h) (by decide)) ?_
      refine wp_rq (iR_28_4 h) ?_
      refine wp_ix (in_rg hx1 (iA_32 h) (by decide)) ?_
      refine wp_nmI (fun y129 e_y129 => ?_)
      have h_y129 : Rg 0 511 y129 := rg_eq e_y129 (inm_rg h c_3 (ha (le_z c_1) c_3) (iI_32 h _) (Int.le_trans (by decide) hx2.1))
      refine wp_pqs (s_X9_areKnown (rg_w h_y129 (by decide)) (rg_w hx2 (by decide)) h) (fun r131 h_r131 => ?_)
      refine wp_if (fun c_5 => ?_) (fun c_5 => ?_)
      ·
        have h_6 : Rg 0 0 _ := rg_eq1 h_r131 rc_0 c_5 (by decide)
        exact ⟨_, rfl, (rg_w rc_4 (by decide)), h⟩
      ·
        have h_7 : Rg 1 1 _ := rg_ne1 h_r131 rc_0 c_5 (by decide)
        refine wp_cqs (s_X9_put_ h_y129 (rg_w hx2 (by decide)) h) (fun _ D134 h_D134 => ?_)
        exact s_X9_lookBoth_175 hx1 hx2 hx4 hx5 h30_x1 h31_x1 h_D134
    ·
      exact s_X9_lookBoth_175 hx1 hx2 hx4 hx5 h30_x1 h31_x1 h
  ·
    have h_8 : Rg 1 4 _ := rg_lt2 rc_0 hx6 (nle32 c_1) (by decide)
    exact ⟨_, rfl, (rg_w h_8 (by decide)), h⟩
set_option maxRecDepth 100000 in
theorem s_X9_lookBoth_69 {g : gh} {S : sh}  {x1 : Int32} {x2 : Int32} {x3 : Int32} {x4 : Int32} {x5 : Int32} {D : dt} (hx1 : Rg 0 199 x1) (hx2 : Rg 4 8 x2) (hx3 : Rg 0 10 x3) (hx4 : Rg 0 10 x4) (hx5 : Rg 0 1 x5) (h30_x1 : Rg 0 10 (g.2 30 x1.toNatClampNeg)) (h31_x1 : Rg 0 10 (g.2 31 x1.toNatClampNeg)) (h : Inv g S D) : wp (f_X9_lookBoth_69 S 28 x1 x2 x3 x4 x5 D) (fun q => Rg 0 4 q.1 ∧ Inv g S q.2) := by
  unfold f_X9_lookBoth_69
  refine wp_rq (iR_28_4 h) ?_
  refine wp_ix (in_rg hx1 (iA_32 h) (by decide)) ?_
  refine wp_pqs (s_X9_access hx3 (iI_32 h _) (rg_w hx2 (by decide)) (rg_w rc_1 (by decide)) h) (fun r141 q_r141 => ?_)
  obtain ⟨h_r141, p_r141⟩ := q_r141
  refine wp_if (fun c_1 => ?_) (fun c_1 => ?_)
  ·
    have h_2 : Rg 3 3 _ := rg_eq1 h_r141 rc_3 c_1 (by decide)
    exact ⟨_, rfl, (rg_w rc_3 (by decide)), h⟩
  ·
    refine wp_rq (iR_28_40 h) ?_
    refine wp_ix (in_rg hx4 (iA_60 h) (by decide)) ?_
    refine wp_if (fun c_3 => ?_) (fun c_3 => ?_)
    ·
      have h_4 : Rg 1 1 _ := rg_eq1 (rg_top _) rc_1 c_3 (by decide)
      refine wp_if (fun c_5 => ?_) (fun c_5 => ?_)
      ·
        have h_6 : Rg 0 0 _ := rg_eq1 hx5 rc_0 c_5 (by decide)
        exact s_X9_lookBoth_118 hx1 hx2 hx3 hx4 (rg_w h_6 (by decide)) h_r141 h30_x1 h31_x1 p_r141 h
      ·
        have h_7 : Rg 1 1 _ := rg_ne1 hx5 rc_0 c_5 (by decide)
        refine wp_rq (iR_28_40 h) ?_
        refine wp_ix (in_rg rc_0 (iA_60 h) (by decide)) ?_
        refine wp_if (fun c_8 => ?_) (fun c_8 => ?_)
        ·
          have h_9 : Rg 1 1 _ := rg_eq1 (rg_top _) rc_1 c_8 (by decide)
          exact s_X9_lookBoth_118 hx1 hx2 hx3 hx4 (rg_w h_7 (by decide)) h_r141 h30_x1 h31_x1 p_r141 h
        ·
          exact ⟨_, rfl, (rg_w rc_3 (by decide)), h⟩
    ·
      exact ⟨_, rfl, (rg_w rc_3 (by decide)), h⟩
set_option maxRecDepth 100000 in
theorem s_X9_lookBoth_32 {g : gh} {S : sh}  {x1 : Int32} {x2 : Int32} {x3 : Int32} {x4 : Int32} {xs0 : Int32} {D : dt} (hx1 : Rg 0 199 x1) (hx2 : Rg 4 8 x2) (hx3 : Rg 0 10 x3) (hx4 : Rg 0 10 x4) (hxs0 : Rg 0 1 xs0) (h30_x1 : Rg 0 10 (g.2 30 x1.toNatClampNeg)) (h31_x1 : Rg 0 10 (g.2 31 x1.toNatClampNeg)) (h : Inv g S D) : wp (f_X9_lookBoth_32 S 28 x1 x2 x3 x4 xs0 D) (fun q => Rg 0 4 q.1 ∧ Inv g S q.2) := by
  unfold f_X9_lookBoth_32
  refine wp_rq (iR_28_40 h) ?_
  refine wp_ix (in_rg hx3 (iA_60 h) (by decide)) ?_
  refine wp_if (fun c_1 => ?_) (fun c_1 => ?_)
  ·
    have h_2 : Rg 0 0 _ := rg_eq1 (rg_top _) rc_0 c_1 (by decide)
    exact ⟨_, rfl, (rg_w rc_2 (by decide)), h⟩
  ·
    refine wp_rq (iR_28_40 h) ?_
    refine wp_ix (in_rg hx4 (iA_60 h) (by decide)) ?_
    refine wp_if (fun c_3 => ?_) (fun c_3 => ?_)
    ·
      have h_4 : Rg 0 0 _ := rg_eq1 (rg_top _) rc_0 c_3 (by decide)
      exact ⟨_, rfl, (rg_w rc_2 (by decide)), h⟩
    ·
      refine wp_if (fun c_5 => ?_) (fun c_5 => ?_)
      ·
        have h_6 : Rg 0 0 _ := rg_eq1 hxs0 rc_0 c_5 (by decide)
        exact s_X9_lookBoth_69 hx1 hx2 hx3 hx4 (rg_w h_6 (by decide)) h30_x1 h31_x1 h
      ·
        have h_7 : Rg 1 1 _ := rg_ne1 hxs0 rc_0 c_5 (by decide)
        refine wp_rq (iR_28_40 h) ?_
        refine wp_ix (in_rg rc_0 (iA_60 h) (by decide)) ?_
        refine wp_if (fun c_8 => ?_) (fun c_8 => ?_)
        ·
          have h_9 : Rg 0 0 _ := rg_eq1 (rg_top _) rc_0 c_8 (by decide)
          exact ⟨_, rfl, (rg_w rc_2 (by decide)), h⟩
        ·
          exact s_X9_lookBoth_69 hx1 hx2 hx3 hx4 (rg_w h_7 (by decide)) h30_x1 h31_x1 h
set_option maxRecDepth 100000 in
theorem s_X9_lookBoth {g : gh} {S : sh}  {x1 : Int32} {x2 : Int32} {D : dt} (hx1 : Rg 0 199 x1) (hx2 : Rg 4 8 x2) (h30_x1 : Rg 0 10 (g.2 30 x1.toNatClampNeg)) (h31_x1 : Rg 0 10 (g.2 31 x1.toNatClampNeg)) (h : Inv g S D) : wp (f_X9_lookBoth S 28 x1 x2 D) (fun q => Rg 0 4 q.1 ∧ Inv g S q.2) := by
  unfold f_X9_lookBoth
  refine wp_rq (iR_28_2 h) ?_
  refine wp_ix (in_rg hx1 (iA_30 h) (by decide)) ?_
  refine wp_nmI (fun y180 e_y180 => ?_)
  have h_y180 : Rg 0 10 y180 := rg_eq e_y180 (rg_eq (h.p 30 _ rfl) h30_x1)
  refine wp_rq (iR_28_3 h) ?_
  refine wp_ix (in_rg hx1 (iA_31 h) (by decide)) ?_
  refine wp_nmI (fun y186 e_y186 => ?_)
  have h_y186 : Rg 0 10 y186 := rg_eq e_y186 (rg_eq (h.p 31 _ rfl) h31_x1)
  refine wp_rq (iR_28_5 h) ?_
  refine wp_ix (in_rg hx1 (iA_33 h) (by decide)) ?_
  refine wp_if (fun c_1 => ?_) (fun c_1 => ?_)
  ·
    have h_2 : Rg 241 241 _ := rg_eq1 (rg_top _) rc_241 c_1 (by decide)
    exact s_X9_lookBoth_32 hx1 hx2 h_y180 h_y186 (rg_w rc_1 (by decide)) h30_x1 h31_x1 h
  ·
    exact s_X9_lookBoth_32 hx1 hx2 h_y180 h_y186 (rg_w rc_0 (by decide)) h30_x1 h31_x1 h
set_option maxRecDepth 100000 in
theorem s_X9_lookWide_161 {g : gh} {S : sh}  {x1 : Int32} {D : dt} (hx1 : Rg 0 198 x1) (h30_x1 : Rg 0 10 (g.2 30 x1.toNatClampNeg)) (h31_x1 : Rg 0 10 (g.2 31 x1.toNatClampNeg)) (h : Inv g S D) : wp (f_X9_lookWide_161 S 28 x1 D) (fun q => Rg 0 6 q.1 ∧ Inv g S q.2) := by
  unfold f_X9_lookWide_161
  refine wp_cqs (s_X9_onward (rg_w rc_0 (by decide)) h) (fun r83 D84 q_r83 => ?_)
  obtain ⟨h_r83, h_D84⟩ := q_r83
  exact ⟨_, rfl, h_r83, h_D84⟩
set_option maxRecDepth 100000 in
theorem s_X9_lookWide_65 {g : gh} {S : sh}  {x1 : Int32} {x2 : Int32} {D : dt} (hx1 : Rg 0 199 x1) (hx2 : Rg 0 1 x2) (h30_x1 : Rg 0 10 (g.2 30 x1.toNatClampNeg)) (h31_x1 : Rg 0 10 (g.2 31 x1.toNatClampNeg)) (hx2_c_x1 : (x2 ≠ 0 → Rg 0 198 x1)) (ht : (g.2 31 x1.toNatClampNeg = 1 → Rg 0 3 (g.2 33 x1.toNatClampNeg))) (h : Inv g S D) : wp (f_X9_lookWide_65 S 28 x1 x2 D) (fun q => Rg 0 6 q.1 ∧ Inv g S q.2) := by
  unfold f_X9_lookWide_65
  refine wp_if (fun c_1 => ?_) (fun c_1 => ?_)
  ·
    have h_2 : Rg 0 0 _ := rg_eq1 hx2 rc_0 c_1 (by decide)
    exact ⟨_, rfl, (rg_w rc_6 (by decide)), h⟩
  ·
    have h_3 := hx2_c_x1 c_1
    have h_4 : Rg 0 198 _ := rg_eq1 h_3 hx1 rfl (by decide)
    have h_5 : Rg 1 1 _ := rg_ne1 hx2 rc_0 c_1 (by decide)
    refine wp_rq (iR_28_3 h) ?_
    refine wp_ix (in_rg h_4 (iA_31 h) (by decide)) ?_
    refine wp_if (fun c_6 => ?_) (fun c_6 => ?_)
    ·
      have h_7 : Rg 1 1 _ := rg_eq1 (rg_eq (h.p 31 _ rfl) h31_x1) rc_1 c_6 (by decide)
      refine wp_rq (iR_28_2 h) ?_
      refine wp_ix (in_rg h_4 (iA_30 h) (by decide)) ?_
      refine wp_cqs (s_X9_forget (rg_w (rg_eq (h.p 30 _ rfl) h30_x1) (by decide)) h) (fun _ D116 h_D116 => ?_)
      refine wp_rq (iR_28_40 h_D116) ?_
      refine wp_rq (iR_28_2 h_D116) ?_
      refine wp_ix (in_rg h_4 (iA_30 h_D116) (by decide)) ?_
      refine wp_ix (in_rg (rg_eq (h_D116.p 30 _ rfl) h30_x1) (iA_60 h_D116) (by decide)) ?_
      refine wp_nmI (fun D127 e_D127 => ?_)
      have h_D127 : Inv g S D127 := by rw [e_D127]; exact inv_i60 h_D116 (rg_ne3 rc_4 (by decide)) (rg_top _)
      refine wp_rq (iR_28_43 h_D127) ?_
      refine wp_rq (iR_28_2 h_D127) ?_
      refine wp_ix (in_rg h_4 (iA_30 h_D127) (by decide)) ?_
      refine wp_rq (iR_28_5 h_D127) ?_
      refine wp_ix (in_rg h_4 (iA_33 h_D127) (by decide)) ?_
      refine wp_ix (in_rg (rg_eq (h_D127.p 30 _ rfl) h30_x1) (iA_63 h_D127) (by decide)) ?_
      refine wp_nmI (fun D143 e_D143 => ?_)
      have h_D143 : Inv g S D143 := by rw [e_D143]; exact inv_i63 h_D127 (rg_eq (h_D127.p 33 _ rfl) (ht ((h.p 31 _ rfl).symm.trans c_6)))
      exact s_X9_lookWide_161 h_4 h30_x1 (rg_w (rg_eq (h.p 31 _ rfl).symm h_7) (by decide)) h_D143
    ·
      refine wp_rq (iR_28_5 h) ?_
      refine wp_ix (in_rg h_4 (iA_33 h) (by decide)) ?_
      refine wp_rq (iR_28_5 h) ?_
      refine wp_ix (in_rg (rg_add h_4 rc_1 (by decide) : Rg 1 199 _) (iA_33 h) (by decide)) ?_
      refine wp_nmI (fun y102 e_y102 => ?_)
      refine wp_rq (iR_28_2 h) ?_
      refine wp_ix (in_rg h_4 (iA_30 h) (by decide)) ?_
      refine wp_cqs (s_X9_number (rg_w (rg_eq (h.p 30 _ rfl) h30_x1) (by decide)) h) (fun _ D109 h_D109 => ?_)
      exact s_X9_lookWide_161 h_4 h30_x1 h31_x1 h_D109
set_option maxRecDepth 100000 in
theorem s_X9_lookWide_32 {g : gh} {S : sh}  {x1 : Int32} {x2 : Int32} {D : dt} (hx1 : Rg 0 199 x1) (hx2 : Rg 0 1 x2) (h30_x1 : Rg 0 10 (g.2 30 x1.toNatClampNeg)) (h31_x1 : Rg 0 10 (g.2 31 x1.toNatClampNeg)) (hx2_c_x1 : (x2 ≠ 0 → Rg 0 198 x1)) (h : Inv g S D) : wp (f_X9_lookWide_32 S 28 x1 x2 D) (fun q => Rg 0 6 q.1 ∧ Inv g S q.2) := by
  unfold f_X9_lookWide_32
  refine wp_rq (iR_28_3 h) ?_
  refine wp_ix (in_rg hx1 (iA_31 h) (by decide)) ?_
  refine wp_if (fun c_1 => ?_) (fun c_1 => ?_)
  ·
    have h_2 : Rg 1 1 _ := rg_eq1 (rg_eq (h.p 31 _ rfl) h31_x1) rc_1 c_1 (by decide)
    refine wp_rq (iR_28_5 h) ?_
    refine wp_ix (in_rg hx1 (iA_33 h) (by decide)) ?_
    refine wp_pqs (s_X9_in) (fun r156 q_r156 => ?_)
    obtain ⟨h_r156, x_r156⟩ := q_r156
    refine wp_if (fun c_3 => ?_) (fun c_3 => ?_)
    ·
      have h_4 : Rg 0 0 _ := rg_eq1 h_r156 rc_0 c_3 (by decide)
      exact ⟨_, rfl, (rg_w rc_4 (by decide)), h⟩
    ·
      have h_5 := x_r156 c_3
      have h_6 : RgL 0 3 _ := rgl_in (rgl_of (rg_top _) : RgL (-2147483648) 2147483647 _) rcl_0 (rgl_of (rg_sub (iF_28_9 h) rc_1 (by decide) : Rg (-1) 3 _) : RgL (-1) 3 _) h_5 (by decide)
      have h_7 : Rg 0 3 _ := rg_of32 h_6
      have h_8 : Rg 1 1 _ := rg_ne1 h_r156 rc_0 c_3 (by decide)
      exact s_X9_lookWide_65 hx1 hx2 h30_x1 (rg_w (rg_eq (h.p 31 _ rfl).symm h_2) (by decide)) (fun ne => by have h_9 := hx2_c_x1 ne; have h_10 : Rg 0 198 _ := rg_eq1 h_9 hx1 rfl (by decide); have h_11 : Rg 1 1 _ := rg_ne1 hx2 rc_0 ne (by decide); exact h_10) (fun _ => imm_t h (x_r156 c_3)) h
  ·
    exact s_X9_lookWide_65 hx1 hx2 h30_x1 h31_x1 (fun ne => by have h_12 := hx2_c_x1 ne; have h_13 : Rg 0 198 _ := rg_eq1 h_12 hx1 rfl (by decide); have h_14 : Rg 1 1 _ := rg_ne1 hx2 rc_0 ne (by decide); exact h_13) (fun e => absurd ((h.p 31 _ rfl).trans e) c_1) h
set_option maxRecDepth 100000 in
theorem s_X9_lookWide_15 {g : gh} {S : sh}  {x1 : Int32} {xs0 : Int32} {D : dt} (hx1 : Rg 0 199 x1) (hxs0 : Rg 0 1 xs0) (h30_x1 : Rg 0 10 (g.2 30 x1.toNatClampNeg)) (h31_x1 : Rg 0 10 (g.2 31 x1.toNatClampNeg)) (hxs0_c_x1 : (xs0 ≠ 0 → Rg 0 198 x1)) (h : Inv g S D) : wp (f_X9_lookWide_15 S 28 x1 xs0 D) (fun q => Rg 0 6 q.1 ∧ Inv g S q.2) := by
  unfold f_X9_lookWide_15
  refine wp_if (fun c_1 => ?_) (fun c_1 => ?_)
  ·
    have h_2 : Rg 0 0 _ := rg_eq1 hxs0 rc_0 c_1 (by decide)
    exact s_X9_lookWide_32 hx1 (rg_w h_2 (by decide)) h30_x1 h31_x1 (fun ne => by have h_3 := hxs0_c_x1 ne; have h_4 : Rg 0 198 _ := rg_eq1 h_3 hx1 rfl (by decide); have h_5 : Rg 1 (-1) _ := rg_ne1 h_2 rc_0 ne (by decide); exact (rg_false h_5 (by decide)).elim) h
  ·
    have h_6 := hxs0_c_x1 c_1
    have h_7 : Rg 0 198 _ := rg_eq1 h_6 hx1 rfl (by decide)
    have h_8 : Rg 1 1 _ := rg_ne1 hxs0 rc_0 c_1 (by decide)
    refine wp_pqs (s_X9_isSecond (rg_add h_7 rc_1 (by decide) : Rg 1 199 _) h) (fun r160 h_r160 => ?_)
    refine wp_if (fun c_9 => ?_) (fun c_9 => ?_)
    ·
      have h_10 : Rg 0 0 _ := rg_eq1 h_r160 rc_0 c_9 (by decide)
      exact ⟨_, rfl, (rg_w rc_1 (by decide)), h⟩
    ·
      have h_11 : Rg 1 1 _ := rg_ne1 h_r160 rc_0 c_9 (by decide)
      exact s_X9_lookWide_32 (rg_w h_7 (by decide)) (rg_w h_8 (by decide)) h30_x1 h31_x1 (fun ne => by have h_12 := hxs0_c_x1 ne; exact h_7) h
set_option maxRecDepth 100000 in
theorem s_X9_lookWide {g : gh} {S : sh}  {x1 : Int32} {D : dt} (hx1 : Rg 0 199 x1) (h30_x1 : Rg 0 10 (g.2 30 x1.toNatClampNeg)) (h31_x1 : Rg 0 10 (g.2 31 x1.toNatClampNeg)) (h : Inv g S D) : wp (f_X9_lookWide S 28 x1 D) (fun q => Rg 0 6 q.1 ∧ Inv g S q.2) := by
  unfold f_X9_lookWide
  refine wp_if (fun c_1 => ?_) (fun c_1 => ?_)
  ·
    exact s_X9_lookWide_15 hx1 (rg_w rc_0 (by decide)) h30_x1 h31_x1 (fun ne => absurd rfl ne) h
  ·
    have h_2 : Rg 1 199 _ := rg_lt1 (rg_add hx1 rc_1 (by decide) : Rg 1 200 _) (iF_28_0 h) (nle32 c_1) (by decide)
    have h_3 : Rg 0 198 _ := rg_unadd hx1 h_2 (by decide)
    have h_4 : Rg 2 200 _ := rg_lt2 (rg_add hx1 rc_1 (by decide) : Rg 1 200 _) (iF_28_0 h) (nle32 c_1) (by decide)
    exact s_X9_lookWide_15 (rg_w h_3 (by decide)) (rg_w rc_1 (by decide)) h30_x1 h31_x1 (fun ne => by exact h_3) h
set_option maxRecDepth 100000 in
theorem s_X9_look_300 {g : gh} {S : sh}  {x1 : Int32} {xs2 : Int32} {xs3 : Int32} {D : dt} (hx1 : Rg 0 199 x1) (hxs2 : Rg 0 199 xs2) (hxs3 : Rg 4 8 xs3) (h30_x1 : Rg 0 10 (g.2 30 x1.toNatClampNeg)) (h31_x1 : Rg 0 10 (g.2 31 x1.toNatClampNeg)) (h30_xs2 : Rg 0 10 (g.2 30 xs2.toNatClampNeg)) (h31_xs2 : Rg 0 10 (g.2 31 xs2.toNatClampNeg)) (hxs2_c_x1 : (xs2 ≠ 0 → Rg 1 199 x1)) (h : Inv g S D) : wp (f_X9_look_300 S x1 28 28 xs2 xs3 D) (fun q => Rg 0 6 q.1 ∧ Inv g S q.2) := by
  unfold f_X9_look_300
  refine wp_cqs (s_X9_lookBoth hxs2 hxs3 h30_xs2 h31_xs2 h) (fun r141 D142 q_r141 => ?_)
  obtain ⟨h_r141, h_D142⟩ := q_r141
  refine wp_cqs (s_X9_onward h_r141 h_D142) (fun r144 D145 q_r144 => ?_)
  obtain ⟨h_r144, h_D145⟩ := q_r144
  exact ⟨_, rfl, h_r144, h_D145⟩
set_option maxRecDepth 100000 in
theorem s_X9_look_272 {g : gh} {S : sh}  {x1 : Int32} {xs1 : Int32} {D : dt} (hx1 : Rg 0 199 x1) (hxs1 : Rg 0 4 xs1) (h30_x1 : Rg 0 10 (g.2 30 x1.toNatClampNeg)) (h31_x1 : Rg 0 10 (g.2 31 x1.toNatClampNeg)) (h : Inv g S D) : wp (f_X9_look_272 S x1 28 xs1 D) (fun q => Rg 0 6 q.1 ∧ Inv g S q.2) := by
  unfold f_X9_look_272
  refine wp_cqs (s_X9_onward hxs1 h) (fun r147 D148 q_r147 => ?_)
  obtain ⟨h_r147, h_D148⟩ := q_r147
  exact ⟨_, rfl, h_r147, h_D148⟩
set_option maxRecDepth 100000 in
theorem s_X9_look_118 {g : gh} {S : sh}  {xs1 : Int32} {xs2 : Int32} {xs3 : Int32} {D : dt} (hxs1 : Rg 0 0 xs1) (hxs2 : Rg 1 200 xs2) (h : Inv g S D) : wp (f_X9_look_118 S 28 xs1 xs2 xs3 D) (fun q => Rg 0 6 q.1 ∧ Inv g S q.2) := by
  unfold f_X9_look_118
  refine wp_cqs (s_X9_onward (rg_w hxs1 (by decide)) h) (fun r150 D151 q_r150 => ?_)
  obtain ⟨h_r150, h_D151⟩ := q_r150
  exact ⟨_, rfl, h_r150, h_D151⟩
set_option maxRecDepth 100000 in
theorem s_X9_look_216 {g : gh} {S : sh}  {x1 : Int32} {xs1 : Int32} {D : dt} (hx1 : Rg 0 199 x1) (hxs1 : Rg 0 4 xs1) (h30_x1 : Rg 0 10 (g.2 30 x1.toNatClampNeg)) (h31_x1 : Rg 0 10 (g.2 31 x1.toNatClampNeg)) (h : Inv g S D) : wp (f_X9_look_216 S x1 28 xs1 D) (fun q => Rg 0 6 q.1 ∧ Inv g S q.2) := by
  unfold f_X9_look_216
  refine wp_cqs (s_X9_onward hxs1 h) (fun r153 D154 q_r153 => ?_)
  obtain ⟨h_r153, h_D154⟩ := q_r153
  exact ⟨_, rfl, h_r153, h_D154⟩
set_option maxRecDepth 100000 in
theorem s_X9_look_252 {g : gh} {S : sh}  {x1 : Int32} {D : dt} (hx1 : Rg 0 199 x1) (h30_x1 : Rg 0 10 (g.2 30 x1.toNatClampNeg)) (h31_x1 : Rg 0 10 (g.2 31 x1.toNatClampNeg)) (h : Inv g S D) : wp (f_X9_look_252 S x1 28 D) (fun q => Rg 0 6 q.1 ∧ Inv g S q.2) := by
  unfold f_X9_look_252
  exact s_X9_look_272 hx1 (rg_w rc_2 (by decide)) h30_x1 h31_x1 h
