set_option maxRecDepth 100000 in
theorem s_X0_judgeJump {g : gh} {S : sh}  {x1 : Int32} {D : dt} (hx1 : Rg 0 199 x1) (h3_x1 : Rg 0 10 (g.2 3 x1.toNatClampNeg)) (h4_x1 : Rg 0 10 (g.2 4 x1.toNatClampNeg)) (htt : g.1 9 = 0) (hfz : g.1 12 = 0) (h : Inv g S D) : wp (f_X0_judgeJump S 14 x1 D) (fun q => Rg 0 5 q.1 ∧ Inv g S q.2) := by
  unfold f_X0_judgeJump
  refine wp_rq (iR_14_0 h) ?_
  refine wp_pqs (s_X4_code hx1 h) (fun r32 q_r32 => ?_)
  obtain ⟨h_r32, p_r32⟩ := q_r32
  refine wp_if (fun c_1 => ?_) (fun c_1 => ?_)
  ·
    have h_2 : Rg 9 9 _ := rg_eq1 h_r32 rc_9 c_1 (by decide)
    refine wp_nmI (fun D45 e_D45 => ?_)
    have h_D45 : Inv g S D45 := by rw [e_D45]; exact inv_i14 h (Or.inl hfz) (rg_top _)
    refine wp_rq (iR_14_4 h_D45) ?_
    refine wp_pqs (s_X5_isNumber (iK_17 h_D45) (rg_w rc_0 (by decide)) h_D45) (fun r51 h_r51 => ?_)
    refine wp_if (fun c_3 => ?_) (fun c_3 => ?_)
    ·
      have h_4 : Rg 0 0 _ := rg_eq1 h_r51 rc_0 c_3 (by decide)
      exact ⟨_, rfl, (rg_w rc_5 (by decide)), h_D45⟩
    ·
      have h_5 : Rg 1 1 _ := rg_ne1 h_r51 rc_0 c_3 (by decide)
      exact ⟨_, rfl, (rg_w rc_0 (by decide)), h_D45⟩
  ·
    refine wp_if (fun c_6 => ?_) (fun c_6 => ?_)
    ·
      have h_7 : Rg 0 0 _ := rg_eq1 h_r32 rc_0 c_6 (by decide)
      refine wp_rq (iR_14_0 h) ?_
      refine wp_pqs (s_X4_distance hx1 h) (fun r43 _ => ?_)
      refine wp_nmI (fun D44 e_D44 => ?_)
      have h_D44 : Inv g S D44 := by rw [e_D44]; exact inv_l14 h (Or.inl hfz)
      exact ⟨_, rfl, (rg_w rc_0 (by decide)), h_D44⟩
    ·
      have h_8 : Rg 1 15 _ := rg_ne1 h_r32 rc_0 c_6 (by decide)
      refine wp_cqs (s_X0_judgeBranch hx1 h3_x1 h4_x1 htt hfz h) (fun r36 D37 q_r36 => ?_)
      obtain ⟨h_r36, h_D37⟩ := q_r36
      exact ⟨_, rfl, (rg_w h_r36 (by decide)), h_D37⟩
set_option maxRecDepth 100000 in
theorem s_X0_judgeSlot_147 {g : gh} {S : sh}  {x1 : Int32} {D : dt} (hx1 : Rg 0 199 x1) (h3_x1 : Rg 0 10 (g.2 3 x1.toNatClampNeg)) (h4_x1 : Rg 0 10 (g.2 4 x1.toNatClampNeg)) (htt : g.1 9 = 0) (hfz : g.1 12 = 0) (h : Inv g S D) : wp (f_X0_judgeSlot_147 S 14 x1 D) (fun q => Rg 0 6 q.1 ∧ ((q.1 = 0 → Inv g S q.2) ∧ Inv (lgg g) S q.2)) := by
  unfold f_X0_judgeSlot_147
  refine wp_rq (iR_14_0 h) ?_
  refine wp_pqs (s_X4_code hx1 h) (fun r86 q_r86 => ?_)
  obtain ⟨h_r86, p_r86⟩ := q_r86
  refine wp_if (fun c_1 => ?_) (fun c_1 => ?_)
  ·
    have h_2 : Rg 8 8 _ := rg_eq1 h_r86 rc_8 c_1 (by decide)
    refine wp_rq (iR_14_0 h) ?_
    refine wp_rq (iR_1_4 h) ?_
    refine wp_ix (in_rg hx1 (iA_6 h) (by decide)) ?_
    refine wp_cqs (s_X0_judgeCall hx1 h3_x1 h4_x1 htt h) (fun r101 D102 q_r101 => ?_)
    obtain ⟨h_r101, h_D102⟩ := q_r101
    exact ⟨_, rfl, (rg_w h_r101 (by decide)), ⟨fun _ => h_D102, h_D102.log⟩⟩
  ·
    refine wp_cqs (s_X0_judgeJump hx1 h3_x1 h4_x1 htt hfz h) (fun r89 D90 q_r89 => ?_)
    obtain ⟨h_r89, h_D90⟩ := q_r89
    exact ⟨_, rfl, (rg_w h_r89 (by decide)), ⟨fun _ => h_D90, h_D90.log⟩⟩
theorem s_X0_judgeSlot_141 {g : gh} {S : sh} {x1 : Int32} {D : dt} (hx1 : Rg 0 199 x1) (h3_x1 : Rg 0 10 (g.2 3 x1.toNatClampNeg)) (h4_x1 : Rg 0 10 (g.2 4 x1.toNatClampNeg)) (h13 : g.2 2 x1.toNatClampNeg >>> ((4 : Int32) &&& 31) = 13 → Rg 0 64 (g.2 6 x1.toNatClampNeg)) (htt : g.1 9 = 0) (h : Inv g S D) : wp (f_X0_judgeSlot_141 S 14 x1 D) (fun q => Rg 0 6 q.1 ∧ ((q.1 = 0 → Inv g S q.2) ∧ Inv (lgg g) S q.2)) := by
  unfold f_X0_judgeSlot_141
  exact wp_cqs (s_X0_judgeArithmetic hx1 h3_x1 h4_x1 h13 htt h) (fun r D1 p => ⟨_, rfl, rg_w p.1 (by decide), p.2⟩)
set_option maxRecDepth 100000 in
theorem s_X0_judgeSlot {g : gh} {S : sh}  {x1 : Int32} {o2 : Nat} {D : dt} (hx1 : Rg 0 199 x1) (ho2 : sK S o2 = 4) (htt : g.1 9 = 0) (hfz : g.1 12 = 0) (h : Inv g S D) : wp (f_X0_judgeSlot S 14 x1 o2 D) (fun q => Rg 0 6 q.1 ∧ ((q.1 = 0 → Inv g S q.2) ∧ Inv (lgg g) S q.2)) := by
  unfold f_X0_judgeSlot
  refine wp_rq (iR_14_0 h) ?_
  refine wp_pqs (s_X4_isBad hx1 h) (fun r111 q_r111 => ?_)
  obtain ⟨h_r111, x_r111, p_r111⟩ := q_r111
  refine wp_if (fun c_1 => ?_) (fun c_1 => ?_)
  ·
    have h_2 := x_r111 c_1
    have h_3 : Rg 0 0 _ := rg_eq1 h_r111 rc_0 c_1 (by decide)
    refine wp_rq (iR_14_4 h) ?_
    refine wp_cqs (s_X5_copyFrom (iK_17 h) ho2 htt h) (fun _ D118 h_D118 => ?_)
    refine wp_nmI (fun D119 e_D119 => ?_)
    have h_D119 : Inv g S D119 := by rw [e_D119]; exact inv_i14 h_D118 (Or.inl hfz) (rg_top _)
    refine wp_nmI (fun D120 e_D120 => ?_)
    have h_D120 : Inv g S D120 := by rw [e_D120]; exact inv_l14 h_D119 (Or.inl hfz)
    refine wp_nmI (fun D121 e_D121 => ?_)
    have h_D121 : Inv g S D121 := by rw [e_D121]; exact inv_i14 h_D120 (Or.inl hfz) (rg_top _)
    refine wp_rq (iR_14_0 h_D121) ?_
    refine wp_rq (iR_1_0 h_D121) ?_
    refine wp_ix (in_rg hx1 (iA_2 h_D121) (by decide)) ?_
    refine wp_if (fun c_4 => ?_) (fun c_4 => ?_)
    ·
      have h_5 : Rg 0 0 _ := rg_eq1 (rg_andr _ (by decide) : Rg 0 7 _) rc_0 c_4 (by decide)
      refine wp_cqs (s_X0_judgePair hx1 h_2.1 h_2.2 htt hfz h_D121) (fun r133 D134 q_r133 => ?_)
      obtain ⟨h_r133, h_D134⟩ := q_r133
      exact ⟨_, rfl, h_r133, ⟨fun _ => h_D134, h_D134.log⟩⟩
    ·
      have h_6 : Rg 1 7 _ := rg_ne1 (rg_andr _ (by decide) : Rg 0 7 _) rc_0 c_4 (by decide)
      refine wp_if (fun c_7 => ?_) (fun c_7 => ?_)
      ·
        have h_8 : Rg 1 1 _ := rg_eq1 h_6 rc_1 c_7 (by decide)
        refine wp_cqs (s_X0_judgeLoad hx1 h_2.1 h_2.2 htt h_D121) (fun r137 D138 q_r137 => ?_)
        obtain ⟨h_r137, h_D138⟩ := q_r137
        exact ⟨_, rfl, (rg_w h_r137 (by decide)), ⟨fun _ => h_D138, h_D138.log⟩⟩
      ·
        have h_9 : Rg 2 7 _ := rg_ne1 h_6 rc_1 c_7 (by decide)
        refine wp_if (fun c_10 => ?_) (fun c_10 => ?_)
        ·
          have h_11 : Rg 2 2 _ := rg_eq1 h_9 rc_2 c_10 (by decide)
          refine wp_cqs (s_X0_judgePut hx1 (rg_w rc_0 (by decide)) h_2.1 h_2.2 htt h_D121) (fun r141 D142 q_r141 => ?_)
          obtain ⟨h_r141, h_D142⟩ := q_r141
          exact ⟨_, rfl, (rg_w h_r141 (by decide)), ⟨fun _ => h_D142, h_D142.log⟩⟩
        ·
          have h_12 : Rg 3 7 _ := rg_ne1 h_9 rc_2 c_10 (by decide)
          refine wp_if (fun c_13 => ?_) (fun c_13 => ?_)
          ·
            have h_14 : Rg 3 3 _ := rg_eq1 h_12 rc_3 c_13 (by decide)
            refine wp_rq (iR_14_0 h_D121) ?_
            refine wp_pqs (s_X4_isPlainPut hx1 h_D121) (fun r149 h_r149 => ?_)
            refine wp_if (fun c_15 => ?_) (fun c_15 => ?_)
            ·
              have h_16 : Rg 0 0 _ := rg_eq1 h_r149 rc_0 c_15 (by decide)
              refine wp_cqs (s_X0_judgeChange hx1 h_2.1 h_2.2 htt h_D121) (fun r152 D153 q_r152 => ?_)
              obtain ⟨h_r152, h_D153⟩ := q_r152
              exact ⟨_, rfl, (rg_w h_r152 (by decide)), ⟨fun _ => h_D153, h_D153.log⟩⟩
            ·
              have h_17 : Rg 1 1 _ := rg_ne1 h_r149 rc_0 c_15 (by decide)
              refine wp_cqs (s_X0_judgePut hx1 (rg_w rc_1 (by decide)) h_2.1 h_2.2 htt h_D121) (fun r155 D156 q_r155 => ?_)
              obtain ⟨h_r155, h_D156⟩ := q_r155
              exact ⟨_, rfl, (rg_w h_r155 (by decide)), ⟨fun _ => h_D156, h_D156.log⟩⟩
          ·
            have h_18 : Rg 4 7 _ := rg_ne1 h_12 rc_3 c_13 (by decide)
            refine wp_if (fun c_19 => ?_) (fun c_19 => ?_)
            ·
              have h_20 : Rg 4 4 _ := rg_eq1 h_18 rc_4 c_19 (by decide)
              exact s_X0_judgeSlot_141 hx1 h_2.1 h_2.2 (p_r111 c_1 (Or.inl ((congrArg (fun z => z &&& 7) (h_D121.p 2 _ rfl)).symm.trans c_19))) htt h_D121
            ·
              have h_21 : Rg 5 7 _ := rg_ne1 h_18 rc_4 c_19 (by decide)
              refine wp_if (fun c_22 => ?_) (fun c_22 => ?_)
              ·
                have h_23 : Rg 5 5 _ := rg_eq1 h_21 rc_5 c_22 (by decide)
                exact s_X0_judgeSlot_147 hx1 h_2.1 h_2.2 htt hfz h_D121
              ·
                have h_24 : Rg 6 7 _ := rg_ne1 h_21 rc_5 c_22 (by decide)
                refine wp_if (fun c_25 => ?_) (fun c_25 => ?_)
                ·
                  have h_26 : Rg 6 6 _ := rg_eq1 h_24 rc_6 c_25 (by decide)
                  exact s_X0_judgeSlot_147 hx1 h_2.1 h_2.2 htt hfz h_D121
                ·
                  have h_27 : Rg 7 7 _ := rg_ne1 h_24 rc_6 c_25 (by decide)
                  refine wp_if (fun c_28 => ?_) (fun c_28 => ?_)
                  ·
                    exact s_X0_judgeSlot_141 hx1 h_2.1 h_2.2 (p_r111 c_1 (Or.inr ((congrArg (fun z => z &&& 7) (h_D121.p 2 _ rfl)).symm.trans c_28))) htt h_D121
                  ·
                    have h_29 : Rg 8 6 _ := rg_ne1 h_27 rc_7 c_28 (by decide)
                    exact (rg_false h_29 (by decide)).elim
  ·
    have h_30 : Rg 1 1 _ := rg_ne1 h_r111 rc_0 c_1 (by decide)
    exact ⟨_, rfl, (rg_w rc_1 (by decide)), ⟨fun _ => h, h.log⟩⟩
set_option maxRecDepth 100000 in
theorem s_X0_canGoOn {g : gh} {S : sh} {D : dt}  {x1 : Int32} {x2 : Int64} (hx1 : Rg 0 199 x1) (htt : g.1 9 = 0) (h : Inv g S D) : wp (f_X0_canGoOn S D 14 x1 x2) (fun q => Rg 0 1 q ∧ (q ≠ 0 → RgL 0 199 x2)) := by
  unfold f_X0_canGoOn
  refine wp_if (fun c_1 => ?_) (fun c_1 => ?_)
  ·
    have h_2 : RgL (-9223372036854775808) 199 _ := rgl_le1 (rgl_top _) (rgl_of hx1 : RgL 0 199 _) ((lg_cmp_le _ _).mp c_1) (by decide)
    exact ⟨_, rfl, (rg_w rc_0 (by decide)), (fun ne => absurd rfl ne)⟩
  ·
    have h_3 : RgL 1 9223372036854775807 _ := rgl_lt2 (rgl_of hx1 : RgL 0 199 _) (rgl_top _) (nle64 (fun q => c_1 ((lg_cmp_le _ _).mpr q))) (by decide)
    refine wp_rq (iR_14_0 h) ?_
    refine wp_if (fun c_4 => ?_) (fun c_4 => ?_)
    ·
      exact ⟨_, rfl, (rg_w rc_0 (by decide)), (fun ne => absurd rfl ne)⟩
    ·
      have h_5 : RgL 1 199 _ := rgl_lt1 h_3 (rgl_of (iF_1_5 h) : RgL 0 200 _) (nle64 (fun q => c_4 ((lg_cmp_ge _ _).mpr q))) (by decide)
      have h_6 : RgL 2 200 _ := rgl_lt2 h_3 (rgl_of (iF_1_5 h) : RgL 0 200 _) (nle64 (fun q => c_4 ((lg_cmp_ge _ _).mpr q))) (by decide)
      have h_7 : Rg 2 200 _ := rg_of32 h_6
      refine wp_rq (iR_14_3 h) ?_
      refine wp_ix (in_rg (rg_of h_5 (by decide) : Rg 1 199 _) (iA_16 h) (by decide)) ?_
      refine wp_if (fun c_8 => ?_) (fun c_8 => ?_)
      ·
        have h_9 : Rg 0 0 _ := rg_eq1 (rg_top _) rc_0 c_8 (by decide)
        exact ⟨_, rfl, (rg_w rc_1 (by decide)), (fun _ => (rgl_w h_5 (by decide)))⟩
      ·
        exact ⟨_, rfl, (rg_w rc_0 (by decide)), (fun ne => absurd rfl ne)⟩
def alP (g : gh) (S : sh) (q : Unit × sh × dt) : Prop := Inv g q.2.1 q.2.2 ∧ Ks S q.2.1
theorem q_comeTo_22 {g : gh} {S : sh} {D : dt} {x1 : Int32} {o2 x : Nat} (hx1 : Rg 0 199 x1) (k2 : sK S o2 = 4) (e : gR D 15 x1.toNatClampNeg = some x) (htt : g.1 9 = 0) (h : Inv g S D) : wp (f_X0_comeTo_22 14 x1 o2 S D) (alP g S) := by
  unfold f_X0_comeTo_22
  have i := in_rg hx1 (iA_15 h) (by decide)
  have k := iSce h e
  refine wp_rq (iR_14_2 h) (wp_ix i (wp_oqs e (wp_if (fun _ => ?_) (fun _ => ?_))))
  · exact wp_rq (iR_14_2 h) (wp_ix i (wp_oqs e (wp_cqs (s_X5_copyFrom k k2 htt h) (fun _ D1 h1 => ⟨_, rfl, h1, Ks.rf S⟩))))
  · exact wp_rq (iR_14_2 h) (wp_ix i (wp_oqs e (wp_cqs (s_X5_joinWith k k2 h) (fun _ D1 h1 => ⟨_, rfl, h1, Ks.rf S⟩))))
theorem q_comeTo {g : gh} {S : sh} {D : dt} {x1 : Int32} {o2 : Nat} (hx1 : Rg 0 199 x1) (k2 : sK S o2 = 4) (htt : g.1 9 = 0) (h : Inv g S D) : wp (f_X0_comeTo 14 x1 o2 S D) (alP g S) := by
  unfold f_X0_comeTo
  have i := in_rg hx1 (iA_15 h) (by decide)
  refine wp_rq (iR_14_2 h) (wp_ix i (wp_oq (fun e => wp_rq (iR_14_2 h) ?_) (fun x e => q_comeTo_22 hx1 k2 e htt h)))
  have hn := inv_newScene h (tn_lt hx1 (by decide)) e
  unfold f_X0_comeTo_17 f_X0_comeTo_21
  rw [ns_eq]
  have i2 : vp_in x1 (sA (nsS S) 15) := in_rg hx1 (iA_15 hn) (by decide)
  show wp (ix x1 (sA (nsS S) 15) _) _
  refine wp_ix i2 (wp_nmI (fun D1 e1 => ?_))
  subst e1
  have c := q_comeTo_22 (x := sN S) hx1 (Ks.ns h _ _ k2 (by decide)) (by rw [gR_pR, if_pos ⟨rfl, rfl⟩]) htt hn
  exact wp_mono c (fun q p => ⟨p.1, (Ks.ns h).tr p.2⟩)
def glP (g : gh) (S : sh) (q : Int32 × sh × dt) : Prop := Rg 0 6 q.1 ∧ Inv g q.2.1 q.2.2 ∧ Ks S q.2.1
theorem r06_0 : Rg 0 6 (0 : Int32) := by decide
theorem r06_6 : Rg 0 6 (6 : Int32) := by decide
theorem rgl_32 {x : Int64} (p : RgL 0 199 x) : Rg 0 199 x.toInt32 := rg_of p (by decide)
theorem q_goOn_61 {g : gh} {S : sh} {D : dt} (hj : gI D 14 10 ≠ 0 → RgL 0 199 (gL D 14 11)) (htt : g.1 9 = 0) (h : Inv g S D) : wp (f_X0_goOnBothWays_61 14 S D) (glP g S) := by
  unfold f_X0_goOnBothWays_61 f_X0_goOnBothWays_81
  exact wp_if (fun _ => ⟨_, rfl, r06_0, h, Ks.rf S⟩) (fun c => wp_rq (iR_14_5 h) (wp_c3s (q_comeTo (rgl_32 (hj c)) (iK_22 h) htt h) (fun _ S1 D1 p => ⟨_, rfl, r06_0, p.1, p.2⟩)))
def fzg (g : gh) (D : dt) : gh := (fun n => if n = 12 then 1 else if n = 13 then (gL D 14 9).toInt else if n = 14 then (gL D 14 11).toInt else g.1 n, fun o j => if o = 14 then gI D 14 j else if o = 60 then gI D 60 j else if o = 28 then gI D 28 j else g.2 o j)
theorem isP_ne {o a : Nat} (ho : isP o = true) (ha : isP a = false) : o ≠ a := by
  rintro rfl
  rw [ha] at ho
  cases ho
theorem fz12 (g : gh) (D : dt) : (fzg g D).1 12 ≠ 0 := by
  show (1 : Int) ≠ 0
  decide
theorem Inv.fz {g : gh} {S : sh} {D : dt} (h : Inv g S D) : Inv (fzg g D) S D := by
  obtain ⟨a1, a2, a3, a4, a5, a6, a7, a8, a9, a10, a11⟩ := h
  refine ⟨a1, a2, a3, a4, a5, a6, a7, fun o j ho => ?_, a9, a10, fun _ => ⟨rfl, rfl, rfl, rfl, fun j e => e, rfl⟩⟩
  show gI D o j = if o = 14 then gI D 14 j else if o = 60 then gI D 60 j else if o = 28 then gI D 28 j else g.2 o j
  rw [if_neg (isP_ne ho rfl), if_neg (isP_ne ho rfl), if_neg (isP_ne ho rfl)]
  exact a8 o j ho
theorem Inv.unfz {g : gh} {S : sh} {D D0 : dt} (h : Inv (fzg g D0) S D) (hz : g.1 12 = 0) : Inv g S D := by
  obtain ⟨a1, a2, a3, a4, a5, a6, a7, a8, a9, a10, a11⟩ := h
  refine ⟨a1, a2, a3, a4, a5, a6, a7, fun o j ho => ?_, a9, a10, fun q => absurd hz q⟩
  have e : gI D o j = if o = 14 then gI D0 14 j else if o = 60 then gI D0 60 j else if o = 28 then gI D0 28 j else g.2 o j := a8 o j ho
  rw [if_neg (isP_ne ho rfl), if_neg (isP_ne ho rfl), if_neg (isP_ne ho rfl)] at e
  exact e
theorem q_goOn_41 {g : gh} {S : sh} {D : dt} (hg : gI D 14 8 ≠ 0 → RgL 0 199 (gL D 14 9)) (hj : gI D 14 10 ≠ 0 → RgL 0 199 (gL D 14 11)) (htt : g.1 9 = 0) (hfz : g.1 12 = 0) (h : Inv g S D) : wp (f_X0_goOnBothWays_41 14 S D) (glP g S) := by
  unfold f_X0_goOnBothWays_41
  refine wp_if (fun _ => q_goOn_61 hj htt h) (fun c => wp_rq (iR_14_4 h) (wp_c3s (q_comeTo (g := fzg g D) (rgl_32 (hg c)) (iK_17 h) htt h.fz) (fun _ S1 D1 p => ?_)))
  obtain ⟨p1, p2⟩ := p
  have p1 : Inv (fzg g D) S1 D1 := p1
  have f := p1.f (fz12 g D)
  have f2 : gI D1 14 10 = gI D 14 10 := f.2.1
  have f4 : (gL D1 14 11).toInt = (gL D 14 11).toInt := f.2.2.2.1
  refine wp_mono (q_goOn_61 (g := g) (S := S1) (D := D1) (fun n => ?_) htt (p1.unfz hfz)) (fun q r => ⟨r.1, r.2.1, Ks.tr p2 r.2.2⟩)
  rw [f2] at n
  have := hj n
  unfold RgL
  rw [f4]
  exact this
theorem q_goOn_19 {g : gh} {S : sh} {D : dt} {x1 : Int32} (hx1 : Rg 0 199 x1) (hg : gI D 14 8 ≠ 0 → RgL 0 199 (gL D 14 9)) (htt : g.1 9 = 0) (hfz : g.1 12 = 0) (h : Inv g S D) : wp (f_X0_goOnBothWays_19 14 x1 S D) (glP g S) := by
  unfold f_X0_goOnBothWays_19
  exact wp_if (fun c => q_goOn_41 hg (fun n => absurd c n) htt hfz h) (fun _ => wp_pqs (s_X0_canGoOn hx1 htt h) (fun r p => wp_if (fun _ => ⟨_, rfl, r06_6, h, Ks.rf S⟩) (fun c => q_goOn_41 hg (fun _ => p.2 c) htt hfz h)))
theorem q_goOn {g : gh} {S : sh} {D : dt} {x1 : Int32} (hx1 : Rg 0 199 x1) (htt : g.1 9 = 0) (hfz : g.1 12 = 0) (h : Inv g S D) : wp (f_X0_goOnBothWays 14 x1 S D) (glP g S) := by
  unfold f_X0_goOnBothWays
  exact wp_if (fun c => q_goOn_19 hx1 (fun n => absurd c n) htt hfz h) (fun _ => wp_pqs (s_X0_canGoOn hx1 htt h) (fun r p => wp_if (fun _ => ⟨_, rfl, r06_6, h, Ks.rf S⟩) (fun c => q_goOn_19 hx1 (fun _ => p.2 c) htt hfz h)))
def foP (g : gh) (q : Int32 × sh × dt) : Prop := Rg 0 6 q.1 ∧ Inv (lgg g) q.2.1 q.2.2
theorem q_follow_79 {g : gh} (htt : g.1 9 = 0) (hfz : g.1 12 = 0) : ∀ (n : Nat) (x1 : Int32) (S : sh) (D : dt), Rg 0 200 x1 → 200 - x1.toInt < n → Inv g S D → wp (f_X0_follow_79 n 14 x1 S D) (foP g) := by
  intro n
  induction n with
  | zero =>
    intro x1 S D hx hm h
    exact (ms_0 hx (by decide) hm).elim
  | succ n ih =>
    intro x1 S D hx hm h
    rw [f_X0_follow_79.eq_2]
    refine wp_rq (iR_14_0 h) (wp_if (fun _ => ⟨_, rfl, r06_0, h.log⟩) (fun c => ?_))
    have hx' : Rg 0 199 x1 := rg_lt1 hx (iF_1_5 h) (nle32 c) (by decide)
    have go : ∀ (r : Int32) (S' : sh) (D' : dt), Rg 0 6 r → (r = 0 → Inv g S' D') → Inv (lgg g) S' D' → wp (f_X0_follow_125 (f_X0_follow_79 n) 14 x1 r S' D') (foP g) := by
      intro r S' D' hr h0 hl
      unfold f_X0_follow_125
      refine wp_if (fun c => wp_nmI (fun y ey => ?_)) (fun c => wp_nmI (fun D1 e1 => ⟨_, rfl, hr, ?_⟩))
      · exact ih y S' D' (rg_eq ey (rg_add hx' (by decide : Rg 1 1 (1 : Int32)) (by decide))) (by rw [ey]; exact ms_up hx' (by decide) hm) (h0 c)
      · show Inv (lgg g) S' D1
        rw [e1]
        exact inv_i14 hl (Or.inr (by decide)) (rg_top _)
    refine wp_pqs (s_X0_sceneAt hx' h) (fun r p => wp_oq (fun _ => ?_) (fun o eo => ?_))
    · unfold f_X0_follow_110
      exact wp_oq (fun _ => wp_if (fun _ => go 0 S D r06_0 (fun _ => h) h.log) (fun _ => go 0 S D r06_0 (fun _ => h) h.log)) (fun x e => nomatch e)
    · refine wp_cqs (s_X0_judgeSlot hx' (p o eo) htt hfz h) (fun r2 D2 q => ?_)
      obtain ⟨q1, q2, q3⟩ := q
      unfold f_X0_follow_110
      refine wp_oqs rfl (wp_if (fun c => wp_c3s (q_goOn hx' htt hfz (q2 c)) (fun r3 S3 D3 w => ?_)) (fun c => go r2 S D2 q1 (fun e => absurd e c) q3))
      unfold f_X0_follow_124
      obtain ⟨w1, w2, -⟩ := w
      exact go r3 S3 D3 w1 (fun _ => w2) (Inv.log w2)
theorem nul_le {D : dt} {j x : Nat} : nul (pR D 15 j (some x)) ≤ nul D := by
  unfold nul
  refine List.countP_mono_left (fun i _ q => ?_)
  rw [gR_pR] at q
  split at q
  · cases q
  · exact q
theorem inv_pR15 {g : gh} {S : sh} {D : dt} {j x : Nat} (h : Inv g S D) (k : sK S x = 4) : Inv g S (pR D 15 j (some x)) := by
  obtain ⟨a1, a2, a3, a4, a5, a6, a7, a8, a9, a10, a11⟩ := h
  have ne : ∀ a b, a ≠ 15 → gR (pR D 15 j (some x)) a b = gR D a b := fun a b n => by rw [gR_pR, if_neg (fun q => n q.1)]
  have n15 : ∀ a κ, sK S a = κ → κ ≠ 204 → a ≠ 15 := fun a κ e n q => by
    rw [q, (a1.2.1 15 (by decide)).1] at e
    exact n e.symm
  refine ⟨a1, a2, a3, fun a b ha => ?_, fun a ha => ?_, fun a ha => ?_, a7, a8, ?_, a10, a11⟩
  · rw [gR_pR]
    split
    · rename_i q
      obtain ⟨rfl, rfl⟩ := q
      intro y e
      cases e
      exact k
    · exact a4 a b ha
  · simp only [ne a _ (n15 a 6 ha (by decide))]
    exact a5 a ha
  · simp only [ne a _ (n15 a 4 ha (by decide))]
    exact a6 a ha
  · have := nul_le (D := D) (j := j) (x := x)
    unfold vM at a9 ⊢
    omega
theorem q_follow_63 {g : gh} {S : sh} {D : dt} {x : Nat} (htt : g.1 9 = 0) (hfz : g.1 12 = 0) (h : Inv g S (pR D 15 (0 : Int32).toNatClampNeg (some x))) : wp (f_X0_follow_63 14 15 0 (some x) S D) (foP g) := by
  have i0 := in_rg (by decide : Rg 0 0 (0 : Int32)) (iA_15 h) (by decide)
  have e : gR (pR D 15 (0 : Int32).toNatClampNeg (some x)) 15 (0 : Int32).toNatClampNeg = some x := by rw [gR_pR, if_pos ⟨rfl, rfl⟩]
  have k := iSce h e
  unfold f_X0_follow_63
  refine wp_oqs rfl (wp_ix i0 (wp_nmI (fun D1 e1 => ?_)))
  subst e1
  refine wp_rq (iR_14_2 h) (wp_ix i0 (wp_oqs e (wp_rq (iR_14_4 h) (wp_cqs (s_X5_copyFrom k (iK_17 h) htt h) (fun _ D2 h2 => wp_nmI (fun y ey => ?_))))))
  subst ey
  exact q_follow_79 htt hfz LF 0 S D2 (by decide) (by decide) h2
theorem Inv.loosen {g : gh} {S : sh} {D : dt} (h : Inv (lgg (tig g)) S D) (hl : g.1 9 ≠ 0) : Inv g S D := by
  obtain ⟨a1, a2, a3, a4, a5, a6, a7, a8, a9, a10, a11⟩ := h
  refine ⟨a1, a2, a3, a4, a5, fun o k => ⟨(a6 o k).1, fun p hp e => ?_⟩, a7, a8, a9, a10, a11⟩
  obtain ⟨s1, s2⟩ := (a6 o k).2 p hp e
  refine ⟨s1, ?_⟩
  rcases s2 with ⟨q, -⟩ | s2
  · exact Or.inl ⟨q, hl⟩
  · exact Or.inr s2
theorem q_follow {g : gh} {S : sh} {D : dt} (hl : g.1 9 ≠ 0) (hfz : g.1 12 = 0) (h : Inv g S D) : wp (f_X0_follow 14 S D) (fun q => Inv g q.2.1 q.2.2) := by
  unfold f_X0_follow
  refine wp_cqs (s_X0_forgetScenes h) (fun _ D1 h1 => wp_rq (iR_14_0 h1) (wp_if (fun _ => wp_nmI (fun D2 e2 => ⟨_, rfl, ?_⟩)) (fun _ => ?_)))
  · show Inv g S D2
    rw [e2]
    exact inv_i14 h1 (Or.inr (by decide)) (rg_top _)
  · refine wp_cqs (s_X0_markSeconds h1) (fun _ D2 h2 => wp_rq (iR_14_4 h2) (wp_cqs (s_X5_begin h2) (fun _ D3 h3 => ?_)))
    have t0 : (tig g).1 9 = 0 := rfl
    have i0 := in_rg (by decide : Rg 0 0 (0 : Int32)) (iA_15 h3) (by decide)
    have fin : ∀ {q : Int32 × sh × dt}, foP (tig g) q → Inv g q.2.1 q.2.2 := fun p => p.2.loosen hl
    refine wp_rq (iR_14_2 h3) (wp_rq (iR_14_2 h3) (wp_ix i0 (wp_oq (fun e => ?_) (fun x e => ?_))))
    · unfold f_X0_follow_50 f_X0_follow_54
      rw [ns_eq]
      exact wp_mono (q_follow_63 (g := tig g) (S := nsS S) (D := nsD S D3) (x := sN S) t0 hfz (inv_newScene h3 (by decide) e)) (fun q p => fin p)
    · exact wp_rq (iR_14_2 h3) (wp_ix i0 (wp_oqs e (wp_mono (q_follow_63 (g := tig g) t0 hfz (inv_pR15 h3 (iSce h3 e))) (fun q p => fin p))))
set_option maxRecDepth 100000 in
theorem s_X8_fitsSlot  {x0 : Int32} {x1 : Int32} {x2 : Int32}  : wp (f_X8_fitsSlot x0 x1 x2) (fun q => Rg 0 1 q ∧ (q ≠ 0 → Rg 0 255 x0 ∧ Rg 0 255 x1 ∧ Rg (-32768) 32767 x2)) := by
  unfold f_X8_fitsSlot
  refine wp_if (fun c_1 => ?_) (fun c_1 => ?_)
  ·
    have h_2 : Rg (-2147483648) (-1) _ := rg_lt1 (rg_top _) rc_0 c_1 (by decide)
    exact ⟨_, rfl, (rg_w rc_0 (by decide)), (fun ne => absurd rfl ne)⟩
  ·
    have h_3 : Rg 0 2147483647 _ := rg_le2 rc_0 (rg_top _) (nlt32 c_1) (by decide)
    refine wp_if (fun c_4 => ?_) (fun c_4 => ?_)
    ·
      have h_5 : Rg 256 2147483647 _ := rg_lt2 rc_255 h_3 c_4 (by decide)
      exact ⟨_, rfl, (rg_w rc_0 (by decide)), (fun ne => absurd rfl ne)⟩
    ·
      have h_6 : Rg 0 255 _ := rg_le1 h_3 rc_255 (nlt32 c_4) (by decide)
      refine wp_if (fun c_7 => ?_) (fun c_7 => ?_)
      ·
        have h_8 : Rg (-2147483648) (-1) _ := rg_lt1 (rg_top _) rc_0 c_7 (by decide)
        exact ⟨_, rfl, (rg_w rc_0 (by decide)), (fun ne => absurd rfl ne)⟩
      ·
        have h_9 : Rg 0 2147483647 _ := rg_le2 rc_0 (rg_top _) (nlt32 c_7) (by decide)
        refine wp_if (fun c_10 => ?_) (fun c_10 => ?_)
        ·
          have h_11 : Rg 256 2147483647 _ := rg_lt2 rc_255 h_9 c_10 (by decide)
          exact ⟨_, rfl, (rg_w rc_0 (by decide)), (fun ne => absurd rfl ne)⟩
        ·
          have h_12 : Rg 0 255 _ := rg_le1 h_9 rc_255 (nlt32 c_10) (by decide)
          refine wp_if (fun c_13 => ?_) (fun c_13 => ?_)
          ·
            have h_14 : Rg (-2147483648) (-32769) _ := rg_lt1 (rg_top _) rc_m32768 c_13 (by decide)
            exact ⟨_, rfl, (rg_w rc_0 (by decide)), (fun ne => absurd rfl ne)⟩
          ·
            have h_15 : Rg (-32768) 2147483647 _ := rg_le2 rc_m32768 (rg_top _) (nlt32 c_13) (by decide)
            refine wp_if (fun c_16 => ?_) (fun c_16 => ?_)
            ·
              have h_17 : Rg 32768 2147483647 _ := rg_lt2 rc_32767 h_15 c_16 (by decide)
              exact ⟨_, rfl, (rg_w rc_0 (by decide)), (fun ne => absurd rfl ne)⟩
            ·
              have h_18 : Rg (-32768) 32767 _ := rg_le1 h_15 rc_32767 (nlt32 c_16) (by decide)
              exact ⟨_, rfl, (rg_w rc_1 (by decide)), (fun _ => ⟨h_6, h_12, h_18⟩)⟩
def upN (g : gh) (n : Nat) (v : Int) : gh := (fun m => if m = n then v else g.1 m, g.2)
def fit (x1 x2 x3 : Int32) : Prop := Rg 0 255 x1 ∧ Rg 0 255 x2 ∧ Rg (-32768) 32767 x3
/-- what feed answers, and the count behind it -/
def feP (c : Int) (x1 x2 x3 : Int32) (r c' : Int) : Prop := (fit x1 x2 x3 → c < 200 → r = c ∧ c' = c + 1) ∧ (fit x1 x2 x3 → ¬ c < 200 → r = -4 ∧ c' = c) ∧ (¬ fit x1 x2 x3 → r = -2 ∧ c' = c)
theorem fits_iff {x0 x1 x2 : Int32} : wp (f_X8_fitsSlot x0 x1 x2) (fun q => (q = 0 → ¬ fit x0 x1 x2) ∧ (q ≠ 0 → fit x0 x1 x2)) := by
  unfold f_X8_fitsSlot
  have z : ∀ {P : Prop}, (0 : Int32) ≠ 0 → P := fun ne => absurd rfl ne
  have l0 : (0 : Int32).toInt = 0 := rfl
  have l1 : (255 : Int32).toInt = 255 := rfl
  have l2 : (-32768 : Int32).toInt = -32768 := rfl
  have l3 : (32767 : Int32).toInt = 32767 := rfl
  have L : ∀ {a b : Int32}, a < b → a.toInt < b.toInt := fun c => Int32.lt_iff_toInt_lt.mp c
  have N : ∀ {a b : Int32}, ¬ a < b → b.toInt ≤ a.toInt := fun c => Int32.le_iff_toInt_le.mp (nlt32 c)
  refine wp_if (fun c => ⟨_, rfl, fun _ q => ?_, z⟩) (fun c1 => wp_if (fun c => ⟨_, rfl, fun _ q => ?_, z⟩) (fun c2 => wp_if (fun c => ⟨_, rfl, fun _ q => ?_, z⟩) (fun c3 => wp_if (fun c => ⟨_, rfl, fun _ q => ?_, z⟩) (fun c4 => wp_if (fun c => ⟨_, rfl, fun _ q => ?_, z⟩) (fun c5 => wp_if (fun c => ⟨_, rfl, fun _ q => ?_, z⟩) (fun c6 => ⟨_, rfl, fun e => absurd e (by decide), fun _ => ?_⟩))))))
  · have := L c
    have := q.1.1
    omega
  · have := L c
    have := q.1.2
    omega
  · have := L c
    have := q.2.1.1
    omega
  · have := L c
    have := q.2.1.2
    omega
  · have := L c
    have := q.2.2.1
    omega
  · have := L c
    have := q.2.2.2
    omega
  · have d1 := N c1
    have d2 := N c2
    have d3 := N c3
    have d4 := N c4
    have d5 := N c5
    have d6 := N c6
    exact ⟨⟨by omega, by omega⟩, ⟨by omega, by omega⟩, ⟨by omega, by omega⟩⟩
/-- the class' count is written -/
theorem inv_cnt {g : gh} {S : sh} {D : dt} {v : Int32} (h : Inv g S D) (hv : Rg 0 200 v) : Inv (upN g 0 v.toInt) S (pI D 1 5 v) := by
  have e : ∀ a b, ¬ (a = 1 ∧ b = 5) → gI (pI D 1 5 v) a b = gI D a b := fun a b n => by rw [gI_pI, if_neg n]
  obtain ⟨a1, a2, a3, a4, a5, a6, ⟨b1, b2⟩, a8, a9, a10, a11⟩ := id h
  refine ⟨a1, fun a b ha => ?_, a3, a4, fun a k => ?_, fun a k => ?_, ⟨hv, b2⟩, fun a b ha => ?_, a9, ⟨fun b => ?_, fun b => ?_, fun b => ?_, ?_⟩, fun hz => ?_⟩
  · by_cases q : a = 1 ∧ b = 5
    · obtain ⟨rfl, rfl⟩ := q
      rw [gI_pI, if_pos ⟨rfl, rfl⟩]
      exact ⟨Int.le_refl _, Int.le_refl _⟩
    · rw [e a b q]
      have eb : bI (upN g 0 v.toInt) a b = bI g a b := by
        unfold bI
        split <;> first
          | rfl
          | (split <;> first
              | rfl
              | exact absurd ⟨rfl, rfl⟩ q)
      rw [eb]
      exact a2 a b ha
  · have n : a ≠ 1 := k_at h k 1 (by decide) (by decide)
    simp only [e a _ (fun q => n q.1)]
    exact a5 a k
  · have n : a + 1 ≠ 1 := sc_ne h k (by decide) (by decide) (by decide)
    refine ⟨(a6 a k).1, fun p hp => ?_⟩
    rw [e (a + 1) p (fun q => n q.1)]
    exact (a6 a k).2 p hp
  · rw [e a b (by rintro ⟨rfl, -⟩; cases ha)]
    exact a8 a b ha
  · rw [e 60 b (fun q => by omega)]
    exact a10.1 b
  · rw [e 49 b (fun q => by omega)]
    exact a10.2.1 b
  · rw [e 55 b (fun q => by omega)]
    exact a10.2.2.1 b
  · rw [e 28 47 (fun q => by omega)]
    exact a10.2.2.2
  · obtain ⟨f1, f2, f3, f4, f5, f6⟩ := a11 hz
    exact ⟨(e 14 8 (fun q => by omega)).trans f1, (e 14 10 (fun q => by omega)).trans f2, f3, f4, fun b q => f5 b ((e 60 b (fun q => by omega)).symm.trans q), (e 28 53 (fun q => by omega)).trans f6⟩
/-- all ghosts but one stay -/
def Gx (g g' : gh) (n : Nat) : Prop := ∀ m, m ≠ n → g'.1 m = g.1 m
theorem q_feed {g : gh} {S : sh} {x1 x2 x3 x4 : Int32} {D : dt} (h : Inv g S D) : wp (f_X8_feed S 0 x1 x2 x3 x4 D) (fun q => ∃ g', Inv g' S q.2 ∧ Gx g g' 0 ∧ feP (g.1 0) x1 x2 x3 q.1.toInt (g'.1 0)) := by
  unfold f_X8_feed
  have ec := iG_1_5 h
  refine wp_pqs fits_iff (fun r p => wp_if (fun c => ⟨_, rfl, g, h, fun _ _ => rfl, ?_⟩) (fun c => wp_rq (iR_0_0 h) (wp_if (fun c2 => ?_) (fun c2 => ⟨_, rfl, g, h, fun _ _ => rfl, ?_⟩))))
  · have n := p.1 c
    exact ⟨fun f => absurd f n, fun f => absurd f n, fun _ => ⟨rfl, rfl⟩⟩
  · have f := p.2 c
    have c2 := Int32.lt_iff_toInt_lt.mp c2
    have l : (200 : Int32).toInt = 200 := rfl
    have hc := iF_1_5 h
    have hy : Rg 0 199 (gI D 1 5) := ⟨hc.1, by omega⟩
    refine wp_rq (iR_0_0 h) (wp_nmI (fun y ey => wp_rq (iR_0_0 h) (wp_nmI (fun D1 e1 => ?_))))
    have hy' : Rg 0 199 y := rg_eq ey hy
    have a1 : Rg 0 200 (y + 1) := rg_add hy' (by decide : Rg 1 1 (1 : Int32)) (by decide)
    have ea : (y + 1).toInt = y.toInt + 1 := i32_add hy' (by decide : Rg 1 1 (1 : Int32)) (by decide)
    have h1 : Inv (upN g 0 (y + 1).toInt) S D1 := by rw [e1]; exact inv_cnt h a1
    refine wp_rq (iR_0_0 h1) (wp_cqs (q_write4 hy' f.1 f.2.2 h1) (fun _ D2 q => ?_))
    obtain ⟨g', h2, gs⟩ := q
    refine wp_rq (iR_0_2 h2) (wp_nmI (fun D3 e3 => ⟨_, rfl, g', ?_, ?_, ?_⟩))
    · show Inv g' S D3
      rw [e3]
      exact inv_i11 h2 (rg_top _)
    · intro m hm
      rw [gs]
      show (if m = 0 then _ else g.1 m) = g.1 m
      rw [if_neg hm]
    · have g0 : g'.1 0 = (y + 1).toInt := by rw [gs]; rfl
      show feP (g.1 0) x1 x2 x3 y.toInt (g'.1 0)
      rw [g0, ea]
      have : y.toInt = g.1 0 := by rw [ey]; exact ec
      refine ⟨fun _ _ => ⟨this, by omega⟩, fun _ n => absurd (by omega) n, fun n => absurd f n⟩
  · have f := p.2 c
    have c2 := Int32.le_iff_toInt_le.mp (nlt32 c2)
    have l : (200 : Int32).toInt = 200 := rfl
    exact ⟨fun _ q => by omega, fun _ _ => ⟨rfl, rfl⟩, fun n => absurd f n⟩
def alT (c : Int) (i x1 x2 x3 : Int32) (r : Int) : Prop := (0 ≤ i.toInt ∧ i.toInt < c → fit x1 x2 x3 → r = 1) ∧ (0 ≤ i.toInt ∧ i.toInt < c → ¬ fit x1 x2 x3 → r = -2) ∧ (¬ (0 ≤ i.toInt ∧ i.toInt < c) → r = -1)
theorem has_iff {g : gh} {S : sh} {D : dt} {x1 : Int32} (h : Inv g S D) : wp (f_X4_has S D 1 x1) (fun q => (q = 0 → ¬ (0 ≤ x1.toInt ∧ x1.toInt < g.1 0)) ∧ (q ≠ 0 → 0 ≤ x1.toInt ∧ x1.toInt < g.1 0)) := by
  unfold f_X4_has
  have ec := iG_1_5 h
  have l0 : (0 : Int32).toInt = 0 := rfl
  refine wp_if (fun c => ⟨_, rfl, fun _ q => ?_, fun ne => absurd rfl ne⟩) (fun c => wp_if (fun c2 => ⟨_, rfl, fun _ q => ?_, fun ne => absurd rfl ne⟩) (fun c2 => ⟨_, rfl, fun e => absurd e (by decide), fun _ => ?_⟩))
  · have := Int32.lt_iff_toInt_lt.mp c
    omega
  · have := Int32.le_iff_toInt_le.mp c2
    omega
  · have := Int32.le_iff_toInt_le.mp (nlt32 c)
    have := Int32.lt_iff_toInt_lt.mp (nle32 c2)
    omega
theorem q_alter {g : gh} {S : sh} {x1 x2 x3 x4 x5 : Int32} {D : dt} (h : Inv g S D) : wp (f_X8_alter S 0 x1 x2 x3 x4 x5 D) (fun q => ∃ g', Inv g' S q.2 ∧ Gs g g' ∧ alT (g.1 0) x1 x2 x3 x4 q.1.toInt) := by
  unfold f_X8_alter
  refine wp_rq (iR_0_0 h) (wp_pqs (has_iff h) (fun r p => wp_if (fun c => ⟨_, rfl, g, h, rfl, ?_⟩) (fun c => wp_pqs fits_iff (fun r2 p2 => wp_if (fun c2 => ⟨_, rfl, g, h, rfl, ?_⟩) (fun c2 => ?_)))))
  · have n := p.1 c
    exact ⟨fun q => absurd q n, fun q => absurd q n, fun _ => rfl⟩
  · exact ⟨fun _ f => absurd f (p2.1 c2), fun _ _ => rfl, fun q => absurd (p.2 c) q⟩
  · have i := p.2 c
    have f := p2.2 c2
    have hc := iF_1_5 h
    have ec := iG_1_5 h
    refine wp_rq (iR_0_0 h) (wp_cqs (q_write4 ⟨i.1, by have := hc.2; omega⟩ f.1 f.2.2 h) (fun _ D2 q => ?_))
    obtain ⟨g', h2, gs⟩ := q
    refine wp_rq (iR_0_2 h2) (wp_nmI (fun D3 e3 => ⟨_, rfl, g', ?_, gs, ?_⟩))
    · show Inv g' S D3
      rw [e3]
      exact inv_i11 h2 (rg_top _)
    · exact ⟨fun _ _ => rfl, fun _ n => absurd f n, fun n => absurd i n⟩
def cuT (c : Int) (n : Int32) (r c' : Int) : Prop := (0 ≤ n.toInt ∧ n.toInt ≤ c → r = c ∧ c' = n.toInt) ∧ (¬ (0 ≤ n.toInt ∧ n.toInt ≤ c) → r = -2 ∧ c' = c)
theorem q_cut {g : gh} {S : sh} {x1 : Int32} {D : dt} (h : Inv g S D) : wp (f_X8_cut S 0 x1 D) (fun q => ∃ g', Inv g' S q.2 ∧ Gx g g' 0 ∧ cuT (g.1 0) x1 q.1.toInt (g'.1 0)) := by
  unfold f_X8_cut
  have ec := iG_1_5 h
  have l0 : (0 : Int32).toInt = 0 := rfl
  have hc := iF_1_5 h
  refine wp_rq (iR_0_0 h) (wp_nmI (fun y ey => wp_if (fun c => ⟨_, rfl, g, h, fun _ _ => rfl, ?_⟩) (fun c => wp_if (fun c2 => ?_) (fun c2 => ⟨_, rfl, g, h, fun _ _ => rfl, ?_⟩))))
  · have := Int32.lt_iff_toInt_lt.mp c
    exact ⟨fun q => by omega, fun _ => ⟨rfl, rfl⟩⟩
  · have d := Int32.le_iff_toInt_le.mp (nlt32 c)
    have c2 := Int32.le_iff_toInt_le.mp c2
    have ye : y.toInt = g.1 0 := by rw [ey]; exact ec
    refine wp_rq (iR_0_0 h) (wp_nmI (fun D1 e1 => ?_))
    have h1 : Inv (upN g 0 x1.toInt) S D1 := by rw [e1]; exact inv_cnt h ⟨by omega, by have := hc.2; omega⟩
    refine wp_rq (iR_0_2 h1) (wp_nmI (fun D2 e2 => ⟨_, rfl, upN g 0 x1.toInt, ?_, fun m hm => ?_, ?_⟩))
    · show Inv _ S D2
      rw [e2]
      exact inv_i11 h1 (rg_top _)
    · show (if m = 0 then _ else g.1 m) = g.1 m
      rw [if_neg hm]
    · show cuT (g.1 0) x1 y.toInt x1.toInt
      exact ⟨fun _ => ⟨ye, rfl⟩, fun n => absurd ⟨by omega, by omega⟩ n⟩
  · have c2 := Int32.lt_iff_toInt_lt.mp (nle32 c2)
    have ye : y.toInt = g.1 0 := by rw [ey]; exact ec
    exact ⟨fun q => by omega, fun _ => ⟨rfl, rfl⟩⟩
def ntS (S : sh) (n z : Nat) : sh := aS (aS (aS (aS S 6 0 7) 101 n n) 103 n n) 102 z z
def ntD (S : sh) (D : dt) (x1 x2 x3 x4 : Int32) : dt :=
  let m := sN S
  let S1 := aS S 6 0 7
  let S2 := aS S1 101 0 0
  let S3 := aS S2 103 0 0
  let D1 := pI (pI (pI (pI (aD S D) m 0 x1) m 1 x2) m 2 x3) m 3 x4
  let D2 := pR (aD S1 D1) m 4 (some (m + 1))
  let D3 := pR (aD S2 D2) m 5 (some (m + 2))
  pR (aD S3 D3) m 6 (some (m + 3))
theorem nt_wp {S : sh} {D : dt} {x1 x2 x3 x4 : Int32} (h1 : x1 = 0 ∨ x1 = 1) (h3 : Rg 1 32 x3) (h4 : Rg 1 32 x4) : wp (f_X7_init (sN S) x1 x2 x3 x4 (aS S 6 0 7) (aD S D)) (fun q => ∃ n z : Nat, (n : Int) ≤ x4.toInt ∧ (z : Int) = x3.toInt * x4.toInt ∧ q = ((), ntS S n z, ntD S D x1 x2 x3 x4)) := by
  unfold f_X7_init f_X7_init_36 f_X7_init_38 f_X7_init_52 f_X7_init_54 f_X7_init_64
  have l0 : (0 : Int32).toInt = 0 := rfl
  have t4 := tnc (x := x4) (by have := h4.1; omega)
  have c4 : ¬ x4 < 0 ∧ x4.toNatClampNeg ≤ 10000 := ⟨fun q => by have := Int32.lt_iff_toInt_lt.mp q; have := h4.1; omega, by have := h4.2; omega⟩
  have hm : Rg 1 1024 (x3 * x4) := rg_mul h3 h4 (by decide)
  have em : (x3 * x4).toInt = x3.toInt * x4.toInt := by
    have a1 := mul_lo (l := 1) h3.1 h3.2 h4.1 h4.2 (by decide)
    have a2 := mul_hi (h := 1024) h3.1 h3.2 h4.1 h4.2 (by decide)
    rw [Int32.toInt_mul, bm32 (by omega) (by omega)]
  have tz := tnc (x := x3 * x4) (by have := hm.1; omega)
  have cz : ¬ (x3 * x4) < 0 ∧ (x3 * x4).toNatClampNeg ≤ 10000 := ⟨fun q => by have := Int32.lt_iff_toInt_lt.mp q; have := hm.1; omega, by have := hm.2; omega⟩
  have c0 : ¬ (0 : Int32) < 0 ∧ (0 : Int32).toNatClampNeg ≤ 10000 := by decide
  refine wp_ck h1 (wp_nmI (fun D1 e1 => wp_nmI (fun D2 e2 => wp_nmI (fun D3 e3 => wp_nmI (fun D4 e4 => wp_if (fun c => ?_) (fun c => ?_))))))
  · refine wp_ck c4 (wp_nmI (fun D5 e5 => wp_if (fun _ => wp_ck c4 (wp_nmI (fun D6 e6 => wp_ck cz (wp_nmI (fun D7 e7 => ⟨_, rfl, x4.toNatClampNeg, (x3 * x4).toNatClampNeg, by omega, by omega, ?_⟩))))) (fun n => absurd c n)))
    subst e1 e2 e3 e4 e5 e6 e7
    rfl
  · refine wp_ck c0 (wp_nmI (fun D5 e5 => wp_if (fun n => absurd n c) (fun _ => wp_ck c0 (wp_nmI (fun D6 e6 => wp_ck cz (wp_nmI (fun D7 e7 => ⟨_, rfl, 0, (x3 * x4).toNatClampNeg, by have := h4.1; omega, by omega, ?_⟩)))))))
    subst e1 e2 e3 e4 e5 e6 e7
    rfl
theorem nt_N (S : sh) (n z : Nat) : sN (ntS S n z) = sN S + 4 := rfl
theorem nt_Z (S : sh) (n z : Nat) : sZ (ntS S n z) = sZ S + 7 + n + n + z := rfl
theorem nt_K (S : sh) (n z a : Nat) : sK (ntS S n z) a = if a = sN S + 3 then 102 else if a = sN S + 2 then 103 else if a = sN S + 1 then 101 else if a = sN S then 6 else sK S a := rfl
theorem nt_A (S : sh) (n z a : Nat) : sA (ntS S n z) a = if a = sN S + 3 then z else if a = sN S + 2 then n else if a = sN S + 1 then n else if a = sN S then 0 else sA S a := rfl
section NT
variable (S : sh) (D : dt) (x1 x2 x3 x4 : Int32)
theorem nt_I (a b : Nat) (h : a < sN S) : gI (ntD S D x1 x2 x3 x4) a b = gI D a b := by
  show (if a = sN S + 3 then 0 else if a = sN S + 2 then 0 else if a = sN S + 1 then 0 else if a = sN S ∧ b = 3 then x4 else if a = sN S ∧ b = 2 then x3 else if a = sN S ∧ b = 1 then x2 else if a = sN S ∧ b = 0 then x1 else if a = sN S then 0 else gI D a b) = gI D a b
  rw [if_neg (by omega), if_neg (by omega), if_neg (by omega), if_neg (by omega), if_neg (by omega), if_neg (by omega), if_neg (by omega), if_neg (by omega)]
theorem nt_L (a b : Nat) (h : a < sN S) : gL (ntD S D x1 x2 x3 x4) a b = gL D a b := by
  show (if a = sN S + 3 then 0 else if a = sN S + 2 then 0 else if a = sN S + 1 then 0 else if a = sN S then 0 else gL D a b) = gL D a b
  rw [if_neg (by omega), if_neg (by omega), if_neg (by omega), if_neg (by omega)]
theorem nt_R (a b : Nat) (h : a < sN S) : gR (ntD S D x1 x2 x3 x4) a b = gR D a b := by
  show (if a = sN S ∧ b = 6 then some (sN S + 3) else if a = sN S + 3 then none else if a = sN S ∧ b = 5 then some (sN S + 2) else if a = sN S + 2 then none else if a = sN S ∧ b = 4 then some (sN S + 1) else if a = sN S + 1 then none else if a = sN S then none else gR D a b) = gR D a b
  rw [if_neg (by omega), if_neg (by omega), if_neg (by omega), if_neg (by omega), if_neg (by omega), if_neg (by omega), if_neg (by omega)]
theorem nt_In : gI (ntD S D x1 x2 x3 x4) (sN S) 0 = x1 ∧ gI (ntD S D x1 x2 x3 x4) (sN S) 1 = x2 ∧ gI (ntD S D x1 x2 x3 x4) (sN S) 2 = x3 ∧ gI (ntD S D x1 x2 x3 x4) (sN S) 3 = x4 := by
  have z : ∀ b, gI (ntD S D x1 x2 x3 x4) (sN S) b = (if sN S = sN S + 3 then 0 else if sN S = sN S + 2 then 0 else if sN S = sN S + 1 then 0 else if sN S = sN S ∧ b = 3 then x4 else if sN S = sN S ∧ b = 2 then x3 else if sN S = sN S ∧ b = 1 then x2 else if sN S = sN S ∧ b = 0 then x1 else if sN S = sN S then 0 else gI D (sN S) b) := fun b => rfl
  refine ⟨?_, ?_, ?_, ?_⟩ <;> rw [z, if_neg (by omega), if_neg (by omega), if_neg (by omega)]
  · rw [if_neg (by omega), if_neg (by omega), if_neg (by omega), if_pos ⟨rfl, rfl⟩]
  · rw [if_neg (by omega), if_neg (by omega), if_pos ⟨rfl, rfl⟩]
  · rw [if_neg (by omega), if_pos ⟨rfl, rfl⟩]
  · rw [if_pos ⟨rfl, rfl⟩]
theorem nt_Rn : gR (ntD S D x1 x2 x3 x4) (sN S) 4 = some (sN S + 1) ∧ gR (ntD S D x1 x2 x3 x4) (sN S) 5 = some (sN S + 2) ∧ gR (ntD S D x1 x2 x3 x4) (sN S) 6 = some (sN S + 3) := by
  unfold ntD
  simp only [gR_pR, gR_pI, gR_aD, sN_aS]
  simp
  omega
end NT
theorem inv_newTable {g : gh} {S : sh} {D : dt} {x1 x2 x3 x4 v : Int32} {n z c : Nat} (h : Inv g S D) (h1 : Rg 0 1 x1) (h2 : Rg 1 8 x2) (h3 : Rg 1 32 x3) (h4 : Rg 1 32 x4) (hn : (n : Int) ≤ x4.toInt) (hz : (z : Int) = x3.toInt * x4.toInt) (hc : g.1 1 < 4) (hv : v.toInt = g.1 1 + 1) : Inv (upN g 1 v.toInt) (ntS S n z) (pI (pR (ntD S D x1 x2 x3 x4) 10 c (some (sN S))) 7 4 v) := by
  have n66 := h.shp.1
  have kz : ∀ a, sN S ≤ a → sK S a = 0 := h.shp.2.2.1
  have lt : ∀ {a}, sK S a ≠ 0 → a < sN S := fun {a} q => by
    rcases Nat.lt_or_ge a (sN S) with w | w
    · exact w
    · exact absurd (kz a w) q
  have K : ∀ a, a < sN S → sK (ntS S n z) a = sK S a := fun a w => by rw [nt_K, if_neg (by omega), if_neg (by omega), if_neg (by omega), if_neg (by omega)]
  have A : ∀ a, a < sN S → sA (ntS S n z) a = sA S a := fun a w => by rw [nt_A, if_neg (by omega), if_neg (by omega), if_neg (by omega), if_neg (by omega)]
  have hs : ∀ x κ, sK S x = κ → κ ≠ 0 → sK (ntS S n z) x = κ := fun x κ e n => by rw [K x (lt (by rw [e]; exact n)), e]
  have old : ∀ a κ, sK (ntS S n z) a = κ → κ ≠ 101 → κ ≠ 102 → κ ≠ 103 → κ ≠ 0 → (a = sN S ∧ κ = 6) ∨ (a < sN S ∧ sK S a = κ) := by
    intro a κ e n1 n2 n3 n4
    rw [nt_K] at e
    split at e
    · omega
    · split at e
      · omega
      · split at e
        · omega
        · split at e
          · exact Or.inl ⟨by assumption, e.symm⟩
          · exact Or.inr ⟨lt (by rw [e]; exact n4), e⟩
  have I : ∀ a b, a < sN S → ¬ (a = 7 ∧ b = 4) → gI (pI (pR (ntD S D x1 x2 x3 x4) 10 c (some (sN S))) 7 4 v) a b = gI D a b := fun a b w q => by rw [gI_pI, if_neg q, gI_pR, nt_I S D x1 x2 x3 x4 a b w]
  have L : ∀ a b, a < sN S → gL (pI (pR (ntD S D x1 x2 x3 x4) 10 c (some (sN S))) 7 4 v) a b = gL D a b := fun a b w => by rw [gL_pI, gL_pR, nt_L S D x1 x2 x3 x4 a b w]
  have R : ∀ a b, a < sN S → a ≠ 10 → gR (pI (pR (ntD S D x1 x2 x3 x4) 10 c (some (sN S))) 7 4 v) a b = gR D a b := fun a b w q => by rw [gR_pI, gR_pR, if_neg (fun p => q p.1), nt_R S D x1 x2 x3 x4 a b w]
  have In : ∀ b, gI (pI (pR (ntD S D x1 x2 x3 x4) 10 c (some (sN S))) 7 4 v) (sN S) b = gI (ntD S D x1 x2 x3 x4) (sN S) b := fun b => by rw [gI_pI, if_neg (by omega), gI_pR]
  have Rn : ∀ b, gR (pI (pR (ntD S D x1 x2 x3 x4) 10 c (some (sN S))) 7 4 v) (sN S) b = gR (ntD S D x1 x2 x3 x4) (sN S) b := fun b => by rw [gR_pI, gR_pR, if_neg (by omega)]
  have sc5 : ∀ a, sK S a = 4 → a + 4 < sN S := fun a k => lt (by rw [(h.shp.2.2.2.1 a k).2.2.2.1]; decide)
  have tb4 : ∀ a, sK S a = 6 → a + 3 < sN S := fun a k => lt (by rw [(h.shp.2.2.2.2 a k).2.2.1]; decide)
  obtain ⟨b0, b1, b2⟩ := h.gg
  have z24 : (z : Int) ≤ 1024 := by
    have := mul_hi (h := 1024) h3.1 h3.2 h4.1 h4.2 (by decide)
    omega
  refine ⟨⟨by rw [nt_N]; omega, fun k hk => ?_, fun k hk => ?_, fun o k => ?_, fun o k => ?_⟩, fun o b ho => ?_, ?_, fun o b ho => ?_, fun o k => ?_, fun o k => ?_, ⟨b0, ⟨(by omega : (0 : Int) ≤ v.toInt), (by omega : v.toInt ≤ 4)⟩, b2⟩, fun o b ho => ?_, ?_, ⟨fun b => ?_, fun b => ?_, fun b => ?_, ?_⟩, fun hz => ?_⟩
  · rw [K k (by omega), A k (by omega)]
    exact h.shp.2.1 k hk
  · rw [nt_N] at hk
    rw [nt_K, if_neg (by omega), if_neg (by omega), if_neg (by omega), if_neg (by omega)]
    exact kz k (by omega)
  · rcases old o 4 k (by decide) (by decide) (by decide) (by decide) with ⟨-, q⟩ | ⟨w, k'⟩
    · omega
    · have := sc5 o k'
      rw [K _ (by omega), K _ (by omega), K _ (by omega), K _ (by omega), A _ (by omega), A _ (by omega), A _ (by omega), A _ (by omega)]
      exact h.shp.2.2.2.1 o k'
  · rcases old o 6 k (by decide) (by decide) (by decide) (by decide) with ⟨rfl, -⟩ | ⟨w, k'⟩
    · have := h4.2
      have : n ≤ 32 := by omega
      simpa [nt_K, nt_A] using this
    · have := tb4 o k'
      rw [K _ (by omega), K _ (by omega), K _ (by omega), A _ (by omega), A _ (by omega)]
      exact h.shp.2.2.2.2 o k'
  · by_cases q : o = 7 ∧ b = 4
    · obtain ⟨rfl, rfl⟩ := q
      rw [gI_pI, if_pos ⟨rfl, rfl⟩]
      exact ⟨Int.le_refl _, Int.le_refl _⟩
    · rw [I o b (by omega) q]
      have eb : bI (upN g 1 v.toInt) o b = bI g o b := by
        unfold bI
        split <;> first
          | rfl
          | (split <;> first
              | rfl
              | exact absurd ⟨rfl, rfl⟩ q)
      rw [eb]
      exact h.i o b ho
  · unfold vL
    rw [L 7 5 (by omega), L 28 17 (by omega)]
    exact h.l
  · by_cases e : o = 10 ∧ b = c
    · obtain ⟨rfl, rfl⟩ := e
      rw [gR_pI, gR_pR, if_pos ⟨rfl, rfl⟩]
      intro x q
      cases q
      simp [nt_K]
    · rw [gR_pI, gR_pR, if_neg e, nt_R S D x1 x2 x3 x4 o b (by omega)]
      exact oR_mono hs (h.r o b ho)
  · rcases old o 6 k (by decide) (by decide) (by decide) (by decide) with ⟨rfl, -⟩ | ⟨w, k'⟩
    · obtain ⟨i0, i1, i2, i3⟩ := nt_In S D x1 x2 x3 x4
      obtain ⟨r0, r1, r2⟩ := nt_Rn S D x1 x2 x3 x4
      rw [In, In, In, In, Rn, Rn, Rn, i0, i1, i2, i3, r0, r1, r2]
      refine ⟨⟨h1, h2, h3, h4⟩, ⟨rfl, rfl, rfl⟩, ?_, ?_⟩
      · rw [nt_A, if_pos rfl]
        exact hz
      · rw [nt_A, if_neg (by omega), if_pos rfl]
        exact hn
    · have := tb4 o k'
      have e7 : o ≠ 7 := k_at h k' 7 (by decide) (by decide)
      have e10 : o ≠ 10 := k_at h k' 10 (by decide) (by decide)
      rw [I o 0 w (fun q => e7 q.1), I o 1 w (fun q => e7 q.1), I o 2 w (fun q => e7 q.1), I o 3 w (fun q => e7 q.1), R o 4 w e10, R o 5 w e10, R o 6 w e10, A _ (by omega), A _ (by omega)]
      exact h.t o k'
  · rcases old o 4 k (by decide) (by decide) (by decide) (by decide) with ⟨-, q⟩ | ⟨w, k'⟩
    · omega
    · have := sc5 o k'
      have ne : o ≠ 10 := k_at h k' 10 (by decide) (by decide)
      have n7 : o + 1 ≠ 7 := sc_ne h k' (by decide) (by decide) (by decide)
      rw [R o 1 w ne, R o 2 w ne, R o 3 w ne, R o 4 w ne]
      refine ⟨(h.s o k').1, fun p hp => ?_⟩
      rw [I (o + 1) p (by omega) (fun q => n7 q.1), L (o + 2) p (by omega), L (o + 3) p (by omega)]
      exact (h.s o k').2 p hp
  · have : o < 66 := by
      unfold isP at ho
      simp only [Bool.or_eq_true, Bool.and_eq_true] at ho
      rcases ho with ⟨-, x⟩ | ⟨-, x⟩
      · have := Nat.le_of_ble_eq_true x
        omega
      · have := Nat.le_of_ble_eq_true x
        omega
    rw [I o b (by omega) (by rintro ⟨rfl, -⟩; cases ho)]
    exact h.p o b ho
  · have e : nul (pI (pR (ntD S D x1 x2 x3 x4) 10 c (some (sN S))) 7 4 v) = nul D := by
      unfold nul
      congr 1
      funext i
      rw [R 15 i (by omega) (by decide)]
    have m := h.m
    unfold vM at m
    show ((sN (ntS S n z) : Nat) : Int) + 5 * (nul (pI (pR (ntD S D x1 x2 x3 x4) 10 c (some (sN S))) 7 4 v) : Int) + 4 * (4 - v.toInt) ≤ 1082 ∧ ((sZ (ntS S n z) : Nat) : Int) + 239 * (nul (pI (pR (ntD S D x1 x2 x3 x4) 10 c (some (sN S))) 7 4 v) : Int) + 1095 * (4 - v.toInt) ≤ 352180
    rw [e, nt_N, nt_Z, hv]
    have := h4.2
    omega
  · rw [I 60 b (by omega) (fun q => by omega), L 61 b (by omega)]
    exact h.k.1 b
  · rw [I 49 b (by omega) (fun q => by omega), L 50 b (by omega)]
    exact h.k.2.1 b
  · rw [I 55 b (by omega) (fun q => by omega), L 56 b (by omega)]
    exact h.k.2.2.1 b
  · rw [I 28 47 (by omega) (fun q => by omega), L 28 48 (by omega)]
    exact h.k.2.2.2
  · obtain ⟨f1, f2, f3, f4, f5, f6⟩ := h.f hz
    exact ⟨(I 14 8 (by omega) (fun q => by omega)).trans f1, (I 14 10 (by omega) (fun q => by omega)).trans f2, by rw [L 14 9 (by omega)]; exact f3, by rw [L 14 11 (by omega)]; exact f4, fun b q => f5 b ((I 60 b (by omega) (fun q => by omega)).symm.trans q), (I 28 53 (by omega) (fun q => by omega)).trans f6⟩
def tft (x1 x2 x3 x4 : Int32) : Prop := (x1 = 0 ∨ x1 = 1) ∧ Rg 1 32 x3 ∧ Rg 1 32 x4 ∧ Rg 1 8 x2 ∧ (x1 = 0 → x2 = 4)
def taT (c : Int) (x1 x2 x3 x4 : Int32) (r c' : Int) : Prop := (tft x1 x2 x3 x4 → c < 4 → r = c ∧ c' = c + 1) ∧ (tft x1 x2 x3 x4 → ¬ c < 4 → r = -4 ∧ c' = c) ∧ (¬ tft x1 x2 x3 x4 → r = -2 ∧ c' = c)
/-- a call that makes a table -/
def taP (g : gh) (x1 x2 x3 x4 : Int32) (q : Int32 × sh × dt) : Prop := ∃ g', Inv g' q.2.1 q.2.2 ∧ Gx g g' 1 ∧ taT (g.1 1) x1 x2 x3 x4 q.1.toInt (g'.1 1)
theorem ta_no {g : gh} {S : sh} {D : dt} {x1 x2 x3 x4 : Int32} (h : Inv g S D) (n : ¬ tft x1 x2 x3 x4) : wp (some ((-2 : Int32), S, D)) (taP g x1 x2 x3 x4) := ⟨_, rfl, g, h, fun _ _ => rfl, fun f => absurd f n, fun f => absurd f n, fun _ => ⟨rfl, rfl⟩⟩
theorem q_table_80 {g : gh} {S : sh} {D : dt} {x1 x2 x3 x4 : Int32} (f : tft x1 x2 x3 x4) (hc : g.1 1 < 4) (h : Inv g S D) : wp (f_X8_table_80 x1 x2 x3 x4 7 (sN S) (aS S 6 0 7) (aD S D)) (taP g x1 x2 x3 x4) := by
  unfold f_X8_table_80 f_X8_table_90 f_X8_table_97 f_X2_addTable
  obtain ⟨f1, f3, f4, f2, f5⟩ := id f
  have n66 := h.shp.1
  have fin : ∀ (w : Int32), (w = 0 ∨ w = 1) → ∀ (r : Unit) (S1 : sh) (D1 : dt), (∃ n z : Nat, (n : Int) ≤ x4.toInt ∧ (z : Int) = x3.toInt * x4.toInt ∧ (r, S1, D1) = ((), ntS S n z, ntD S D w x2 x3 x4)) → wp (cq (nm (gI D1 7 4) fun y9 => rq (gR D1 7 3) fun o10 => ix y9 (sA S1 o10) <| nm (pR D1 o10 y9.toNatClampNeg (some (sN S))) fun D15 => nm (pI D15 7 4 (y9 + (1 : Int32))) fun D16 => some (y9, D16)) fun r46 D47 => some (r46, S1, D47)) (taP g x1 x2 x3 x4) := by
    rintro w hw r S1 D1 ⟨n, z, hn, hz, e⟩
    cases e
    have e4 : gI (ntD S D w x2 x3 x4) 7 4 = gI D 7 4 := nt_I S D w x2 x3 x4 7 4 (by omega)
    have er : gR (ntD S D w x2 x3 x4) 7 3 = some 10 := (nt_R S D w x2 x3 x4 7 3 (by omega)).trans (iR_7_3 h)
    have ea : sA (ntS S n z) 10 = 4 := by rw [nt_A, if_neg (by omega), if_neg (by omega), if_neg (by omega), if_neg (by omega)]; exact iA_10 h
    have ec := iG_7_4 h
    have hb := h.gg.2.1.1
    have hy : Rg 0 3 (gI D 7 4) := ⟨by omega, by omega⟩
    have ey : (gI D 7 4 + 1).toInt = g.1 1 + 1 := by rw [i32_add hy (by decide : Rg 1 1 (1 : Int32)) (by decide), ec]; rfl
    have w1 : Rg 0 1 w := by rcases hw with rfl | rfl <;> decide
    refine wp_cqs (Q := fun q => q = (gI D 7 4, pI (pR (ntD S D w x2 x3 x4) 10 (gI D 7 4).toNatClampNeg (some (sN S))) 7 4 (gI D 7 4 + 1))) ?_ (fun r2 D2 q => ?_)
    · rw [e4]
      refine wp_nmI (fun y e5 => ?_)
      subst e5
      exact wp_rq er (wp_ix (in_rg hy ea (by decide)) (wp_nmI (fun D3 e3 => wp_nmI (fun D4 e6 => ⟨_, rfl, by rw [e6, e3]⟩))))
    · cases q
      refine ⟨_, rfl, upN g 1 (gI D 7 4 + 1).toInt, inv_newTable h w1 f2 f3 f4 hn hz hc ey, fun m hm => ?_, ?_⟩
      · show (if m = 1 then _ else g.1 m) = g.1 m
        rw [if_neg hm]
      · show taT (g.1 1) x1 x2 x3 x4 (gI D 7 4).toInt (gI D 7 4 + 1).toInt
        rw [ey, ec]
        exact ⟨fun _ _ => ⟨rfl, rfl⟩, fun _ n => absurd hc n, fun n => absurd f n⟩
  refine wp_if (fun _ => wp_c3s (nt_wp (Or.inr rfl) f3 f4) (fin 1 (Or.inr rfl))) (fun _ => wp_c3s (nt_wp (Or.inl rfl) f3 f4) (fin 0 (Or.inl rfl)))
theorem q_table_45 {g : gh} {S : sh} {D : dt} {x1 x2 x3 x4 : Int32} (h1 : x1 = 0 ∨ x1 = 1) (h3 : Rg 1 32 x3) (h4 : Rg 1 32 x4) (h5 : x1 = 0 → x2 = 4) (h : Inv g S D) : wp (f_X8_table_45 0 x1 x2 x3 x4 S D) (taP g x1 x2 x3 x4) := by
  unfold f_X8_table_45
  have l1 : (1 : Int32).toInt = 1 := rfl
  have l8 : (8 : Int32).toInt = 8 := rfl
  have l4 : (4 : Int32).toInt = 4 := rfl
  have ec := iG_7_4 h
  refine wp_if (fun c => ta_no h (fun f => ?_)) (fun c => wp_if (fun c2 => ?_) (fun c2 => ta_no h (fun f => ?_)))
  · have := Int32.lt_iff_toInt_lt.mp c
    have := f.2.2.2.1.1
    omega
  · have d1 := Int32.le_iff_toInt_le.mp (nlt32 c)
    have d2 := Int32.le_iff_toInt_le.mp c2
    have f : tft x1 x2 x3 x4 := ⟨h1, h3, h4, ⟨by omega, by omega⟩, h5⟩
    refine wp_rq (iR_0_1 h) (wp_if (fun c3 => wp_rq (iR_0_1 h) (q_table_80 f ?_ h)) (fun c3 => ⟨_, rfl, g, h, fun _ _ => rfl, ?_⟩))
    · have := Int32.lt_iff_toInt_lt.mp c3
      omega
    · have := Int32.le_iff_toInt_le.mp (nlt32 c3)
      exact ⟨fun _ q => by omega, fun _ _ => ⟨rfl, rfl⟩, fun n => absurd f n⟩
  · have := Int32.lt_iff_toInt_lt.mp (nle32 c2)
    have := f.2.2.2.1.2
    omega
theorem q_table_9 {g : gh} {S : sh} {D : dt} {x1 x2 x3 x4 : Int32} (h1 : x1 = 0 ∨ x1 = 1) (h : Inv g S D) : wp (f_X8_table_9 0 x1 x2 x3 x4 S D) (taP g x1 x2 x3 x4) := by
  unfold f_X8_table_9
  have l1 : (1 : Int32).toInt = 1 := rfl
  have l32 : (32 : Int32).toInt = 32 := rfl
  have L : ∀ {a b : Int32}, a < b → a.toInt < b.toInt := fun c => Int32.lt_iff_toInt_lt.mp c
  have N : ∀ {a b : Int32}, ¬ a < b → b.toInt ≤ a.toInt := fun c => Int32.le_iff_toInt_le.mp (nlt32 c)
  refine wp_if (fun c => ta_no h (fun f => ?_)) (fun c1 => wp_if (fun c => ta_no h (fun f => ?_)) (fun c2 => wp_if (fun c => ta_no h (fun f => ?_)) (fun c3 => wp_if (fun c4 => ?_) (fun c => ta_no h (fun f => ?_)))))
  · have := L c
    have := f.2.1.1
    omega
  · have := L c
    have := f.2.1.2
    omega
  · have := L c
    have := f.2.2.1.1
    omega
  · have d1 := N c1
    have d2 := N c2
    have d3 := N c3
    have d4 := Int32.le_iff_toInt_le.mp c4
    have h3 : Rg 1 32 x3 := ⟨by omega, by omega⟩
    have h4 : Rg 1 32 x4 := ⟨by omega, by omega⟩
    exact wp_if (fun e => wp_if (fun e2 => q_table_45 h1 h3 h4 (fun _ => e2) h) (fun n => ta_no h (fun f => n (f.2.2.2.2 e)))) (fun n => q_table_45 h1 h3 h4 (fun e => absurd e n) h)
  · have := L (nle32 c)
    have := f.2.2.1.2
    omega
theorem q_table {g : gh} {S : sh} {D : dt} {x1 x2 x3 x4 : Int32} (h : Inv g S D) : wp (f_X8_table 0 x1 x2 x3 x4 S D) (taP g x1 x2 x3 x4) := by
  unfold f_X8_table
  exact wp_if (fun e => q_table_9 (Or.inl e) h) (fun n => wp_if (fun e => q_table_9 (Or.inr e) h) (fun n2 => ta_no h (fun f => f.1.elim n n2)))
set_option maxRecDepth 100000 in
theorem s_X8_context {g : gh} {S : sh}  {x1 : Int32} {D : dt}  (h : Inv g S D) : wp (f_X8_context S 0 x1 D) (fun q => Rg (-3) 256 q.1 ∧ Inv g S q.2) := by
  unfold f_X8_context
  refine wp_if (fun c_1 => ?_) (fun c_1 => ?_)
  ·
    have h_2 : Rg (-2147483648) (-1) _ := rg_lt1 (rg_top _) rc_0 c_1 (by decide)
    exact ⟨_, rfl, (rg_w rc_m2 (by decide)), h⟩
  ·
    have h_3 : Rg 0 2147483647 _ := rg_le2 rc_0 (rg_top _) (nlt32 c_1) (by decide)
    refine wp_if (fun c_4 => ?_) (fun c_4 => ?_)
    ·
      have h_5 : Rg 0 256 _ := rg_le1 h_3 rc_256 c_4 (by decide)
      refine wp_rq (iR_0_2 h) ?_
      refine wp_if (fun c_6 => ?_) (fun c_6 => ?_)
      ·
        have h_7 : Rg 1 1 _ := rg_eq1 (rg_top _) rc_1 c_6 (by decide)
        exact ⟨_, rfl, (rg_w rc_m3 (by decide)), h⟩
      ·
        refine wp_rq (iR_0_1 h) ?_
        refine wp_cqs (s_X2_resizeContext h_5 h) (fun r27 D28 q_r27 => ?_)
        obtain ⟨h_r27, h_D28⟩ := q_r27
        exact ⟨_, rfl, (rg_w h_r27 (by decide)), h_D28⟩
    ·
      have h_8 : Rg 257 2147483647 _ := rg_lt2 rc_256 h_3 (nle32 c_4) (by decide)
      exact ⟨_, rfl, (rg_w rc_m2 (by decide)), h⟩
set_option maxRecDepth 100000 in
theorem s_X8_poke {g : gh} {S : sh}  {x1 : Int32} {x2 : Int32} {D : dt}  (h : Inv g S D) : wp (f_X8_poke S 0 x1 x2 D) (fun q => Rg (-3) 255 q.1 ∧ Inv g S q.2) := by
  unfold f_X8_poke
  refine wp_if (fun c_1 => ?_) (fun c_1 => ?_)
  ·
    have h_2 : Rg (-2147483648) (-1) _ := rg_lt1 (rg_top _) rc_0 c_1 (by decide)
    exact ⟨_, rfl, (rg_w rc_m1 (by decide)), h⟩
  ·
    have h_3 : Rg 0 2147483647 _ := rg_le2 rc_0 (rg_top _) (nlt32 c_1) (by decide)
    refine wp_rq (iR_0_1 h) ?_
    refine wp_if (fun c_4 => ?_) (fun c_4 => ?_)
    ·
      have h_5 : Rg 0 255 _ := rg_lt1 h_3 (iF_7_1 h) c_4 (by decide)
      have h_6 : Rg 1 256 _ := rg_lt2 h_3 (iF_7_1 h) c_4 (by decide)
      refine wp_if (fun c_7 => ?_) (fun c_7 => ?_)
      ·
        have h_8 : Rg (-2147483648) (-1) _ := rg_lt1 (rg_top _) rc_0 c_7 (by decide)
        exact ⟨_, rfl, (rg_w rc_m2 (by decide)), h⟩
      ·
        have h_9 : Rg 0 2147483647 _ := rg_le2 rc_0 (rg_top _) (nlt32 c_7) (by decide)
        refine wp_if (fun c_10 => ?_) (fun c_10 => ?_)
        ·
          have h_11 : Rg 0 255 _ := rg_le1 h_9 rc_255 c_10 (by decide)
          refine wp_rq (iR_0_2 h) ?_
          refine wp_if (fun c_12 => ?_) (fun c_12 => ?_)
          ·
            have h_13 : Rg 1 1 _ := rg_eq1 (rg_top _) rc_1 c_12 (by decide)
            exact ⟨_, rfl, (rg_w rc_m3 (by decide)), h⟩
          ·
            refine wp_rq (iR_0_1 h) ?_
            refine wp_rq (iR_7_0 h) ?_
            refine wp_ix (in_rg h_5 (iA_8 h) (by decide)) ?_
            refine wp_nmI (fun y56 e_y56 => ?_)
            have h_y56 : Rg 0 255 y56 := rg_eq e_y56 (rg_andr _ (by decide) : Rg 0 255 _)
            refine wp_rq (iR_0_1 h) ?_
            refine wp_rq (iR_7_0 h) ?_
            refine wp_ix (in_rg h_5 (iA_8 h) (by decide)) ?_
            refine wp_nmI (fun D66 e_D66 => ?_)
            have h_D66 : Inv g S D66 := by rw [e_D66]; exact inv_i8 h (rg_top _)
            exact ⟨_, rfl, (rg_w h_y56 (by decide)), h_D66⟩
        ·
          have h_14 : Rg 256 2147483647 _ := rg_lt2 rc_255 h_9 (nle32 c_10) (by decide)
          exact ⟨_, rfl, (rg_w rc_m2 (by decide)), h⟩
    ·
      exact ⟨_, rfl, (rg_w rc_m1 (by decide)), h⟩
set_option maxRecDepth 100000 in
theorem s_X8_tick_22 {g : gh} {S : sh}   {D : dt}  (h : Inv g S D) : wp (f_X8_tick_22 S D) (fun q => Inv g S q.2) := by
  unfold f_X8_tick_22
  exact ⟨_, rfl, h⟩
def tiT (k : Int) (n : Int64) (r : Int) (k' : Int) : Prop := (0 ≤ n.toInt ∧ n.toInt ≤ 4611686018427387904 - k → r = k + n.toInt ∧ k' = k + n.toInt) ∧ (¬ (0 ≤ n.toInt ∧ n.toInt ≤ 4611686018427387904 - k) → r = -2 ∧ k' = k)
theorem bI_up {g : gh} {v : Int} {n : Nat} (hn : n = 4 ∨ n = 5) (a b : Nat) : bI (upN g n v) a b = bI g a b := by
  rcases hn with rfl | rfl
  · unfold bI
    split <;> first
      | rfl
      | (split <;> rfl)
  · unfold bI
    split <;> first
      | rfl
      | (split <;> rfl)
theorem inv_ck7 {g : gh} {S : sh} {D : dt} {v : Int64} (h : Inv g S D) (hv : RgL 0 4611686018427387904 v) : Inv (upN g 4 v.toInt) S (pL D 7 5 v) := by
  have e : ∀ a b, ¬ (a = 7 ∧ b = 5) → gL (pL D 7 5 v) a b = gL D a b := fun a b n => by rw [gL_pL, if_neg n]
  obtain ⟨a1, a2, a3, a4, a5, a6, ⟨b0, b1, b2, b3, b4, b5, b6⟩, a8, a9, a10, a11⟩ := id h
  refine ⟨a1, fun a b ha => ?_, ?_, a4, a5, fun a k => ?_, ?_, a8, a9, ⟨fun b => ?_, fun b => ?_, fun b => ?_, ?_⟩, fun hz => ?_⟩
  · rw [bI_up (by decide), gI_pL]
    exact a2 a b ha
  · exact ⟨by rw [gL_pL, if_pos ⟨rfl, rfl⟩]; rfl, by rw [e 28 17 (fun q => by omega)]; exact a3.2⟩
  · have n2 : a + 2 ≠ 7 := by
      intro q
      rcases sc_at h (by omega) k with rfl | rfl <;> omega
    have n3 : a + 3 ≠ 7 := by
      intro q
      rcases sc_at h (by omega) k with rfl | rfl <;> omega
    refine ⟨(a6 a k).1, fun p hp => ?_⟩
    rw [e (a + 2) p (fun q => n2 q.1), e (a + 3) p (fun q => n3 q.1), gI_pL]
    exact (a6 a k).2 p hp
  · exact ⟨b0, b1, b2, b3, hv, b5, b6⟩
  · rw [e 61 b (fun q => by omega)]
    exact a10.1 b
  · rw [e 50 b (fun q => by omega)]
    exact a10.2.1 b
  · rw [e 56 b (fun q => by omega)]
    exact a10.2.2.1 b
  · rw [e 28 48 (fun q => by omega)]
    exact a10.2.2.2
  · obtain ⟨f1, f2, f3, f4, f5, f6⟩ := a11 hz
    exact ⟨f1, f2, by rw [e 14 9 (fun q => by omega)]; exact f3, by rw [e 14 11 (fun q => by omega)]; exact f4, f5, f6⟩
theorem inv_ck28 {g : gh} {S : sh} {D : dt} {v : Int64} (h : Inv g S D) (hv : RgL 0 4611686018427387904 v) : Inv (upN g 5 v.toInt) S (pL D 28 17 v) := by
  have e : ∀ a b, ¬ (a = 28 ∧ b = 17) → gL (pL D 28 17 v) a b = gL D a b := fun a b n => by rw [gL_pL, if_neg n]
  obtain ⟨a1, a2, a3, a4, a5, a6, ⟨b0, b1, b2, b3, b4, b5, b6⟩, a8, a9, a10, a11⟩ := id h
  refine ⟨a1, fun a b ha => ?_, ?_, a4, a5, fun a k => ?_, ?_, a8, a9, ⟨fun b => ?_, fun b => ?_, fun b => ?_, ?_⟩, fun hz => ?_⟩
  · rw [bI_up (by decide), gI_pL]
    exact a2 a b ha
  · exact ⟨by rw [e 7 5 (fun q => by omega)]; exact a3.1, by rw [gL_pL, if_pos ⟨rfl, rfl⟩]; rfl⟩
  · have n2 : a + 2 ≠ 28 := by
      intro q
      rcases sc_at h (by omega) k with rfl | rfl <;> omega
    have n3 : a + 3 ≠ 28 := by
      intro q
      rcases sc_at h (by omega) k with rfl | rfl <;> omega
    refine ⟨(a6 a k).1, fun p hp => ?_⟩
    rw [e (a + 2) p (fun q => n2 q.1), e (a + 3) p (fun q => n3 q.1), gI_pL]
    exact (a6 a k).2 p hp
  · exact ⟨b0, b1, b2, b3, b4, hv, b6⟩
  · rw [e 61 b (fun q => by omega)]
    exact a10.1 b
  · rw [e 50 b (fun q => by omega)]
    exact a10.2.1 b
  · rw [e 56 b (fun q => by omega)]
    exact a10.2.2.1 b
  · rw [e 28 48 (fun q => by omega)]
    exact a10.2.2.2
  · obtain ⟨f1, f2, f3, f4, f5, f6⟩ := a11 hz
    exact ⟨f1, f2, by rw [e 14 9 (fun q => by omega)]; exact f3, by rw [e 14 11 (fun q => by omega)]; exact f4, f5, f6⟩
theorem ti_no {k : Int} {x : Int64} (n : ¬ (0 ≤ x.toInt ∧ x.toInt ≤ 4611686018427387904 - k)) : tiT k x (-2 : Int64).toInt k := ⟨fun q => absurd q n, fun _ => ⟨rfl, rfl⟩⟩
theorem ti_lo {x : Int64} {k : Int} (c : lg_cmp x 0 < 0) : ¬ (0 ≤ x.toInt ∧ x.toInt ≤ 4611686018427387904 - k) := by
  have c := Int64.lt_iff_toInt_lt.mp ((lg_cmp_lt _ _).mp c)
  have l0 : (0 : Int64).toInt = 0 := rfl
  omega
theorem ti_nlo {x : Int64} (c : ¬ lg_cmp x 0 < 0) : 0 ≤ x.toInt := by
  have c := Int64.le_iff_toInt_le.mp (nlt64 (fun q => c ((lg_cmp_lt _ _).mpr q)))
  have l0 : (0 : Int64).toInt = 0 := rfl
  omega
theorem ti_sub {k : Int64} (hk : RgL 0 4611686018427387904 k) : ((4611686018427387904 : Int64) - k).toInt = 4611686018427387904 - k.toInt := by
  obtain ⟨k1, k2⟩ := hk
  have l : (4611686018427387904 : Int64).toInt = 4611686018427387904 := rfl
  rw [Int64.toInt_sub, l, bm64 (by omega) (by omega)]
theorem ti_hi {x k : Int64} (hk : RgL 0 4611686018427387904 k) (c : ¬ lg_cmp x ((4611686018427387904 : Int64) - k) ≤ 0) : ¬ (0 ≤ x.toInt ∧ x.toInt ≤ 4611686018427387904 - k.toInt) := by
  have c := Int64.lt_iff_toInt_lt.mp (nle64 (fun q => c ((lg_cmp_le _ _).mpr q)))
  rw [ti_sub hk] at c
  omega
theorem ti_in {x k : Int64} (hk : RgL 0 4611686018427387904 k) (c : lg_cmp x ((4611686018427387904 : Int64) - k) ≤ 0) : x.toInt ≤ 4611686018427387904 - k.toInt := by
  have c := Int64.le_iff_toInt_le.mp ((lg_cmp_le _ _).mp c)
  rw [ti_sub hk] at c
  omega
theorem ti_add {x k : Int64} (hk : RgL 0 4611686018427387904 k) (c : x.toInt ≤ 4611686018427387904 - k.toInt) (c0 : 0 ≤ x.toInt) : (k + x).toInt = k.toInt + x.toInt := by
  obtain ⟨k1, k2⟩ := hk
  rw [Int64.toInt_add, bm64 (by omega) (by omega)]
theorem q_tick {g : gh} {S : sh} {x1 : Int64} {D : dt} (h : Inv g S D) : wp (f_X8_tick S 0 x1 D) (fun q => ∃ g', Inv g' S q.2 ∧ Gx g g' 4 ∧ tiT (g.1 4) x1 q.1.toInt (g'.1 4)) := by
  unfold f_X8_tick f_X8_tick_22
  have ec : (gL D 7 5).toInt = g.1 4 := h.l.1
  have hk : RgL 0 4611686018427387904 (gL D 7 5) := by
    have := h.gg.2.2.2.2.1
    unfold RgL
    rw [ec]
    exact this
  refine wp_if (fun c => ⟨_, rfl, g, h, fun _ _ => rfl, ti_no (ti_lo c)⟩) (fun c0 => wp_rq (iR_0_1 h) (wp_if (fun c => wp_rq (iR_0_1 h) (wp_nmI (fun D1 e1 => ?_))) (fun c => ⟨_, rfl, g, h, fun _ _ => rfl, ti_no (ec ▸ ti_hi hk c)⟩)))
  have c0 := ti_nlo c0
  have c := ti_in hk c
  have ea := ti_add hk c c0
  have h1 : Inv (upN g 4 (gL D 7 5 + x1).toInt) S D1 := by rw [e1]; exact inv_ck7 h (by obtain ⟨k1, k2⟩ := hk; unfold RgL; rw [ea]; omega)
  refine wp_rq (iR_0_1 h1) ⟨_, rfl, upN g 4 (gL D 7 5 + x1).toInt, h1, fun m hm => ?_, ?_⟩
  · show (if m = 4 then _ else g.1 m) = g.1 m
    rw [if_neg hm]
  · show tiT (g.1 4) x1 (gL D1 7 5).toInt (gL D 7 5 + x1).toInt
    rw [e1, gL_pL, if_pos ⟨rfl, rfl⟩, ea, ec]
    exact ⟨fun _ => ⟨rfl, rfl⟩, fun n => absurd ⟨c0, by omega⟩ n⟩
theorem q_judge {g : gh} {S : sh} {D : dt} (hl : g.1 9 ≠ 0) (hfz : g.1 12 = 0) (h : Inv g S D) : wp (f_X8_judge 0 S D) (fun q => Inv g q.2.1 q.2.2) := by
  unfold f_X8_judge f_X8_judge_7
  exact wp_rq (iR_0_3 h) (wp_c3s (q_follow hl hfz h) (fun r S1 D1 p => ⟨_, rfl, p⟩))
set_option maxRecDepth 100000 in
theorem s_X8_place {g : gh} {S : sh} {D : dt}    (h : Inv g S D) : wp (f_X8_place S D 0) (fun q => True) := by
  unfold f_X8_place
  refine wp_rq (iR_0_3 h) ?_
  exact ⟨_, rfl, trivial⟩
set_option maxRecDepth 100000 in
theorem s_X8_may_34 {g : gh} {S : sh} {D : dt}    (h : Inv g S D) : wp (f_X8_may_34 S D) (fun q => True) := by
  unfold f_X8_may_34
  exact ⟨_, rfl, trivial⟩
set_option maxRecDepth 100000 in
theorem s_X8_may_21 {g : gh} {S : sh} {D : dt}    (h : Inv g S D) : wp (f_X8_may_21 S D) (fun q => True) := by
  unfold f_X8_may_21
  exact ⟨_, rfl, trivial⟩
set_option maxRecDepth 100000 in
theorem s_X8_may {g : gh} {S : sh} {D : dt}  {x1 : Int32} {x2 : Int32} {x3 : Int32}  (h : Inv g S D) : wp (f_X8_may S D 0 x1 x2 x3) (fun q => True) := by
  unfold f_X8_may
  refine wp_rq (iR_0_0 h) ?_
  refine wp_pqs (s_X4_has h) (fun r27 q_r27 => ?_)
  obtain ⟨h_r27, x_r27⟩ := q_r27
  refine wp_if (fun c_1 => ?_) (fun c_1 => ?_)
  ·
    have h_2 : Rg 0 0 _ := rg_eq1 h_r27 rc_0 c_1 (by decide)
    exact s_X8_may_21 h
  ·
    have h_3 := x_r27 c_1
    have h_4 : Rg 0 199 _ := rg_eq1 h_3 (rg_top _) rfl (by decide)
    have h_5 : Rg 1 1 _ := rg_ne1 h_r27 rc_0 c_1 (by decide)
    refine wp_if (fun c_6 => ?_) (fun c_6 => ?_)
    ·
      have h_7 : Rg (-2147483648) (-1) _ := rg_lt1 (rg_top _) rc_0 c_6 (by decide)
      exact s_X8_may_21 h
    ·
      have h_8 : Rg 0 2147483647 _ := rg_le2 rc_0 (rg_top _) (nlt32 c_6) (by decide)
      refine wp_if (fun c_9 => ?_) (fun c_9 => ?_)
      ·
        have h_10 : Rg 0 10 _ := rg_lt1 h_8 rc_11 c_9 (by decide)
        refine wp_if (fun c_11 => ?_) (fun c_11 => ?_)
        ·
          have h_12 : Rg (-2147483648) (-1) _ := rg_lt1 (rg_top _) rc_0 c_11 (by decide)
          exact s_X8_may_34 h
        ·
          have h_13 : Rg 0 2147483647 _ := rg_le2 rc_0 (rg_top _) (nlt32 c_11) (by decide)
          refine wp_if (fun c_14 => ?_) (fun c_14 => ?_)
          ·
            have h_15 : Rg 0 4 _ := rg_le1 h_13 rc_4 c_14 (by decide)
            refine wp_rq (iR_0_3 h) ?_
            refine wp_pqs (s_X0_sceneAt h_4 h) (fun r38 h_r38 => ?_)
            refine wp_oq (fun e_z_16 => ?_) (fun z_16 e_z_16 => ?_)
            ·
              exact ⟨_, rfl, trivial⟩
            ·
              have k_z_16 := h_r38 _ e_z_16
              refine wp_pqs (s_X5_tell k_z_16 h_10 h_15 h) (fun r42 _ => ?_)
              exact ⟨_, rfl, trivial⟩
          ·
            have h_17 : Rg 5 2147483647 _ := rg_lt2 rc_4 h_13 (nle32 c_14) (by decide)
            exact s_X8_may_34 h
      ·
        have h_18 : Rg 11 2147483647 _ := rg_le2 rc_11 h_8 (nlt32 c_9) (by decide)
        exact s_X8_may_21 h
set_option maxRecDepth 100000 in
theorem s_X8_cell {g : gh} {S : sh} {D : dt}  {x1 : Int32} {x2 : Int32}  (h : Inv g S D) : wp (f_X8_cell S D 0 x1 x2) (fun q => Rg (-1) 3 q) := by
  unfold f_X8_cell
  refine wp_rq (iR_0_0 h) ?_
  refine wp_pqs (s_X4_has h) (fun r25 q_r25 => ?_)
  obtain ⟨h_r25, x_r25⟩ := q_r25
  refine wp_if (fun c_1 => ?_) (fun c_1 => ?_)
  ·
    have h_2 : Rg 0 0 _ := rg_eq1 h_r25 rc_0 c_1 (by decide)
    exact ⟨_, rfl, (rg_w rc_m1 (by decide))⟩
  ·
    have h_3 := x_r25 c_1
    have h_4 : Rg 0 199 _ := rg_eq1 h_3 (rg_top _) rfl (by decide)
    have h_5 : Rg 1 1 _ := rg_ne1 h_r25 rc_0 c_1 (by decide)
    refine wp_if (fun c_6 => ?_) (fun c_6 => ?_)
    ·
      have h_7 : Rg (-2147483648) (-513) _ := rg_lt1 (rg_top _) rc_m512 c_6 (by decide)
      exact ⟨_, rfl, (rg_w rc_m1 (by decide))⟩
    ·
      have h_8 : Rg (-512) 2147483647 _ := rg_le2 rc_m512 (rg_top _) (nlt32 c_6) (by decide)
      refine wp_if (fun c_9 => ?_) (fun c_9 => ?_)
      ·
        have h_10 : Rg (-512) (-1) _ := rg_le1 h_8 rc_m1 c_9 (by decide)
        refine wp_rq (iR_0_3 h) ?_
        refine wp_pqs (s_X0_sceneAt h_4 h) (fun r34 h_r34 => ?_)
        refine wp_oq (fun e_z_11 => ?_) (fun z_11 e_z_11 => ?_)
        ·
          exact ⟨_, rfl, (rg_w rc_0 (by decide))⟩
        ·
          have k_z_11 := h_r34 _ e_z_11
          refine wp_pqs (s_X5_tellOctet k_z_11 (rg_add h_10 rc_512 (by decide) : Rg 0 511 _) h) (fun r38 h_r38 => ?_)
          exact ⟨_, rfl, (rg_w h_r38 (by decide))⟩
      ·
        have h_12 : Rg 0 2147483647 _ := rg_lt2 rc_m1 h_8 (nle32 c_9) (by decide)
        exact ⟨_, rfl, (rg_w rc_m1 (by decide))⟩
def stT (c : Int) (r : Int32) : Prop := (c = 0 → r = -3) ∧ (c ≠ 0 → r = 1)
theorem q_start {g : gh} {S : sh} {D : dt} (h : Inv g S D) : wp (f_X8_start S 0 D) (fun q => stT (g.1 0) q.1 ∧ Inv g S q.2) := by
  unfold f_X8_start
  have ec := iG_1_5 h
  have l0 : (0 : Int32).toInt = 0 := rfl
  refine wp_rq (iR_0_0 h) (wp_if (fun c => ⟨_, rfl, ⟨fun _ => rfl, fun n => ?_⟩, h⟩) (fun c => wp_rq (iR_0_2 h) (wp_cqs (s_X1_begin h) (fun _ D1 h1 => ⟨_, rfl, ⟨fun e => ?_, fun _ => rfl⟩, h1⟩))))
  · rw [c] at ec
    omega
  · exact absurd (Int32.toInt_inj.mp (by omega)) c
set_option maxRecDepth 100000 in
theorem s_X8_step {g : gh} {S : sh}   {D : dt}  (h : Inv g S D) : wp (f_X8_step S 0 D) (fun q => Rg (-3) 5 q.1 ∧ Inv g S q.2) := by
  unfold f_X8_step
  refine wp_rq (iR_0_2 h) ?_
  refine wp_if (fun c_1 => ?_) (fun c_1 => ?_)
  ·
    have h_2 : Rg 1 1 _ := rg_eq1 (rg_top _) rc_1 c_1 (by decide)
    refine wp_rq (iR_0_2 h) ?_
    refine wp_cqs (s_X1_advance h) (fun r23 D24 q_r23 => ?_)
    obtain ⟨h_r23, h_D24⟩ := q_r23
    exact ⟨_, rfl, (rg_w h_r23 (by decide)), h_D24⟩
  ·
    exact ⟨_, rfl, (rg_w rc_m3 (by decide)), h⟩
set_option maxRecDepth 100000 in
theorem s_X8_run_60 {g : gh} {S : sh}   {D : dt}  (h : Inv g S D) : wp (f_X8_run_60 S 0 D) (fun q => Inv g S q.2) := by
  unfold f_X8_run_60
  refine wp_rq (iR_0_2 h) ?_
  exact ⟨_, rfl, h⟩
set_option maxRecDepth 100000 in
theorem s_X8_run_30 {g : gh} {S : sh}  : ∀ (n : Nat) (x1 : Int32) (x2 : Int32) (D : dt), Rg 0 10000 x1 → Rg 0 10000 x2 → 10000 - x2.toInt < (n : Int) → Inv g S D → wp (f_X8_run_30 S n 0 x1 x2 D) (fun q => Inv g S q.2) := by
  intro n
  induction n with
  | zero =>
    intro x1 x2 D hx1 hx2 hm h
    exact (ms_0 hx2 (by decide) hm).elim
  | succ n ih =>
    intro x1 x2 D hx1 hx2 hm h
    rw [f_X8_run_30.eq_2]
    refine wp_if (fun c_1 => ?_) (fun c_1 => ?_)
    ·
      exact s_X8_run_60 h
    ·
      have h_2 : Rg 0 9999 _ := rg_lt1 hx2 hx1 (nle32 c_1) (by decide)
      have h_3 : Rg 1 10000 _ := rg_lt2 hx2 hx1 (nle32 c_1) (by decide)
      refine wp_rq (iR_0_2 h) ?_
      refine wp_if (fun c_4 => ?_) (fun c_4 => ?_)
      ·
        have h_5 : Rg 1 1 _ := rg_eq1 (rg_top _) rc_1 c_4 (by decide)
        refine wp_rq (iR_0_2 h) ?_
        refine wp_cqs (s_X1_advance h) (fun r42 D43 q_r42 => ?_)
        obtain ⟨h_r42, h_D43⟩ := q_r42
        refine wp_nmI (fun y44 e_y44 => ?_)
        have h_y44 : Rg 1 10000 y44 := rg_eq e_y44 (rg_add h_2 rc_1 (by decide) : Rg 1 10000 _)
        exact ih _ _ _ (rg_w h_3 (by decide)) (rg_w h_y44 (by decide)) (by rw [e_y44]; exact ms_up h_2 (by decide) hm) h_D43
      ·
        exact s_X8_run_60 h
set_option maxRecDepth 100000 in
theorem s_X8_run {g : gh} {S : sh}  {x1 : Int32} {D : dt}  (h : Inv g S D) : wp (f_X8_run S 0 x1 D) (fun q => Inv g S q.2) := by
  unfold f_X8_run
  refine wp_if (fun c_1 => ?_) (fun c_1 => ?_)
  ·
    have h_2 : Rg (-2147483648) (-1) _ := rg_lt1 (rg_top _) rc_0 c_1 (by decide)
    exact ⟨_, rfl, h⟩
  ·
    have h_3 : Rg 0 2147483647 _ := rg_le2 rc_0 (rg_top _) (nlt32 c_1) (by decide)
    refine wp_if (fun c_4 => ?_) (fun c_4 => ?_)
    ·
      have h_5 : Rg 0 10000 _ := rg_le1 h_3 rc_10000 c_4 (by decide)
      refine wp_rq (iR_0_2 h) ?_
      refine wp_if (fun c_6 => ?_) (fun c_6 => ?_)
      ·
        have h_7 : Rg 1 1 _ := rg_eq1 (rg_top _) rc_1 c_6 (by decide)
        refine wp_nmI (fun y52 e_y52 => ?_)
        have h_y52 : Rg 0 0 y52 := rg_eq e_y52 rc_0
        exact s_X8_run_30  LF _ _ _ h_5 (rg_w h_y52 (by decide)) (ms_in h_y52 (by decide)) h
      ·
        exact ⟨_, rfl, h⟩
    ·
      have h_8 : Rg 10001 2147483647 _ := rg_lt2 rc_10000 h_3 (nle32 c_4) (by decide)
      exact ⟨_, rfl, h⟩
set_option maxRecDepth 100000 in
theorem s_X8_told {g : gh} {S : sh} {D : dt}  {x1 : Int32}  (h : Inv g S D) : wp (f_X8_told S D 0 x1) (fun q => True) := by
  unfold f_X8_told
  refine wp_if (fun c_1 => ?_) (fun c_1 => ?_)
  ·
    have h_2 : Rg 0 0 _ := rg_eq1 (rg_top _) rc_0 c_1 (by decide)
    refine wp_rq (iR_0_2 h) ?_
    exact ⟨_, rfl, trivial⟩
  ·
    refine wp_if (fun c_3 => ?_) (fun c_3 => ?_)
    ·
      have h_4 : Rg 1 1 _ := rg_eq1 (rg_top _) rc_1 c_3 (by decide)
      refine wp_rq (iR_0_2 h) ?_
      exact ⟨_, rfl, trivial⟩
    ·
      refine wp_if (fun c_5 => ?_) (fun c_5 => ?_)
      ·
        have h_6 : Rg 2 2 _ := rg_eq1 (rg_top _) rc_2 c_5 (by decide)
        refine wp_rq (iR_0_2 h) ?_
        exact ⟨_, rfl, trivial⟩
      ·
        refine wp_if (fun c_7 => ?_) (fun c_7 => ?_)
        ·
          have h_8 : Rg 3 3 _ := rg_eq1 (rg_top _) rc_3 c_7 (by decide)
          refine wp_rq (iR_0_0 h) ?_
          exact ⟨_, rfl, trivial⟩
        ·
          refine wp_if (fun c_9 => ?_) (fun c_9 => ?_)
          ·
            have h_10 : Rg 4 4 _ := rg_eq1 (rg_top _) rc_4 c_9 (by decide)
            refine wp_rq (iR_0_1 h) ?_
            exact ⟨_, rfl, trivial⟩
          ·
            refine wp_if (fun c_11 => ?_) (fun c_11 => ?_)
            ·
              have h_12 : Rg 5 5 _ := rg_eq1 (rg_top _) rc_5 c_11 (by decide)
              refine wp_rq (iR_0_2 h) ?_
              exact ⟨_, rfl, trivial⟩
            ·
              exact ⟨_, rfl, trivial⟩
set_option maxRecDepth 100000 in
theorem s_X8_register_10 {g : gh} {S : sh} {D : dt}    (h : Inv g S D) : wp (f_X8_register_10 S D) (fun q => True) := by
  unfold f_X8_register_10
  exact ⟨_, rfl, trivial⟩
set_option maxRecDepth 100000 in
theorem s_X8_register {g : gh} {S : sh} {D : dt}  {x1 : Int32}  (h : Inv g S D) : wp (f_X8_register S D 0 x1) (fun q => True) := by
  unfold f_X8_register
  refine wp_if (fun c_1 => ?_) (fun c_1 => ?_)
  ·
    have h_2 : Rg (-2147483648) (-1) _ := rg_lt1 (rg_top _) rc_0 c_1 (by decide)
    exact s_X8_register_10 h
  ·
    have h_3 : Rg 0 2147483647 _ := rg_le2 rc_0 (rg_top _) (nlt32 c_1) (by decide)
    refine wp_if (fun c_4 => ?_) (fun c_4 => ?_)
    ·
      have h_5 : Rg 0 10 _ := rg_lt1 h_3 rc_11 c_4 (by decide)
      refine wp_rq (iR_0_2 h) ?_
      refine wp_rq (iR_11_2 h) ?_
      refine wp_ix (in_rg h_5 (iA_12 h) (by decide)) ?_
      exact ⟨_, rfl, trivial⟩
    ·
      have h_6 : Rg 11 2147483647 _ := rg_le2 rc_11 h_3 (nlt32 c_4) (by decide)
      exact s_X8_register_10 h
set_option maxRecDepth 100000 in
theorem s_X8_octet {g : gh} {S : sh}  {x1 : Int64} {D : dt}  (h : Inv g S D) : wp (f_X8_octet S 0 x1 D) (fun q => Inv g S q.2) := by
  unfold f_X8_octet
  refine wp_rq (iR_0_1 h) ?_
  refine wp_cqs (s_X2_find (rg_w rc_1 (by decide)) (rg_w rc_0 (by decide)) h) (fun r20 D21 q_r20 => ?_)
  obtain ⟨h_r20, p_r20, h_D21⟩ := q_r20
  refine wp_if (fun c_1 => ?_) (fun c_1 => ?_)
  ·
    have h_2 : Rg 0 0 _ := rg_eq1 h_r20 rc_0 c_1 (by decide)
    exact ⟨_, rfl, h_D21⟩
  ·
    have h_3 : Rg 1 1 _ := rg_ne1 h_r20 rc_0 c_1 (by decide)
    refine wp_rq (iR_0_1 h_D21) ?_
    refine wp_pqs (s_X2_foundNumber (rg_w rc_1 (by decide)) (p_r20.1 c_1) h_D21) (fun r28 _ => ?_)
    exact ⟨_, rfl, h_D21⟩
set_option maxRecDepth 100000 in
theorem s_X8_putAt {g : gh} {S : sh} {D : dt}  {x1 : Int32}  (h : Inv g S D) : wp (f_X8_putAt S D 0 x1) (fun q => True) := by
  unfold f_X8_putAt
  refine wp_rq (iR_0_2 h) ?_
  refine wp_pqs (s_X1_keptPut h) (fun r12 _ => ?_)
  exact ⟨_, rfl, trivial⟩
set_option maxRecDepth 100000 in
theorem s_X8_keys {g : gh} {S : sh} {D : dt}  {x1 : Int32}  (h : Inv g S D) : wp (f_X8_keys S D 0 x1) (fun q => True) := by
  unfold f_X8_keys
  refine wp_rq (iR_0_1 h) ?_
  refine wp_pqs (s_X2_tableNumbered h) (fun r16 h_r16 => ?_)
  refine wp_oq (fun e_z_1 => ?_) (fun z_1 e_z_1 => ?_)
  ·
    exact ⟨_, rfl, trivial⟩
  ·
    have k_z_1 := h_r16 _ e_z_1
    refine wp_pqs (s_X7_keyCount k_z_1 h) (fun r20 _ => ?_)
    exact ⟨_, rfl, trivial⟩
theorem s_X9_in {x0 x2 x4 : Int64} : wp (f_X9_in x0 x2 x4) (fun q => Rg 0 1 q ∧ (q ≠ 0 → x2.toInt ≤ x0.toInt ∧ x0.toInt ≤ x4.toInt)) := by
  unfold f_X9_in
  refine wp_if (fun _ => ⟨_, rfl, r01_0, fun ne => absurd rfl ne⟩) (fun c => wp_if (fun _ => ⟨_, rfl, r01_0, fun ne => absurd rfl ne⟩) (fun c2 => ⟨_, rfl, r01_1, fun _ => ⟨?_, ?_⟩⟩))
  · exact Int64.le_iff_toInt_le.mp (nlt64 (fun q => c ((lg_cmp_lt _ _).mpr q)))
  · exact Int64.le_iff_toInt_le.mp (nlt64 (fun q => c2 ((lg_cmp_gt _ _).mpr q)))
set_option maxRecDepth 100000 in
theorem s_X9_isBelow  {x0 : Int64} {x2 : Int64}  : wp (f_X9_isBelow x0 x2) (fun q => Rg 0 1 q) := by
  unfold f_X9_isBelow
  refine wp_if (fun c_1 => ?_) (fun c_1 => ?_)
  ·
    exact ⟨_, rfl, (rg_w rc_0 (by decide))⟩
  ·
    have h_2 : RgL (-9223372036854775808) 9223372036854775806 _ := rgl_lt1 (rgl_top _) (rgl_top _) (nle64 (fun q => c_1 ((lg_cmp_ge _ _).mpr q))) (by decide)
    have h_3 : RgL (-9223372036854775807) 9223372036854775807 _ := rgl_lt2 (rgl_top _) (rgl_top _) (nle64 (fun q => c_1 ((lg_cmp_ge _ _).mpr q))) (by decide)
    exact ⟨_, rfl, (rg_w rc_1 (by decide))⟩
set_option maxRecDepth 100000 in
theorem s_X9_isSlot  {x0 : Int32} {x1 : Int32} {x2 : Int32}  : wp (f_X9_isSlot x0 x1 x2) (fun q => Rg 0 1 q ∧ (q ≠ 0 → Rg 0 255 x0 ∧ Rg 0 255 x1 ∧ Rg (-32768) 32767 x2)) := by
  unfold f_X9_isSlot
  refine wp_pqs (s_X9_in) (fun r11 q_r11 => ?_)
  obtain ⟨h_r11, x_r11⟩ := q_r11
  refine wp_if (fun c_1 => ?_) (fun c_1 => ?_)
  ·
    have h_2 : Rg 0 0 _ := rg_eq1 h_r11 rc_0 c_1 (by decide)
    exact ⟨_, rfl, (rg_w rc_0 (by decide)), (fun ne => absurd rfl ne)⟩
  ·
    have h_3 := x_r11 c_1
    have h_4 : RgL 0 255 _ := rgl_in (rgl_of (rg_top _) : RgL (-2147483648) 2147483647 _) rcl_0 rcl_255 h_3 (by decide)
    have h_5 : Rg 0 255 _ := rg_of32 h_4
    have h_6 : Rg 1 1 _ := rg_ne1 h_r11 rc_0 c_1 (by decide)
    refine wp_pqs (s_X9_in) (fun r14 q_r14 => ?_)
    obtain ⟨h_r14, x_r14⟩ := q_r14
    refine wp_if (fun c_7 => ?_) (fun c_7 => ?_)
    ·
      have h_8 : Rg 0 0 _ := rg_eq1 h_r14 rc_0 c_7 (by decide)
      exact ⟨_, rfl, (rg_w rc_0 (by decide)), (fun ne => absurd rfl ne)⟩
    ·
      have h_9 := x_r14 c_7
      have h_10 : RgL 0 255 _ := rgl_in (rgl_of (rg_top _) : RgL (-2147483648) 2147483647 _) rcl_0 rcl_255 h_9 (by decide)
      have h_11 : Rg 0 255 _ := rg_of32 h_10
      have h_12 : Rg 1 1 _ := rg_ne1 h_r14 rc_0 c_7 (by decide)
      refine wp_pqs (s_X9_in) (fun r17 q_r17 => ?_)
      obtain ⟨h_r17, x_r17⟩ := q_r17
      refine wp_if (fun c_13 => ?_) (fun c_13 => ?_)
      ·
        have h_14 : Rg 0 0 _ := rg_eq1 h_r17 rc_0 c_13 (by decide)
        exact ⟨_, rfl, (rg_w rc_0 (by decide)), (fun ne => absurd rfl ne)⟩
      ·
        have h_15 := x_r17 c_13
        have h_16 : RgL (-32768) 32767 _ := rgl_in (rgl_of (rg_top _) : RgL (-2147483648) 2147483647 _) rcl_m32768 rcl_32767 h_15 (by decide)
        have h_17 : Rg (-32768) 32767 _ := rg_of32 h_16
        have h_18 : Rg 1 1 _ := rg_ne1 h_r17 rc_0 c_13 (by decide)
        exact ⟨_, rfl, (rg_w rc_1 (by decide)), (fun _ => ⟨h_5, h_11, h_17⟩)⟩
theorem inv_cnt28 {g : gh} {S : sh} {D : dt} {v : Int32} (h : Inv g S D) (hv : Rg 0 200 v) : Inv (upN g 2 v.toInt) S (pI D 28 0 v) := by
  have e : ∀ a b, ¬ (a = 28 ∧ b = 0) → gI (pI D 28 0 v) a b = gI D a b := fun a b n => by rw [gI_pI, if_neg n]
  obtain ⟨a1, a2, a3, a4, a5, a6, ⟨c0, c1, c2, c3, c4⟩, a8, a9, a10, a11⟩ := id h
  refine ⟨a1, fun a b ha => ?_, a3, a4, fun a k => ?_, fun a k => ?_, ⟨c0, c1, hv, c3, c4⟩, fun a b ha => ?_, a9, ⟨fun b => ?_, fun b => ?_, fun b => ?_, ?_⟩, fun hz => ?_⟩
  · by_cases q : a = 28 ∧ b = 0
    · obtain ⟨rfl, rfl⟩ := q
      rw [gI_pI, if_pos ⟨rfl, rfl⟩]
      exact ⟨Int.le_refl _, Int.le_refl _⟩
    · rw [e a b q]
      have eb : bI (upN g 2 v.toInt) a b = bI g a b := by
        unfold bI
        split <;> first
          | rfl
          | (split <;> first
              | rfl
              | exact absurd ⟨rfl, rfl⟩ q)
      rw [eb]
      exact a2 a b ha
  · have n : a ≠ 28 := k_at h k 28 (by decide) (by decide)
    simp only [e a _ (fun q => n q.1)]
    exact a5 a k
  · have n : a + 1 ≠ 28 := sc_ne h k (by decide) (by decide) (by decide)
    refine ⟨(a6 a k).1, fun p hp => ?_⟩
    rw [e (a + 1) p (fun q => n q.1)]
    exact (a6 a k).2 p hp
  · rw [e a b (by rintro ⟨rfl, -⟩; cases ha)]
    exact a8 a b ha
  · rw [e 60 b (fun q => by omega)]
    exact a10.1 b
  · rw [e 49 b (fun q => by omega)]
    exact a10.2.1 b
  · rw [e 55 b (fun q => by omega)]
    exact a10.2.2.1 b
  · rw [e 28 47 (fun q => by omega)]
    exact a10.2.2.2
  · obtain ⟨f1, f2, f3, f4, f5, f6⟩ := a11 hz
    exact ⟨(e 14 8 (fun q => by omega)).trans f1, (e 14 10 (fun q => by omega)).trans f2, f3, f4, fun b q => f5 b ((e 60 b (fun q => by omega)).symm.trans q), (e 28 53 (fun q => by omega)).trans f6⟩
theorem inv_tbs28 {g : gh} {S : sh} {D : dt} {v : Int32} (h : Inv g S D) (hv : Rg 0 4 v) : Inv (upN g 3 v.toInt) S (pI D 28 9 v) := by
  have e : ∀ a b, ¬ (a = 28 ∧ b = 9) → gI (pI D 28 9 v) a b = gI D a b := fun a b n => by rw [gI_pI, if_neg n]
  obtain ⟨a1, a2, a3, a4, a5, a6, ⟨c0, c1, c2, c3, c4⟩, a8, a9, a10, a11⟩ := id h
  refine ⟨a1, fun a b ha => ?_, a3, a4, fun a k => ?_, fun a k => ?_, ⟨c0, c1, c2, hv, c4⟩, fun a b ha => ?_, a9, ⟨fun b => ?_, fun b => ?_, fun b => ?_, ?_⟩, fun hz => ?_⟩
  · by_cases q : a = 28 ∧ b = 9
    · obtain ⟨rfl, rfl⟩ := q
      rw [gI_pI, if_pos ⟨rfl, rfl⟩]
      exact ⟨Int.le_refl _, Int.le_refl _⟩
    · rw [e a b q]
      have eb : bI (upN g 3 v.toInt) a b = bI g a b := by
        unfold bI
        split <;> first
          | rfl
          | (split <;> first
              | rfl
              | exact absurd ⟨rfl, rfl⟩ q)
      rw [eb]
      exact a2 a b ha
  · have n : a ≠ 28 := k_at h k 28 (by decide) (by decide)
    simp only [e a _ (fun q => n q.1)]
    exact a5 a k
  · have n : a + 1 ≠ 28 := sc_ne h k (by decide) (by decide) (by decide)
    refine ⟨(a6 a k).1, fun p hp => ?_⟩
    rw [e (a + 1) p (fun q => n q.1)]
    exact (a6 a k).2 p hp
  · rw [e a b (by rintro ⟨rfl, -⟩; cases ha)]
    exact a8 a b ha
  · rw [e 60 b (fun q => by omega)]
    exact a10.1 b
  · rw [e 49 b (fun q => by omega)]
    exact a10.2.1 b
  · rw [e 55 b (fun q => by omega)]
    exact a10.2.2.1 b
  · rw [e 28 47 (fun q => by omega)]
    exact a10.2.2.2
  · obtain ⟨f1, f2, f3, f4, f5, f6⟩ := a11 hz
    exact ⟨(e 14 8 (fun q => by omega)).trans f1, (e 14 10 (fun q => by omega)).trans f2, f3, f4, fun b q => f5 b ((e 60 b (fun q => by omega)).symm.trans q), (e 28 53 (fun q => by omega)).trans f6⟩
theorem q_set9 {g : gh} {S : sh} {x1 x2 x3 x4 x5 : Int32} {D : dt} (hx1 : Rg 0 199 x1) (hx2 : Rg 0 255 x2) (hx3 : Rg 0 255 x3) (hx4 : Rg (-32768) 32767 x4) (h : Inv g S D) : wp (f_X9_set S 28 x1 x2 x3 x4 x5 D) (fun q => gI q.2 28 0 = gI D 28 0 ∧ ∃ g', Inv g' S q.2 ∧ Gs g g') := by
  unfold f_X9_set
  have i : ∀ {o : Nat}, sA S o = 200 → vp_in x1 (sA S o) := fun e => in_rg hx1 e (by decide)
  refine wp_rq (iR_28_1 h) (wp_ix (i (iA_29 h)) (wp_nmI (fun D1 e1 => ?_)))
  have h1 : Inv (upP g 29 x1.toNatClampNeg x2) S D1 := by rw [e1]; exact inv_pP h rfl hx2
  refine wp_rq (iR_28_2 h1) (wp_ix (i (iA_30 h)) (wp_nmI (fun D2 e2 => ?_)))
  have h2 : Inv (upP (upP g 29 x1.toNatClampNeg x2) 30 x1.toNatClampNeg (x3 &&& 15)) S D2 := by rw [e2]; exact inv_pP h1 rfl (rg_andr (l := 0) (h := 15) _ (by decide))
  refine wp_rq (iR_28_3 h2) (wp_ix (i (iA_31 h)) (wp_nmI (fun D3 e3 => ?_)))
  have h3 : Inv (upP (upP (upP g 29 x1.toNatClampNeg x2) 30 x1.toNatClampNeg (x3 &&& 15)) 31 x1.toNatClampNeg (x3 >>> ((4 : Int32) &&& 31))) S D3 := by rw [e3]; exact inv_pP h2 rfl (rg_shr (l := 0) (h := 15) hx3 (by decide))
  refine wp_rq (iR_28_4 h3) (wp_ix (i (iA_32 h)) (wp_nmI (fun D4 e4 => ?_)))
  have h4 : Inv (upP (upP (upP (upP g 29 x1.toNatClampNeg x2) 30 x1.toNatClampNeg (x3 &&& 15)) 31 x1.toNatClampNeg (x3 >>> ((4 : Int32) &&& 31))) 32 x1.toNatClampNeg x4) S D4 := by rw [e4]; exact inv_pP h3 rfl hx4
  refine wp_rq (iR_28_5 h4) (wp_ix (i (iA_33 h)) (wp_nmI (fun D5 e5 => ?_)))
  have h5 : Inv (upP (upP (upP (upP (upP g 29 x1.toNatClampNeg x2) 30 x1.toNatClampNeg (x3 &&& 15)) 31 x1.toNatClampNeg (x3 >>> ((4 : Int32) &&& 31))) 32 x1.toNatClampNeg x4) 33 x1.toNatClampNeg x5) S D5 := by rw [e5]; exact inv_pP h4 rfl (rg_top _)
  refine wp_nmI (fun D6 e6 => ⟨_, rfl, ?_, upP (upP (upP (upP (upP g 29 x1.toNatClampNeg x2) 30 x1.toNatClampNeg (x3 &&& 15)) 31 x1.toNatClampNeg (x3 >>> ((4 : Int32) &&& 31))) 32 x1.toNatClampNeg x4) 33 x1.toNatClampNeg x5, ?_, rfl⟩)
  · show gI D6 28 0 = gI D 28 0
    rw [e6, gI_pI, if_neg (by decide), e5, gI_pI, if_neg (fun q => by omega), e4, gI_pI, if_neg (fun q => by omega), e3, gI_pI, if_neg (fun q => by omega), e2, gI_pI, if_neg (fun q => by omega), e1, gI_pI, if_neg (fun q => by omega)]
  · show Inv _ S D6
    rw [e6]
    exact inv_i28 h5 (Or.inl (by decide)) (rg_top _)
theorem in_iff {x0 x2 x4 : Int64} : wp (f_X9_in x0 x2 x4) (fun q => (q = 0 → ¬ (x2.toInt ≤ x0.toInt ∧ x0.toInt ≤ x4.toInt)) ∧ (q ≠ 0 → x2.toInt ≤ x0.toInt ∧ x0.toInt ≤ x4.toInt)) := by
  unfold f_X9_in
  refine wp_if (fun c => ⟨_, rfl, fun _ q => ?_, fun ne => absurd rfl ne⟩) (fun c => wp_if (fun c2 => ⟨_, rfl, fun _ q => ?_, fun ne => absurd rfl ne⟩) (fun c2 => ⟨_, rfl, fun e => absurd e (by decide), fun _ => ?_⟩))
  · have := Int64.lt_iff_toInt_lt.mp ((lg_cmp_lt _ _).mp c)
    omega
  · have := Int64.lt_iff_toInt_lt.mp ((lg_cmp_gt _ _).mp c2)
    omega
  · have := Int64.le_iff_toInt_le.mp (nlt64 (fun q => c ((lg_cmp_lt _ _).mpr q)))
    have := Int64.le_iff_toInt_le.mp (nlt64 (fun q => c2 ((lg_cmp_gt _ _).mpr q)))
    omega
theorem in_iff32 {x0 : Int32} {x2 x4 : Int64} : wp (f_X9_in x0.toInt64 x2 x4) (fun q => (q = 0 → ¬ (x2.toInt ≤ x0.toInt ∧ x0.toInt ≤ x4.toInt)) ∧ (q ≠ 0 → x2.toInt ≤ x0.toInt ∧ x0.toInt ≤ x4.toInt)) := by
  have := in_iff (x0 := x0.toInt64) (x2 := x2) (x4 := x4)
  rw [Int32.toInt_toInt64] at this
  exact this
theorem slot_iff {x0 x1 x2 : Int32} : wp (f_X9_isSlot x0 x1 x2) (fun q => (q = 0 → ¬ fit x0 x1 x2) ∧ (q ≠ 0 → fit x0 x1 x2)) := by
  unfold f_X9_isSlot
  have z : ∀ {P : Prop}, (0 : Int32) ≠ 0 → P := fun ne => absurd rfl ne
  refine wp_pqs in_iff32 (fun r p => wp_if (fun c => ⟨_, rfl, fun _ f => p.1 c f.1, z⟩) (fun c => wp_pqs in_iff32 (fun r2 p2 => wp_if (fun c2 => ⟨_, rfl, fun _ f => p2.1 c2 f.2.1, z⟩) (fun c2 => wp_pqs in_iff32 (fun r3 p3 => wp_if (fun c3 => ⟨_, rfl, fun _ f => p3.1 c3 f.2.2, z⟩) (fun c3 => ⟨_, rfl, fun e => absurd e (by decide), fun _ => ⟨p.2 c, p2.2 c2, p3.2 c3⟩⟩))))))
theorem q_feed9 {g : gh} {S : sh} {x1 x2 x3 x4 : Int32} {D : dt} (h : Inv g S D) : wp (f_X9_feed S 28 x1 x2 x3 x4 D) (fun q => ∃ g', Inv g' S q.2 ∧ Gx g g' 2 ∧ feP (g.1 2) x1 x2 x3 q.1.toInt (g'.1 2)) := by
  unfold f_X9_feed
  have ec := iG_28_0 h
  have hc := iF_28_0 h
  have l : (200 : Int32).toInt = 200 := rfl
  refine wp_pqs slot_iff (fun r p => wp_if (fun c => ⟨_, rfl, g, h, fun _ _ => rfl, ?_⟩) (fun c => wp_if (fun c2 => ⟨_, rfl, g, h, fun _ _ => rfl, ?_⟩) (fun c2 => ?_)))
  · have n := p.1 c
    exact ⟨fun f => absurd f n, fun f => absurd f n, fun _ => ⟨rfl, rfl⟩⟩
  · have f := p.2 c
    rw [c2] at ec
    exact ⟨fun _ q => by omega, fun _ _ => ⟨rfl, rfl⟩, fun n => absurd f n⟩
  · have f := p.2 c
    have ne : (gI D 28 0).toInt ≠ 200 := fun e => c2 (Int32.toInt_inj.mp (by omega))
    have hy : Rg 0 199 (gI D 28 0) := ⟨hc.1, by have := hc.2; omega⟩
    refine wp_cqs (q_set9 hy f.1 f.2.1 f.2.2 h) (fun _ D1 q => ?_)
    obtain ⟨eq, g1, h1, gs⟩ := q
    have eq : gI D1 28 0 = gI D 28 0 := eq
    have h1 : Inv g1 S D1 := h1
    have ea : (gI D1 28 0 + 1).toInt = g.1 2 + 1 := by rw [eq, i32_add hy (by decide : Rg 1 1 (1 : Int32)) (by decide), ec]; rfl
    have a1 : Rg 0 200 (gI D1 28 0 + 1) := ⟨by have := hc.1; omega, by omega⟩
    refine wp_nmI (fun D2 e2 => ⟨_, rfl, upN g1 2 (gI D1 28 0 + 1).toInt, ?_, fun m hm => ?_, ?_⟩)
    · show Inv _ S D2
      rw [e2]
      exact inv_cnt28 h1 a1
    · show (if m = 2 then _ else g1.1 m) = g.1 m
      rw [if_neg hm, gs]
    · show feP (g.1 2) x1 x2 x3 (gI D2 28 0 - 1).toInt (gI D1 28 0 + 1).toInt
      have e3 : gI D2 28 0 = gI D1 28 0 + 1 := by rw [e2, gI_pI, if_pos ⟨rfl, rfl⟩]
      have e4 : (gI D2 28 0 - 1).toInt = g.1 2 := by
        rw [i32_sub (x := gI D2 28 0) (a := 0) (b := 200) (by rw [e3]; exact a1) (by decide : Rg 1 1 (1 : Int32)) (by decide), e3, ea]
        have l1 : (1 : Int32).toInt = 1 := rfl
        omega
      rw [e4, ea]
      exact ⟨fun _ _ => ⟨rfl, rfl⟩, fun _ n => absurd (by omega) n, fun n => absurd f n⟩
theorem q_alter9 {g : gh} {S : sh} {x1 x2 x3 x4 x5 : Int32} {D : dt} (h : Inv g S D) : wp (f_X9_alter S 28 x1 x2 x3 x4 x5 D) (fun q => ∃ g', Inv g' S q.2 ∧ Gs g g' ∧ alT (g.1 2) x1 x2 x3 x4 q.1.toInt) := by
  unfold f_X9_alter
  have ec := iG_28_0 h
  have hc := iF_28_0 h
  have l0 : (0 : Int64).toInt = 0 := rfl
  have l1 : (1 : Int32).toInt = 1 := rfl
  have es : (gI D 28 0 - 1).toInt64.toInt = g.1 2 - 1 := by
    rw [Int32.toInt_toInt64, i32_sub hc (by decide : Rg 1 1 (1 : Int32)) (by decide), ec, l1]
  refine wp_pqs in_iff32 (fun r p => wp_if (fun c => ⟨_, rfl, g, h, rfl, ?_⟩) (fun c => wp_pqs slot_iff (fun r2 p2 => wp_if (fun c2 => ⟨_, rfl, g, h, rfl, ?_⟩) (fun c2 => ?_))))
  · have n := p.1 c
    rw [es] at n
    exact ⟨fun q => by omega, fun q => by omega, fun _ => rfl⟩
  · have y := p.2 c
    rw [es] at y
    exact ⟨fun _ f => absurd f (p2.1 c2), fun _ _ => rfl, fun q => by omega⟩
  · have y := p.2 c
    rw [es] at y
    have f := p2.2 c2
    refine wp_cqs (q_set9 ⟨by omega, by have := hc.2; omega⟩ f.1 f.2.1 f.2.2 h) (fun _ D1 q => ?_)
    obtain ⟨-, g1, h1, gs⟩ := q
    exact ⟨_, rfl, g1, h1, gs, fun _ _ => rfl, fun _ n => absurd f n, fun n => by omega⟩
theorem q_cut9 {g : gh} {S : sh} {x1 : Int32} {D : dt} (h : Inv g S D) : wp (f_X9_cut S 28 x1 D) (fun q => ∃ g', Inv g' S q.2 ∧ Gx g g' 2 ∧ cuT (g.1 2) x1 q.1.toInt (g'.1 2)) := by
  unfold f_X9_cut
  have ec := iG_28_0 h
  have hc := iF_28_0 h
  have l0 : (0 : Int64).toInt = 0 := rfl
  have es : (gI D 28 0).toInt64.toInt = g.1 2 := by rw [Int32.toInt_toInt64, ec]
  refine wp_pqs in_iff32 (fun r p => wp_if (fun c => ⟨_, rfl, g, h, fun _ _ => rfl, ?_⟩) (fun c => wp_nmI (fun y ey => wp_nmI (fun D1 e1 => wp_nmI (fun D2 e2 => ⟨_, rfl, upN g 2 x1.toInt, ?_, fun m hm => ?_, ?_⟩)))))
  · have n := p.1 c
    rw [es] at n
    exact ⟨fun q => by omega, fun _ => ⟨rfl, rfl⟩⟩
  · have y := p.2 c
    rw [es] at y
    show Inv _ S D2
    rw [e2, e1]
    exact inv_i28 (inv_cnt28 h ⟨by omega, by have := hc.2; omega⟩) (Or.inl (by decide)) (rg_top _)
  · show (if m = 2 then _ else g.1 m) = g.1 m
    rw [if_neg hm]
  · have y' := p.2 c
    rw [es] at y'
    show cuT (g.1 2) x1 y.toInt x1.toInt
    rw [ey, ec]
    exact ⟨fun _ => ⟨rfl, rfl⟩, fun n => by omega⟩
set_option maxRecDepth 100000 in
theorem s_X9_isRegister_313 {g : gh} {S : sh} {D : dt}  {x1 : Int32} {x5 : Int32} (hx1 : Rg 0 199 x1) (hx5 : Rg 0 1 x5) (h30_x1 : Rg 0 9 (g.2 30 x1.toNatClampNeg)) (hx5_c_31_x1 : (x5 ≠ 0 → Rg 0 10 (g.2 31 x1.toNatClampNeg))) (h : Inv g S D) : wp (f_X9_isRegister_313 S D 28 x1 x5) (fun q => Rg 0 1 q ∧ (q ≠ 0 → Rg 0 10 (g.2 30 x1.toNatClampNeg) ∧ Rg 0 10 (g.2 31 x1.toNatClampNeg))) := by
  unfold f_X9_isRegister_313
  refine wp_if (fun c_1 => ?_) (fun c_1 => ?_)
  ·
    have h_2 : Rg 0 0 _ := rg_eq1 hx5 rc_0 c_1 (by decide)
    exact ⟨_, rfl, (rg_w rc_0 (by decide)), (fun ne => absurd rfl ne)⟩
  ·
    have h_3 := hx5_c_31_x1 c_1
    have h_4 : Rg 1 1 _ := rg_ne1 hx5 rc_0 c_1 (by decide)
    refine wp_rq (iR_28_4 h) ?_
    refine wp_ix (in_rg hx1 (iA_32 h) (by decide)) ?_
    refine wp_if (fun c_5 => ?_) (fun c_5 => ?_)
    ·
      have h_6 : Rg 0 0 _ := rg_eq1 (iI_32 h _) rc_0 c_5 (by decide)
      exact ⟨_, rfl, (rg_w rc_1 (by decide)), (fun _ => ⟨(rg_w h30_x1 (by decide)), h_3⟩)⟩
    ·
      exact ⟨_, rfl, (rg_w rc_0 (by decide)), (fun ne => absurd rfl ne)⟩
set_option maxRecDepth 100000 in
theorem s_X9_isRegister_219 {g : gh} {S : sh} {D : dt}  {x1 : Int32} {x5 : Int32} (hx1 : Rg 0 199 x1) (hx5 : Rg 0 1 x5) (h30_x1 : Rg 0 9 (g.2 30 x1.toNatClampNeg)) (hx5_c_31_x1 : (x5 ≠ 0 → Rg 0 10 (g.2 31 x1.toNatClampNeg))) (h : Inv g S D) : wp (f_X9_isRegister_219 S D 28 x1 x5) (fun q => Rg 0 1 q ∧ (q ≠ 0 → Rg 0 10 (g.2 30 x1.toNatClampNeg) ∧ Rg 0 10 (g.2 31 x1.toNatClampNeg))) := by
  unfold f_X9_isRegister_219
  refine wp_if (fun c_1 => ?_) (fun c_1 => ?_)
  ·
    have h_2 : Rg 0 0 _ := rg_eq1 hx5 rc_0 c_1 (by decide)
    exact ⟨_, rfl, (rg_w rc_0 (by decide)), (fun ne => absurd rfl ne)⟩
  ·
    have h_3 := hx5_c_31_x1 c_1
    have h_4 : Rg 1 1 _ := rg_ne1 hx5 rc_0 c_1 (by decide)
    refine wp_rq (iR_28_4 h) ?_
    refine wp_ix (in_rg hx1 (iA_32 h) (by decide)) ?_
    refine wp_pqs (s_X9_in) (fun r149 q_r149 => ?_)
    obtain ⟨h_r149, x_r149⟩ := q_r149
    refine wp_if (fun c_5 => ?_) (fun c_5 => ?_)
    ·
      have h_6 : Rg 0 0 _ := rg_eq1 h_r149 rc_0 c_5 (by decide)
      exact ⟨_, rfl, (rg_w rc_0 (by decide)), (fun ne => absurd rfl ne)⟩
    ·
      have h_7 := x_r149 c_5
      have h_8 : RgL 0 1 _ := rgl_in (rgl_of (iI_32 h _) : RgL (-32768) 32767 _) rcl_0 rcl_1 h_7 (by decide)
      have h_9 : Rg 0 1 _ := rg_of32 h_8
      have h_10 : Rg 1 1 _ := rg_ne1 h_r149 rc_0 c_5 (by decide)
      exact ⟨_, rfl, (rg_w rc_1 (by decide)), (fun _ => ⟨(rg_w h30_x1 (by decide)), h_3⟩)⟩
set_option maxRecDepth 100000 in
theorem s_X9_isRegister_166 {g : gh} {S : sh} {D : dt}  {x1 : Int32} {x2 : Int32} {x3 : Int32} {x4 : Int32} {xs0 : Int32} (hx1 : Rg 0 199 x1) (hx2 : Rg 0 1 x2) (hx3 : Rg 0 12 x3) (hx4 : Rg 0 1 x4) (hxs0 : Rg 0 1 xs0) (h30_x1 : Rg 0 9 (g.2 30 x1.toNatClampNeg)) (hxs0_c_31_x1 : (xs0 ≠ 0 → Rg 0 10 (g.2 31 x1.toNatClampNeg))) (h : Inv g S D) : wp (f_X9_isRegister_166 S D 28 x1 x2 x3 x4 xs0) (fun q => Rg 0 1 q ∧ (q ≠ 0 → Rg 0 10 (g.2 30 x1.toNatClampNeg) ∧ Rg 0 10 (g.2 31 x1.toNatClampNeg))) := by
  unfold f_X9_isRegister_166
  refine wp_if (fun c_1 => ?_) (fun c_1 => ?_)
  ·
    have h_2 : Rg 8 8 _ := rg_eq1 hx3 rc_8 c_1 (by decide)
    refine wp_if (fun c_3 => ?_) (fun c_3 => ?_)
    ·
      have h_4 : Rg 0 0 _ := rg_eq1 hxs0 rc_0 c_3 (by decide)
      exact ⟨_, rfl, (rg_w rc_0 (by decide)), (fun ne => absurd rfl ne)⟩
    ·
      have h_5 := hxs0_c_31_x1 c_3
      have h_6 : Rg 1 1 _ := rg_ne1 hxs0 rc_0 c_3 (by decide)
      refine wp_if (fun c_7 => ?_) (fun c_7 => ?_)
      ·
        have h_8 : Rg 0 0 _ := rg_eq1 hx4 rc_0 c_7 (by decide)
        refine wp_rq (iR_28_5 h) ?_
        refine wp_ix (in_rg hx1 (iA_33 h) (by decide)) ?_
        refine wp_if (fun c_9 => ?_) (fun c_9 => ?_)
        ·
          have h_10 : Rg 0 0 _ := rg_eq1 (rg_top _) rc_0 c_9 (by decide)
          refine wp_rq (iR_28_4 h) ?_
          refine wp_ix (in_rg hx1 (iA_32 h) (by decide)) ?_
          refine wp_if (fun c_11 => ?_) (fun c_11 => ?_)
          ·
            have h_12 : Rg 0 0 _ := rg_eq1 (iI_32 h _) rc_0 c_11 (by decide)
            exact ⟨_, rfl, (rg_w rc_1 (by decide)), (fun _ => ⟨(rg_w h30_x1 (by decide)), h_5⟩)⟩
          ·
            exact ⟨_, rfl, (rg_w rc_0 (by decide)), (fun ne => absurd rfl ne)⟩
        ·
          exact ⟨_, rfl, (rg_w rc_0 (by decide)), (fun ne => absurd rfl ne)⟩
      ·
        have h_13 : Rg 1 1 _ := rg_ne1 hx4 rc_0 c_7 (by decide)
        exact ⟨_, rfl, (rg_w rc_0 (by decide)), (fun ne => absurd rfl ne)⟩
  ·
    refine wp_if (fun c_14 => ?_) (fun c_14 => ?_)
    ·
      have h_15 : Rg 3 3 _ := rg_eq1 hx3 rc_3 c_14 (by decide)
      exact s_X9_isRegister_219 hx1 hxs0 h30_x1 (fun ne => by have h_16 := hxs0_c_31_x1 ne; have h_17 : Rg 1 1 _ := rg_ne1 hxs0 rc_0 ne (by decide); exact h_16) h
    ·
      refine wp_if (fun c_18 => ?_) (fun c_18 => ?_)
      ·
        have h_19 : Rg 9 9 _ := rg_eq1 hx3 rc_9 c_18 (by decide)
        exact s_X9_isRegister_219 hx1 hxs0 h30_x1 (fun ne => by have h_20 := hxs0_c_31_x1 ne; have h_21 : Rg 1 1 _ := rg_ne1 hxs0 rc_0 ne (by decide); exact h_20) h
      ·
        refine wp_if (fun c_22 => ?_) (fun c_22 => ?_)
        ·
          have h_23 : Rg 11 11 _ := rg_eq1 hx3 rc_11 c_22 (by decide)
          refine wp_if (fun c_24 => ?_) (fun c_24 => ?_)
          ·
            have h_25 : Rg 0 0 _ := rg_eq1 hx4 rc_0 c_24 (by decide)
            exact s_X9_isRegister_313 hx1 hxs0 h30_x1 (fun ne => by have h_26 := hxs0_c_31_x1 ne; have h_27 : Rg 1 1 _ := rg_ne1 hxs0 rc_0 ne (by decide); exact h_26) h
          ·
            have h_28 : Rg 1 1 _ := rg_ne1 hx4 rc_0 c_24 (by decide)
            refine wp_if (fun c_29 => ?_) (fun c_29 => ?_)
            ·
              have h_30 : Rg 0 0 _ := rg_eq1 hxs0 rc_0 c_29 (by decide)
              exact ⟨_, rfl, (rg_w rc_0 (by decide)), (fun ne => absurd rfl ne)⟩
            ·
              have h_31 := hxs0_c_31_x1 c_29
              have h_32 : Rg 1 1 _ := rg_ne1 hxs0 rc_0 c_29 (by decide)
              refine wp_rq (iR_28_4 h) ?_
              refine wp_ix (in_rg hx1 (iA_32 h) (by decide)) ?_
              refine wp_if (fun c_33 => ?_) (fun c_33 => ?_)
              ·
                have h_34 : Rg 0 0 _ := rg_eq1 (iI_32 h _) rc_0 c_33 (by decide)
                unfold f_X9_isRegister_307
                exact ⟨_, rfl, (rg_w rc_1 (by decide)), (fun _ => ⟨(rg_w h30_x1 (by decide)), h_31⟩)⟩
              ·
                refine wp_rq (iR_28_4 h) ?_
                refine wp_ix (in_rg hx1 (iA_32 h) (by decide)) ?_
                refine wp_if (fun c_35 => ?_) (fun c_35 => ?_)
                ·
                  have h_36 : Rg 8 8 _ := rg_eq1 (iI_32 h _) rc_8 c_35 (by decide)
                  unfold f_X9_isRegister_307
                  exact ⟨_, rfl, (rg_w rc_1 (by decide)), (fun _ => ⟨(rg_w h30_x1 (by decide)), h_31⟩)⟩
                ·
                  refine wp_rq (iR_28_4 h) ?_
                  refine wp_ix (in_rg hx1 (iA_32 h) (by decide)) ?_
                  refine wp_if (fun c_37 => ?_) (fun c_37 => ?_)
                  ·
                    have h_38 : Rg 16 16 _ := rg_eq1 (iI_32 h _) rc_16 c_37 (by decide)
                    unfold f_X9_isRegister_307
                    exact ⟨_, rfl, (rg_w rc_1 (by decide)), (fun _ => ⟨(rg_w h30_x1 (by decide)), h_31⟩)⟩
                  ·
                    refine wp_rq (iR_28_4 h) ?_
                    refine wp_ix (in_rg hx1 (iA_32 h) (by decide)) ?_
                    refine wp_if (fun c_39 => ?_) (fun c_39 => ?_)
                    ·
                      have h_40 : Rg 32 32 _ := rg_eq1 (iI_32 h _) rc_32 c_39 (by decide)
                      refine wp_if (fun c_41 => ?_) (fun c_41 => ?_)
                      ·
                        have h_42 : Rg 0 0 _ := rg_eq1 hx2 rc_0 c_41 (by decide)
                        exact ⟨_, rfl, (rg_w rc_0 (by decide)), (fun ne => absurd rfl ne)⟩
                      ·
                        have h_43 : Rg 1 1 _ := rg_ne1 hx2 rc_0 c_41 (by decide)
                        unfold f_X9_isRegister_307
                        exact ⟨_, rfl, (rg_w rc_1 (by decide)), (fun _ => ⟨(rg_w h30_x1 (by decide)), h_31⟩)⟩
                    ·
                      exact ⟨_, rfl, (rg_w rc_0 (by decide)), (fun ne => absurd rfl ne)⟩
        ·
          exact s_X9_isRegister_313 hx1 hxs0 h30_x1 (fun ne => by have h_44 := hxs0_c_31_x1 ne; have h_45 : Rg 1 1 _ := rg_ne1 hxs0 rc_0 ne (by decide); exact h_44) h
set_option maxRecDepth 100000 in
theorem s_X9_isRegister_148 {g : gh} {S : sh} {D : dt}  {x1 : Int32} {x2 : Int32} {x3 : Int32} {x4 : Int32} (hx1 : Rg 0 199 x1) (hx2 : Rg 0 1 x2) (hx3 : Rg 0 12 x3) (hx4 : Rg 1 1 x4) (h30_x1 : Rg 0 9 (g.2 30 x1.toNatClampNeg)) (h : Inv g S D) : wp (f_X9_isRegister_148 S D 28 x1 x2 x3 x4) (fun q => Rg 0 1 q ∧ (q ≠ 0 → Rg 0 10 (g.2 30 x1.toNatClampNeg) ∧ Rg 0 10 (g.2 31 x1.toNatClampNeg))) := by
  unfold f_X9_isRegister_148
  exact s_X9_isRegister_166 hx1 hx2 hx3 (rg_w hx4 (by decide)) (rg_w rc_0 (by decide)) h30_x1 (fun ne => absurd rfl ne) h
set_option maxRecDepth 100000 in
theorem s_X9_isRegister_26 {g : gh} {S : sh} {D : dt}  {x1 : Int32} {x2 : Int32} {x3 : Int32} {xs0 : Int32} (hx1 : Rg 0 199 x1) (hx2 : Rg 0 1 x2) (hx3 : Rg 0 15 x3) (hxs0 : Rg 0 1 xs0) (h : Inv g S D) : wp (f_X9_isRegister_26 S D 28 x1 x2 x3 xs0) (fun q => Rg 0 1 q ∧ (q ≠ 0 → Rg 0 10 (g.2 30 x1.toNatClampNeg) ∧ Rg 0 10 (g.2 31 x1.toNatClampNeg))) := by
  unfold f_X9_isRegister_26
  refine wp_if (fun c_1 => ?_) (fun c_1 => ?_)
  ·
    have h_2 : Rg 14 15 _ := rg_lt2 rc_13 hx3 c_1 (by decide)
    exact ⟨_, rfl, (rg_w rc_0 (by decide)), (fun ne => absurd rfl ne)⟩
  ·
    have h_3 : Rg 0 13 _ := rg_le1 hx3 rc_13 (nlt32 c_1) (by decide)
    refine wp_rq (iR_28_2 h) ?_
    refine wp_ix (in_rg hx1 (iA_30 h) (by decide)) ?_
    refine wp_if (fun c_4 => ?_) (fun c_4 => ?_)
    ·
      have h_5 : Rg 0 9 _ := rg_le1 (iI_30 h _) rc_9 c_4 (by decide)
      refine wp_if (fun c_6 => ?_) (fun c_6 => ?_)
      ·
        have h_7 : Rg 13 13 _ := rg_eq1 h_3 rc_13 c_6 (by decide)
        refine wp_rq (iR_28_3 h) ?_
        refine wp_ix (in_rg hx1 (iA_31 h) (by decide)) ?_
        refine wp_if (fun c_8 => ?_) (fun c_8 => ?_)
        ·
          have h_9 : Rg 0 0 _ := rg_eq1 (iI_31 h _) rc_0 c_8 (by decide)
          refine wp_rq (iR_28_4 h) ?_
          refine wp_ix (in_rg hx1 (iA_32 h) (by decide)) ?_
          refine wp_if (fun c_10 => ?_) (fun c_10 => ?_)
          ·
            have h_11 : Rg 0 0 _ := rg_eq1 (iI_32 h _) rc_0 c_10 (by decide)
            refine wp_rq (iR_28_5 h) ?_
            refine wp_ix (in_rg hx1 (iA_33 h) (by decide)) ?_
            refine wp_if (fun c_12 => ?_) (fun c_12 => ?_)
            ·
              have h_13 : Rg 16 16 _ := rg_eq1 (rg_top _) rc_16 c_12 (by decide)
              unfold f_X9_isRegister_104
              refine wp_if (fun c_14 => ?_) (fun c_14 => ?_)
              ·
                have h_15 : Rg 0 0 _ := rg_eq1 hx2 rc_0 c_14 (by decide)
                unfold f_X9_isRegister_113
                exact ⟨_, rfl, (rg_w rc_1 (by decide)), (fun _ => ⟨(rg_w (rg_eq (h.p 30 _ rfl).symm h_5) (by decide)), (rg_w (rg_eq (h.p 31 _ rfl).symm h_9) (by decide))⟩)⟩
              ·
                have h_16 : Rg 1 1 _ := rg_ne1 hx2 rc_0 c_14 (by decide)
                refine wp_if (fun c_17 => ?_) (fun c_17 => ?_)
                ·
                  have h_18 : Rg 0 0 _ := rg_eq1 hxs0 rc_0 c_17 (by decide)
                  unfold f_X9_isRegister_113
                  exact ⟨_, rfl, (rg_w rc_1 (by decide)), (fun _ => ⟨(rg_w (rg_eq (h.p 30 _ rfl).symm h_5) (by decide)), (rg_w (rg_eq (h.p 31 _ rfl).symm h_9) (by decide))⟩)⟩
                ·
                  have h_19 : Rg 1 1 _ := rg_ne1 hxs0 rc_0 c_17 (by decide)
                  exact ⟨_, rfl, (rg_w rc_0 (by decide)), (fun ne => absurd rfl ne)⟩
            ·
              refine wp_rq (iR_28_5 h) ?_
              refine wp_ix (in_rg hx1 (iA_33 h) (by decide)) ?_
              refine wp_if (fun c_20 => ?_) (fun c_20 => ?_)
              ·
                have h_21 : Rg 32 32 _ := rg_eq1 (rg_top _) rc_32 c_20 (by decide)
                unfold f_X9_isRegister_104
                refine wp_if (fun c_22 => ?_) (fun c_22 => ?_)
                ·
                  have h_23 : Rg 0 0 _ := rg_eq1 hx2 rc_0 c_22 (by decide)
                  unfold f_X9_isRegister_113
                  exact ⟨_, rfl, (rg_w rc_1 (by decide)), (fun _ => ⟨(rg_w (rg_eq (h.p 30 _ rfl).symm h_5) (by decide)), (rg_w (rg_eq (h.p 31 _ rfl).symm h_9) (by decide))⟩)⟩
                ·
                  have h_24 : Rg 1 1 _ := rg_ne1 hx2 rc_0 c_22 (by decide)
                  refine wp_if (fun c_25 => ?_) (fun c_25 => ?_)
                  ·
                    have h_26 : Rg 0 0 _ := rg_eq1 hxs0 rc_0 c_25 (by decide)
                    unfold f_X9_isRegister_113
                    exact ⟨_, rfl, (rg_w rc_1 (by decide)), (fun _ => ⟨(rg_w (rg_eq (h.p 30 _ rfl).symm h_5) (by decide)), (rg_w (rg_eq (h.p 31 _ rfl).symm h_9) (by decide))⟩)⟩
                  ·
                    have h_27 : Rg 1 1 _ := rg_ne1 hxs0 rc_0 c_25 (by decide)
                    exact ⟨_, rfl, (rg_w rc_0 (by decide)), (fun ne => absurd rfl ne)⟩
              ·
                refine wp_rq (iR_28_5 h) ?_
                refine wp_ix (in_rg hx1 (iA_33 h) (by decide)) ?_
                refine wp_if (fun c_28 => ?_) (fun c_28 => ?_)
                ·
                  have h_29 : Rg 64 64 _ := rg_eq1 (rg_top _) rc_64 c_28 (by decide)
                  unfold f_X9_isRegister_104
                  refine wp_if (fun c_30 => ?_) (fun c_30 => ?_)
                  ·
                    have h_31 : Rg 0 0 _ := rg_eq1 hx2 rc_0 c_30 (by decide)
                    unfold f_X9_isRegister_113
                    exact ⟨_, rfl, (rg_w rc_1 (by decide)), (fun _ => ⟨(rg_w (rg_eq (h.p 30 _ rfl).symm h_5) (by decide)), (rg_w (rg_eq (h.p 31 _ rfl).symm h_9) (by decide))⟩)⟩
                  ·
                    have h_32 : Rg 1 1 _ := rg_ne1 hx2 rc_0 c_30 (by decide)
                    refine wp_if (fun c_33 => ?_) (fun c_33 => ?_)
                    ·
                      have h_34 : Rg 0 0 _ := rg_eq1 hxs0 rc_0 c_33 (by decide)
                      unfold f_X9_isRegister_113
                      exact ⟨_, rfl, (rg_w rc_1 (by decide)), (fun _ => ⟨(rg_w (rg_eq (h.p 30 _ rfl).symm h_5) (by decide)), (rg_w (rg_eq (h.p 31 _ rfl).symm h_9) (by decide))⟩)⟩
                    ·
                      have h_35 : Rg 1 1 _ := rg_ne1 hxs0 rc_0 c_33 (by decide)
                      exact ⟨_, rfl, (rg_w rc_0 (by decide)), (fun ne => absurd rfl ne)⟩
                ·
                  exact ⟨_, rfl, (rg_w rc_0 (by decide)), (fun ne => absurd rfl ne)⟩
          ·
            exact ⟨_, rfl, (rg_w rc_0 (by decide)), (fun ne => absurd rfl ne)⟩
        ·
          have h_36 : Rg 1 15 _ := rg_ne1 (iI_31 h _) rc_0 c_8 (by decide)
          exact ⟨_, rfl, (rg_w rc_0 (by decide)), (fun ne => absurd rfl ne)⟩
      ·
        have h_37 : Rg 0 12 _ := rg_ne1 h_3 rc_13 c_6 (by decide)
        refine wp_if (fun c_38 => ?_) (fun c_38 => ?_)
        ·
          have h_39 : Rg 0 0 _ := rg_eq1 hxs0 rc_0 c_38 (by decide)
          refine wp_rq (iR_28_3 h) ?_
          refine wp_ix (in_rg hx1 (iA_31 h) (by decide)) ?_
          refine wp_if (fun c_40 => ?_) (fun c_40 => ?_)
          ·
            have h_41 : Rg 0 0 _ := rg_eq1 (iI_31 h _) rc_0 c_40 (by decide)
            exact s_X9_isRegister_166 hx1 hx2 h_37 (rg_w h_39 (by decide)) (rg_w rc_1 (by decide)) (rg_eq (h.p 30 _ rfl).symm h_5) (fun ne => by exact (rg_w (rg_eq (h.p 31 _ rfl).symm h_41) (by decide))) h
          ·
            have h_42 : Rg 1 15 _ := rg_ne1 (iI_31 h _) rc_0 c_40 (by decide)
            exact s_X9_isRegister_166 hx1 hx2 h_37 (rg_w h_39 (by decide)) (rg_w rc_0 (by decide)) (rg_eq (h.p 30 _ rfl).symm h_5) (fun ne => absurd rfl ne) h
        ·
          have h_43 : Rg 1 1 _ := rg_ne1 hxs0 rc_0 c_38 (by decide)
          refine wp_rq (iR_28_5 h) ?_
          refine wp_ix (in_rg hx1 (iA_33 h) (by decide)) ?_
          refine wp_if (fun c_44 => ?_) (fun c_44 => ?_)
          ·
            have h_45 : Rg 0 0 _ := rg_eq1 (rg_top _) rc_0 c_44 (by decide)
            refine wp_rq (iR_28_3 h) ?_
            refine wp_ix (in_rg hx1 (iA_31 h) (by decide)) ?_
            refine wp_if (fun c_46 => ?_) (fun c_46 => ?_)
            ·
              have h_47 : Rg 11 15 _ := rg_le2 rc_11 (iI_31 h _) c_46 (by decide)
              exact s_X9_isRegister_148 hx1 hx2 h_37 h_43 (rg_eq (h.p 30 _ rfl).symm h_5) h
            ·
              have h_48 : Rg 0 10 _ := rg_lt1 (iI_31 h _) rc_11 (nle32 c_46) (by decide)
              exact s_X9_isRegister_166 hx1 hx2 h_37 (rg_w h_43 (by decide)) (rg_w rc_1 (by decide)) (rg_eq (h.p 30 _ rfl).symm h_5) (fun ne => by exact (rg_eq (h.p 31 _ rfl).symm h_48)) h
          ·
            exact s_X9_isRegister_148 hx1 hx2 h_37 h_43 (rg_eq (h.p 30 _ rfl).symm h_5) h
    ·
      have h_49 : Rg 10 15 _ := rg_lt2 rc_9 (iI_30 h _) (nle32 c_4) (by decide)
      exact ⟨_, rfl, (rg_w rc_0 (by decide)), (fun ne => absurd rfl ne)⟩
set_option maxRecDepth 100000 in
theorem s_X9_isRegister {g : gh} {S : sh} {D : dt}  {x1 : Int32} {x2 : Int32} (hx1 : Rg 0 199 x1) (hx2 : Rg 0 1 x2) (h : Inv g S D) : wp (f_X9_isRegister S D 28 x1 x2) (fun q => Rg 0 1 q ∧ (q ≠ 0 → Rg 0 10 (g.2 30 x1.toNatClampNeg) ∧ Rg 0 10 (g.2 31 x1.toNatClampNeg))) := by
  unfold f_X9_isRegister
  refine wp_rq (iR_28_1 h) ?_
  refine wp_ix (in_rg hx1 (iA_29 h) (by decide)) ?_
  refine wp_nmI (fun y258 e_y258 => ?_)
  have h_y258 : Rg 0 15 y258 := rg_eq e_y258 (rg_shr (iI_29 h _) (by decide) : Rg 0 15 _)
  refine wp_rq (iR_28_1 h) ?_
  refine wp_ix (in_rg hx1 (iA_29 h) (by decide)) ?_
  refine wp_if (fun c_1 => ?_) (fun c_1 => ?_)
  ·
    have h_2 : Rg 0 0 _ := rg_eq1 (rg_top _) rc_0 c_1 (by decide)
    exact s_X9_isRegister_26 hx1 hx2 h_y258 (rg_w rc_0 (by decide)) h
  ·
    exact s_X9_isRegister_26 hx1 hx2 h_y258 (rg_w rc_1 (by decide)) h
set_option maxRecDepth 100000 in
theorem s_X9_isHelper_23    : wp (f_X9_isHelper_23) (fun q => Rg 0 1 q) := by
  unfold f_X9_isHelper_23
  exact ⟨_, rfl, (rg_w rc_1 (by decide))⟩
set_option maxRecDepth 100000 in
theorem s_X9_isHelper  {x0 : Int32}  : wp (f_X9_isHelper x0) (fun q => Rg 0 1 q) := by
  unfold f_X9_isHelper
  refine wp_pqs (s_X9_in) (fun r7 q_r7 => ?_)
  obtain ⟨h_r7, x_r7⟩ := q_r7
  refine wp_if (fun c_1 => ?_) (fun c_1 => ?_)
  ·
    have h_2 : Rg 0 0 _ := rg_eq1 h_r7 rc_0 c_1 (by decide)
    refine wp_if (fun c_3 => ?_) (fun c_3 => ?_)
    ·
      have h_4 : Rg 5 5 _ := rg_eq1 (rg_top _) rc_5 c_3 (by decide)
      exact s_X9_isHelper_23 
    ·
      refine wp_if (fun c_5 => ?_) (fun c_5 => ?_)
      ·
        have h_6 : Rg 6 6 _ := rg_eq1 (rg_top _) rc_6 c_5 (by decide)
        exact s_X9_isHelper_23 
      ·
        exact ⟨_, rfl, (rg_w rc_0 (by decide))⟩
  ·
    have h_7 := x_r7 c_1
    have h_8 : RgL 1 3 _ := rgl_in (rgl_of (rg_top _) : RgL (-2147483648) 2147483647 _) rcl_1 rcl_3 h_7 (by decide)
    have h_9 : Rg 1 3 _ := rg_of32 h_8
    have h_10 : Rg 1 1 _ := rg_ne1 h_r7 rc_0 c_1 (by decide)
    exact s_X9_isHelper_23 
set_option maxRecDepth 100000 in
theorem s_X9_jumpKind_77 {g : gh} {S : sh} {D : dt}  {x1 : Int32} {x2 : Int32} {x3 : Int32} (hx1 : Rg 0 199 x1) (hx2 : Rg 0 1 x2) (hx3 : Rg 0 9 x3) (h30_x1 : Rg 0 0 (g.2 30 x1.toNatClampNeg)) (h31_x1 : Rg 0 0 (g.2 31 x1.toNatClampNeg)) (h : Inv g S D) : wp (f_X9_jumpKind_77 S D 28 x1 x2 x3) (fun q => Rg 0 5 q ∧ (q ≠ 0 → Rg 0 10 (g.2 30 x1.toNatClampNeg) ∧ Rg 0 10 (g.2 31 x1.toNatClampNeg))) := by
  unfold f_X9_jumpKind_77
  refine wp_if (fun c_1 => ?_) (fun c_1 => ?_)
  ·
    have h_2 : Rg 0 0 _ := rg_eq1 hx3 rc_0 c_1 (by decide)
    refine wp_if (fun c_3 => ?_) (fun c_3 => ?_)
    ·
      have h_4 : Rg 0 0 _ := rg_eq1 hx2 rc_0 c_3 (by decide)
      refine wp_rq (iR_28_4 h) ?_
      refine wp_ix (in_rg hx1 (iA_32 h) (by decide)) ?_
      refine wp_if (fun c_5 => ?_) (fun c_5 => ?_)
      ·
        have h_6 : Rg 0 0 _ := rg_eq1 (iI_32 h _) rc_0 c_5 (by decide)
        unfold f_X9_jumpKind_106
        exact ⟨_, rfl, (rg_w rc_3 (by decide)), (fun _ => ⟨(rg_w h30_x1 (by decide)), (rg_w h31_x1 (by decide))⟩)⟩
      ·
        exact ⟨_, rfl, (rg_w rc_0 (by decide)), (fun ne => absurd rfl ne)⟩
    ·
      have h_7 : Rg 1 1 _ := rg_ne1 hx2 rc_0 c_3 (by decide)
      refine wp_rq (iR_28_5 h) ?_
      refine wp_ix (in_rg hx1 (iA_33 h) (by decide)) ?_
      refine wp_if (fun c_8 => ?_) (fun c_8 => ?_)
      ·
        have h_9 : Rg 0 0 _ := rg_eq1 (rg_top _) rc_0 c_8 (by decide)
        unfold f_X9_jumpKind_106
        exact ⟨_, rfl, (rg_w rc_3 (by decide)), (fun _ => ⟨(rg_w h30_x1 (by decide)), (rg_w h31_x1 (by decide))⟩)⟩
      ·
        exact ⟨_, rfl, (rg_w rc_0 (by decide)), (fun ne => absurd rfl ne)⟩
  ·
    have h_10 : Rg 1 9 _ := rg_ne1 hx3 rc_0 c_1 (by decide)
    refine wp_rq (iR_28_4 h) ?_
    refine wp_ix (in_rg hx1 (iA_32 h) (by decide)) ?_
    refine wp_if (fun c_11 => ?_) (fun c_11 => ?_)
    ·
      have h_12 : Rg 0 0 _ := rg_eq1 (iI_32 h _) rc_0 c_11 (by decide)
      refine wp_if (fun c_13 => ?_) (fun c_13 => ?_)
      ·
        have h_14 : Rg 9 9 _ := rg_eq1 h_10 rc_9 c_13 (by decide)
        refine wp_rq (iR_28_5 h) ?_
        refine wp_ix (in_rg hx1 (iA_33 h) (by decide)) ?_
        refine wp_if (fun c_15 => ?_) (fun c_15 => ?_)
        ·
          have h_16 : Rg 0 0 _ := rg_eq1 (rg_top _) rc_0 c_15 (by decide)
          exact ⟨_, rfl, (rg_w rc_4 (by decide)), (fun _ => ⟨(rg_w h30_x1 (by decide)), (rg_w h31_x1 (by decide))⟩)⟩
        ·
          exact ⟨_, rfl, (rg_w rc_0 (by decide)), (fun ne => absurd rfl ne)⟩
      ·
        have h_17 : Rg 1 8 _ := rg_ne1 h_10 rc_9 c_13 (by decide)
        refine wp_rq (iR_28_5 h) ?_
        refine wp_ix (in_rg hx1 (iA_33 h) (by decide)) ?_
        refine wp_pqs (s_X9_isHelper ) (fun r106 h_r106 => ?_)
        refine wp_if (fun c_18 => ?_) (fun c_18 => ?_)
        ·
          have h_19 : Rg 0 0 _ := rg_eq1 h_r106 rc_0 c_18 (by decide)
          exact ⟨_, rfl, (rg_w rc_0 (by decide)), (fun ne => absurd rfl ne)⟩
        ·
          have h_20 : Rg 1 1 _ := rg_ne1 h_r106 rc_0 c_18 (by decide)
          exact ⟨_, rfl, (rg_w rc_5 (by decide)), (fun _ => ⟨(rg_w h30_x1 (by decide)), (rg_w h31_x1 (by decide))⟩)⟩
    ·
      exact ⟨_, rfl, (rg_w rc_0 (by decide)), (fun ne => absurd rfl ne)⟩
set_option maxRecDepth 100000 in
theorem s_X9_jumpKind_44 {g : gh} {S : sh} {D : dt}  {x1 : Int32} {x2 : Int32} {x3 : Int32} {x4 : Int32} (hx1 : Rg 0 199 x1) (hx2 : Rg 0 1 x2) (hx3 : Rg 0 9 x3) (hx4 : Rg 0 1 x4) (h : Inv g S D) : wp (f_X9_jumpKind_44 S D 28 x1 x2 x3 x4) (fun q => Rg 0 5 q ∧ (q ≠ 0 → Rg 0 10 (g.2 30 x1.toNatClampNeg) ∧ Rg 0 10 (g.2 31 x1.toNatClampNeg))) := by
  unfold f_X9_jumpKind_44
  refine wp_if (fun c_1 => ?_) (fun c_1 => ?_)
  ·
    have h_2 : Rg 0 0 _ := rg_eq1 hx4 rc_0 c_1 (by decide)
    refine wp_rq (iR_28_2 h) ?_
    refine wp_ix (in_rg hx1 (iA_30 h) (by decide)) ?_
    refine wp_if (fun c_3 => ?_) (fun c_3 => ?_)
    ·
      have h_4 : Rg 0 0 _ := rg_eq1 (iI_30 h _) rc_0 c_3 (by decide)
      refine wp_rq (iR_28_3 h) ?_
      refine wp_ix (in_rg hx1 (iA_31 h) (by decide)) ?_
      refine wp_if (fun c_5 => ?_) (fun c_5 => ?_)
      ·
        have h_6 : Rg 0 0 _ := rg_eq1 (iI_31 h _) rc_0 c_5 (by decide)
        refine wp_if (fun c_7 => ?_) (fun c_7 => ?_)
        ·
          have h_8 : Rg 0 0 _ := rg_eq1 hx2 rc_0 c_7 (by decide)
          refine wp_if (fun c_9 => ?_) (fun c_9 => ?_)
          ·
            have h_10 : Rg 0 0 _ := rg_eq1 hx3 rc_0 c_9 (by decide)
            exact s_X9_jumpKind_77 hx1 (rg_w h_8 (by decide)) (rg_w h_10 (by decide)) (rg_eq (h.p 30 _ rfl).symm h_4) (rg_eq (h.p 31 _ rfl).symm h_6) h
          ·
            have h_11 : Rg 1 9 _ := rg_ne1 hx3 rc_0 c_9 (by decide)
            exact ⟨_, rfl, (rg_w rc_0 (by decide)), (fun ne => absurd rfl ne)⟩
        ·
          have h_12 : Rg 1 1 _ := rg_ne1 hx2 rc_0 c_7 (by decide)
          exact s_X9_jumpKind_77 hx1 (rg_w h_12 (by decide)) hx3 (rg_eq (h.p 30 _ rfl).symm h_4) (rg_eq (h.p 31 _ rfl).symm h_6) h
      ·
        have h_13 : Rg 1 15 _ := rg_ne1 (iI_31 h _) rc_0 c_5 (by decide)
        exact ⟨_, rfl, (rg_w rc_0 (by decide)), (fun ne => absurd rfl ne)⟩
    ·
      have h_14 : Rg 1 15 _ := rg_ne1 (iI_30 h _) rc_0 c_3 (by decide)
      exact ⟨_, rfl, (rg_w rc_0 (by decide)), (fun ne => absurd rfl ne)⟩
  ·
    have h_15 : Rg 1 1 _ := rg_ne1 hx4 rc_0 c_1 (by decide)
    exact ⟨_, rfl, (rg_w rc_0 (by decide)), (fun ne => absurd rfl ne)⟩
set_option maxRecDepth 100000 in
theorem s_X9_jumpKind_26 {g : gh} {S : sh} {D : dt}  {x1 : Int32} {x2 : Int32} {x3 : Int32} {xs0 : Int32} (hx1 : Rg 0 199 x1) (hx2 : Rg 0 1 x2) (hx3 : Rg 0 15 x3) (hxs0 : Rg 0 1 xs0) (h : Inv g S D) : wp (f_X9_jumpKind_26 S D 28 x1 x2 x3 xs0) (fun q => Rg 0 5 q ∧ (q ≠ 0 → Rg 0 10 (g.2 30 x1.toNatClampNeg) ∧ Rg 0 10 (g.2 31 x1.toNatClampNeg))) := by
  unfold f_X9_jumpKind_26
  refine wp_if (fun c_1 => ?_) (fun c_1 => ?_)
  ·
    have h_2 : Rg 0 0 _ := rg_eq1 hx3 rc_0 c_1 (by decide)
    exact s_X9_jumpKind_44 hx1 hx2 (rg_w h_2 (by decide)) hxs0 h
  ·
    have h_3 : Rg 1 15 _ := rg_ne1 hx3 rc_0 c_1 (by decide)
    refine wp_if (fun c_4 => ?_) (fun c_4 => ?_)
    ·
      have h_5 : Rg 8 8 _ := rg_eq1 h_3 rc_8 c_4 (by decide)
      exact s_X9_jumpKind_44 hx1 hx2 (rg_w h_5 (by decide)) hxs0 h
    ·
      refine wp_if (fun c_6 => ?_) (fun c_6 => ?_)
      ·
        have h_7 : Rg 9 9 _ := rg_eq1 h_3 rc_9 c_6 (by decide)
        exact s_X9_jumpKind_44 hx1 hx2 (rg_w h_7 (by decide)) hxs0 h
      ·
        refine wp_if (fun c_8 => ?_) (fun c_8 => ?_)
        ·
          have h_9 : Rg 14 15 _ := rg_lt2 rc_13 h_3 c_8 (by decide)
          exact ⟨_, rfl, (rg_w rc_0 (by decide)), (fun ne => absurd rfl ne)⟩
        ·
          have h_10 : Rg 1 13 _ := rg_le1 h_3 rc_13 (nlt32 c_8) (by decide)
          refine wp_rq (iR_28_2 h) ?_
          refine wp_ix (in_rg hx1 (iA_30 h) (by decide)) ?_
          refine wp_if (fun c_11 => ?_) (fun c_11 => ?_)
          ·
            have h_12 : Rg 0 10 _ := rg_lt1 (iI_30 h _) rc_11 c_11 (by decide)
            refine wp_if (fun c_13 => ?_) (fun c_13 => ?_)
            ·
              have h_14 : Rg 0 0 _ := rg_eq1 hxs0 rc_0 c_13 (by decide)
              refine wp_rq (iR_28_3 h) ?_
              refine wp_ix (in_rg hx1 (iA_31 h) (by decide)) ?_
              refine wp_if (fun c_15 => ?_) (fun c_15 => ?_)
              ·
                have h_16 : Rg 0 0 _ := rg_eq1 (iI_31 h _) rc_0 c_15 (by decide)
                unfold f_X9_jumpKind_220
                exact ⟨_, rfl, (rg_w rc_2 (by decide)), (fun _ => ⟨(rg_eq (h.p 30 _ rfl).symm h_12), (rg_w (rg_eq (h.p 31 _ rfl).symm h_16) (by decide))⟩)⟩
              ·
                have h_17 : Rg 1 15 _ := rg_ne1 (iI_31 h _) rc_0 c_15 (by decide)
                exact ⟨_, rfl, (rg_w rc_0 (by decide)), (fun ne => absurd rfl ne)⟩
            ·
              have h_18 : Rg 1 1 _ := rg_ne1 hxs0 rc_0 c_13 (by decide)
              refine wp_rq (iR_28_5 h) ?_
              refine wp_ix (in_rg hx1 (iA_33 h) (by decide)) ?_
              refine wp_if (fun c_19 => ?_) (fun c_19 => ?_)
              ·
                have h_20 : Rg 0 0 _ := rg_eq1 (rg_top _) rc_0 c_19 (by decide)
                refine wp_rq (iR_28_3 h) ?_
                refine wp_ix (in_rg hx1 (iA_31 h) (by decide)) ?_
                refine wp_if (fun c_21 => ?_) (fun c_21 => ?_)
                ·
                  have h_22 : Rg 11 15 _ := rg_le2 rc_11 (iI_31 h _) c_21 (by decide)
                  exact ⟨_, rfl, (rg_w rc_0 (by decide)), (fun ne => absurd rfl ne)⟩
                ·
                  have h_23 : Rg 0 10 _ := rg_lt1 (iI_31 h _) rc_11 (nle32 c_21) (by decide)
                  unfold f_X9_jumpKind_220
                  exact ⟨_, rfl, (rg_w rc_2 (by decide)), (fun _ => ⟨(rg_eq (h.p 30 _ rfl).symm h_12), (rg_eq (h.p 31 _ rfl).symm h_23)⟩)⟩
              ·
                exact ⟨_, rfl, (rg_w rc_0 (by decide)), (fun ne => absurd rfl ne)⟩
          ·
            have h_24 : Rg 11 15 _ := rg_le2 rc_11 (iI_30 h _) (nlt32 c_11) (by decide)
            exact ⟨_, rfl, (rg_w rc_0 (by decide)), (fun ne => absurd rfl ne)⟩
set_option maxRecDepth 100000 in
theorem s_X9_jumpKind {g : gh} {S : sh} {D : dt}  {x1 : Int32} {x2 : Int32} (hx1 : Rg 0 199 x1) (hx2 : Rg 0 1 x2) (h : Inv g S D) : wp (f_X9_jumpKind S D 28 x1 x2) (fun q => Rg 0 5 q ∧ (q ≠ 0 → Rg 0 10 (g.2 30 x1.toNatClampNeg) ∧ Rg 0 10 (g.2 31 x1.toNatClampNeg))) := by
  unfold f_X9_jumpKind
  refine wp_rq (iR_28_1 h) ?_
  refine wp_ix (in_rg hx1 (iA_29 h) (by decide)) ?_
  refine wp_nmI (fun y176 e_y176 => ?_)
  have h_y176 : Rg 0 15 y176 := rg_eq e_y176 (rg_shr (iI_29 h _) (by decide) : Rg 0 15 _)
  refine wp_rq (iR_28_1 h) ?_
  refine wp_ix (in_rg hx1 (iA_29 h) (by decide)) ?_
  refine wp_if (fun c_1 => ?_) (fun c_1 => ?_)
  ·
    have h_2 : Rg 0 0 _ := rg_eq1 (rg_top _) rc_0 c_1 (by decide)
    exact s_X9_jumpKind_26 hx1 hx2 h_y176 (rg_w rc_0 (by decide)) h
  ·
    exact s_X9_jumpKind_26 hx1 hx2 h_y176 (rg_w rc_1 (by decide)) h
set_option maxRecDepth 100000 in
theorem s_X9_loadKind {g : gh} {S : sh} {D : dt}  {x1 : Int32} (hx1 : Rg 0 199 x1) (h : Inv g S D) : wp (f_X9_loadKind S D 28 x1) (fun q => Rg 0 7 q ∧ (q ≠ 0 → Rg 0 10 (g.2 30 x1.toNatClampNeg) ∧ Rg 0 10 (g.2 31 x1.toNatClampNeg))) := by
  unfold f_X9_loadKind
  refine wp_rq (iR_28_5 h) ?_
  refine wp_ix (in_rg hx1 (iA_33 h) (by decide)) ?_
  refine wp_if (fun c_1 => ?_) (fun c_1 => ?_)
  ·
    have h_2 : Rg 0 0 _ := rg_eq1 (rg_top _) rc_0 c_1 (by decide)
    refine wp_rq (iR_28_2 h) ?_
    refine wp_ix (in_rg hx1 (iA_30 h) (by decide)) ?_
    refine wp_if (fun c_3 => ?_) (fun c_3 => ?_)
    ·
      have h_4 : Rg 10 15 _ := rg_lt2 rc_9 (iI_30 h _) c_3 (by decide)
      exact ⟨_, rfl, (rg_w rc_0 (by decide)), (fun ne => absurd rfl ne)⟩
    ·
      have h_5 : Rg 0 9 _ := rg_le1 (iI_30 h _) rc_9 (nlt32 c_3) (by decide)
      refine wp_rq (iR_28_3 h) ?_
      refine wp_ix (in_rg hx1 (iA_31 h) (by decide)) ?_
      refine wp_if (fun c_6 => ?_) (fun c_6 => ?_)
      ·
        have h_7 : Rg 0 10 _ := rg_lt1 (iI_31 h _) rc_11 c_6 (by decide)
        refine wp_rq (iR_28_1 h) ?_
        refine wp_ix (in_rg hx1 (iA_29 h) (by decide)) ?_
        refine wp_if (fun c_8 => ?_) (fun c_8 => ?_)
        ·
          have h_9 : Rg 97 97 _ := rg_eq1 (rg_top _) rc_97 c_8 (by decide)
          exact ⟨_, rfl, (rg_w rc_6 (by decide)), (fun _ => ⟨(rg_w (rg_eq (h.p 30 _ rfl).symm h_5) (by decide)), (rg_eq (h.p 31 _ rfl).symm h_7)⟩)⟩
        ·
          refine wp_rq (iR_28_1 h) ?_
          refine wp_ix (in_rg hx1 (iA_29 h) (by decide)) ?_
          refine wp_if (fun c_10 => ?_) (fun c_10 => ?_)
          ·
            have h_11 : Rg 129 129 _ := rg_eq1 (rg_top _) rc_129 c_10 (by decide)
            refine wp_rq (iR_28_1 h) ?_
            refine wp_ix (in_rg hx1 (iA_29 h) (by decide)) ?_
            refine wp_if (fun c_12 => ?_) (fun c_12 => ?_)
            ·
              have h_13 : Rg 153 153 _ := rg_eq1 (iI_29 h _) rc_153 c_12 (by decide)
              exact ⟨_, rfl, (rg_w rc_0 (by decide)), (fun ne => absurd rfl ne)⟩
            ·
              exact ⟨_, rfl, (rg_w rc_7 (by decide)), (fun _ => ⟨(rg_w (rg_eq (h.p 30 _ rfl).symm h_5) (by decide)), (rg_eq (h.p 31 _ rfl).symm h_7)⟩)⟩
          ·
            exact ⟨_, rfl, (rg_w rc_0 (by decide)), (fun ne => absurd rfl ne)⟩
      ·
        have h_14 : Rg 11 15 _ := rg_le2 rc_11 (iI_31 h _) (nlt32 c_6) (by decide)
        exact ⟨_, rfl, (rg_w rc_0 (by decide)), (fun ne => absurd rfl ne)⟩
  ·
    exact ⟨_, rfl, (rg_w rc_0 (by decide)), (fun ne => absurd rfl ne)⟩
set_option maxRecDepth 100000 in
theorem s_X9_putKind_151 {g : gh} {S : sh} {D : dt}  {x1 : Int32} (hx1 : Rg 0 199 x1) (h30_x1 : Rg 0 10 (g.2 30 x1.toNatClampNeg)) (h31_x1 : Rg 0 10 (g.2 31 x1.toNatClampNeg)) (h : Inv g S D) : wp (f_X9_putKind_151 S D 28 x1) (fun q => Rg 0 10 q ∧ (q ≠ 0 → Rg 0 10 (g.2 30 x1.toNatClampNeg) ∧ Rg 0 10 (g.2 31 x1.toNatClampNeg))) := by
  unfold f_X9_putKind_151
  refine wp_rq (iR_28_3 h) ?_
  refine wp_ix (in_rg hx1 (iA_31 h) (by decide)) ?_
  refine wp_if (fun c_1 => ?_) (fun c_1 => ?_)
  ·
    have h_2 : Rg 10 10 _ := rg_le2 rc_10 (rg_eq (h.p 31 _ rfl) h31_x1) c_1 (by decide)
    exact ⟨_, rfl, (rg_w rc_0 (by decide)), (fun ne => absurd rfl ne)⟩
  ·
    have h_3 : Rg 0 9 _ := rg_lt1 (rg_eq (h.p 31 _ rfl) h31_x1) rc_10 (nle32 c_1) (by decide)
    exact ⟨_, rfl, (rg_w rc_10 (by decide)), (fun _ => ⟨h30_x1, (rg_w (rg_eq (h.p 31 _ rfl).symm h_3) (by decide))⟩)⟩
set_option maxRecDepth 100000 in
theorem s_X9_putKind_80 {g : gh} {S : sh} {D : dt}  {x1 : Int32} (hx1 : Rg 0 199 x1) (h30_x1 : Rg 0 10 (g.2 30 x1.toNatClampNeg)) (h31_x1 : Rg 0 10 (g.2 31 x1.toNatClampNeg)) (h : Inv g S D) : wp (f_X9_putKind_80 S D 28 x1) (fun q => Rg 0 10 q ∧ (q ≠ 0 → Rg 0 10 (g.2 30 x1.toNatClampNeg) ∧ Rg 0 10 (g.2 31 x1.toNatClampNeg))) := by
  unfold f_X9_putKind_80
  refine wp_rq (iR_28_5 h) ?_
  refine wp_ix (in_rg hx1 (iA_33 h) (by decide)) ?_
  refine wp_nmI (fun y70 e_y70 => ?_)
  refine wp_if (fun c_1 => ?_) (fun c_1 => ?_)
  ·
    have h_2 : Rg 241 241 _ := rg_eq1 (rg_top _) rc_241 c_1 (by decide)
    exact ⟨_, rfl, (rg_w rc_10 (by decide)), (fun _ => ⟨h30_x1, h31_x1⟩)⟩
  ·
    refine wp_if (fun c_3 => ?_) (fun c_3 => ?_)
    ·
      have h_4 : Rg 0 0 _ := rg_eq1 (rg_top _) rc_0 c_3 (by decide)
      exact ⟨_, rfl, (rg_w rc_10 (by decide)), (fun _ => ⟨h30_x1, h31_x1⟩)⟩
    ·
      refine wp_if (fun c_5 => ?_) (fun c_5 => ?_)
      ·
        have h_6 : Rg 64 64 _ := rg_eq1 (rg_top _) rc_64 c_5 (by decide)
        exact ⟨_, rfl, (rg_w rc_10 (by decide)), (fun _ => ⟨h30_x1, h31_x1⟩)⟩
      ·
        refine wp_if (fun c_7 => ?_) (fun c_7 => ?_)
        ·
          have h_8 : Rg 80 80 _ := rg_eq1 (rg_top _) rc_80 c_7 (by decide)
          exact ⟨_, rfl, (rg_w rc_10 (by decide)), (fun _ => ⟨h30_x1, h31_x1⟩)⟩
        ·
          refine wp_if (fun c_9 => ?_) (fun c_9 => ?_)
          ·
            have h_10 : Rg 160 160 _ := rg_eq1 (rg_top _) rc_160 c_9 (by decide)
            exact ⟨_, rfl, (rg_w rc_10 (by decide)), (fun _ => ⟨h30_x1, h31_x1⟩)⟩
          ·
            refine wp_if (fun c_11 => ?_) (fun c_11 => ?_)
            ·
              have h_12 : Rg 1 1 _ := rg_eq1 (rg_top _) rc_1 c_11 (by decide)
              exact s_X9_putKind_151 hx1 h30_x1 h31_x1 h
            ·
              refine wp_if (fun c_13 => ?_) (fun c_13 => ?_)
              ·
                have h_14 : Rg 65 65 _ := rg_eq1 (rg_top _) rc_65 c_13 (by decide)
                exact s_X9_putKind_151 hx1 h30_x1 h31_x1 h
              ·
                refine wp_if (fun c_15 => ?_) (fun c_15 => ?_)
                ·
                  have h_16 : Rg 81 81 _ := rg_eq1 (rg_top _) rc_81 c_15 (by decide)
                  exact s_X9_putKind_151 hx1 h30_x1 h31_x1 h
                ·
                  refine wp_if (fun c_17 => ?_) (fun c_17 => ?_)
                  ·
                    have h_18 : Rg 161 161 _ := rg_eq1 (rg_top _) rc_161 c_17 (by decide)
                    exact s_X9_putKind_151 hx1 h30_x1 h31_x1 h
                  ·
                    refine wp_if (fun c_19 => ?_) (fun c_19 => ?_)
                    ·
                      have h_20 : Rg 225 225 _ := rg_eq1 (rg_top _) rc_225 c_19 (by decide)
                      exact s_X9_putKind_151 hx1 h30_x1 h31_x1 h
                    ·
                      exact ⟨_, rfl, (rg_w rc_0 (by decide)), (fun ne => absurd rfl ne)⟩
