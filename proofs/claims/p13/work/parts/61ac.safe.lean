set_option maxRecDepth 100000 in
theorem s_X5_joinWith_2 {g : gh} {S : sh}  : ∀ (n : Nat) (o0 : Nat) (o1 : Nat) (x2 : Int32) (D : dt), sK S o0 = 4 → sK S o1 = 4 → Rg 0 11 x2 → 11 - x2.toInt < (n : Int) → Inv g S D → wp (f_X5_joinWith_2 S n o0 o1 x2 D) (fun q => Inv g S q.2) := by
  intro n
  induction n with
  | zero =>
    intro o0 o1 x2 D ho0 ho1 hx2 hm h
    exact (ms_0 hx2 (by decide) hm).elim
  | succ n ih =>
    intro o0 o1 x2 D ho0 ho1 hx2 hm h
    rw [f_X5_joinWith_2.eq_2]
    refine wp_if (fun c_1 => ?_) (fun c_1 => ?_)
    ·
      have h_2 : Rg 11 11 _ := rg_le2 rc_11 hx2 c_1 (by decide)
      refine wp_nmI (fun y66 e_y66 => ?_)
      have h_y66 : Rg 0 0 y66 := rg_eq e_y66 rc_0
      exact s_X5_joinWith_22  LF _ _ _ _ ho0 ho1 (rg_w h_y66 (by decide)) (ms_in h_y66 (by decide)) h
    ·
      have h_3 : Rg 0 10 _ := rg_lt1 hx2 rc_11 (nle32 c_1) (by decide)
      refine wp_cqs (s_X5_joinPlace ho0 (rg_w h_3 (by decide)) ho1 h) (fun _ D68 h_D68 => ?_)
      refine wp_nmI (fun y69 e_y69 => ?_)
      have h_y69 : Rg 1 11 y69 := rg_eq e_y69 (rg_add h_3 rc_1 (by decide) : Rg 1 11 _)
      exact ih _ _ _ _ ho0 ho1 (rg_w h_y69 (by decide)) (by rw [e_y69]; exact ms_up h_3 (by decide) hm) h_D68
set_option maxRecDepth 100000 in
theorem s_X5_joinWith {g : gh} {S : sh}  {o0 : Nat} {o1 : Nat} {D : dt} (ho0 : sK S o0 = 4) (ho1 : sK S o1 = 4) (h : Inv g S D) : wp (f_X5_joinWith S o0 o1 D) (fun q => Inv g S q.2) := by
  unfold f_X5_joinWith
  refine wp_nmI (fun y70 e_y70 => ?_)
  have h_y70 : Rg 0 0 y70 := rg_eq e_y70 rc_0
  exact s_X5_joinWith_2  LF _ _ _ _ ho0 ho1 (rg_w h_y70 (by decide)) (ms_in h_y70 (by decide)) h
set_option maxRecDepth 100000 in
theorem s_X5_tell_73 {g : gh} {S : sh} {D : dt}  {o0 : Nat} {x1 : Int32} (ho0 : sK S o0 = 4) (hx1 : Rg 0 10 x1) (h : Inv g S D) : wp (f_X5_tell_73 S D o0 x1) (fun q => True) := by
  unfold f_X5_tell_73
  refine wp_rq (iSR2 h ho0) ?_
  refine wp_ix (in_rg hx1 (iSA2 h ho0) (by decide)) ?_
  exact ⟨_, rfl, trivial⟩
set_option maxRecDepth 100000 in
theorem s_X5_tell_26 {g : gh} {S : sh} {D : dt}  {o0 : Nat} {x1 : Int32} {x2 : Int32} {x3 : Int32} {xs0 : Int32} (ho0 : sK S o0 = 4) (hx1 : Rg 0 10 x1) (hx2 : Rg 0 4 x2) (hx3 : Rg 0 15 x3) (hxs0 : Rg 0 1 xs0) (h : Inv g S D) : wp (f_X5_tell_26 S D o0 x1 x2 x3 xs0) (fun q => True) := by
  unfold f_X5_tell_26
  refine wp_if (fun c_1 => ?_) (fun c_1 => ?_)
  ·
    have h_2 : Rg 0 0 _ := rg_eq1 hx2 rc_0 c_1 (by decide)
    exact ⟨_, rfl, trivial⟩
  ·
    have h_3 : Rg 1 4 _ := rg_ne1 hx2 rc_0 c_1 (by decide)
    refine wp_if (fun c_4 => ?_) (fun c_4 => ?_)
    ·
      have h_5 : Rg 1 1 _ := rg_eq1 h_3 rc_1 c_4 (by decide)
      refine wp_if (fun c_6 => ?_) (fun c_6 => ?_)
      ·
        have h_7 : Rg 0 0 _ := rg_eq1 hxs0 rc_0 c_6 (by decide)
        refine wp_if (fun c_8 => ?_) (fun c_8 => ?_)
        ·
          have h_9 : Rg 3 3 _ := rg_eq1 hx3 rc_3 c_8 (by decide)
          exact s_X5_tell_73 ho0 hx1 h
        ·
          exact ⟨_, rfl, trivial⟩
      ·
        have h_10 : Rg 1 1 _ := rg_ne1 hxs0 rc_0 c_6 (by decide)
        exact s_X5_tell_73 ho0 hx1 h
    ·
      have h_11 : Rg 2 4 _ := rg_ne1 h_3 rc_1 c_4 (by decide)
      refine wp_if (fun c_12 => ?_) (fun c_12 => ?_)
      ·
        have h_13 : Rg 2 2 _ := rg_eq1 h_11 rc_2 c_12 (by decide)
        refine wp_if (fun c_14 => ?_) (fun c_14 => ?_)
        ·
          have h_15 : Rg 0 0 _ := rg_eq1 hxs0 rc_0 c_14 (by decide)
          exact ⟨_, rfl, trivial⟩
        ·
          have h_16 : Rg 1 1 _ := rg_ne1 hxs0 rc_0 c_14 (by decide)
          refine wp_rq (iSR3 h ho0) ?_
          refine wp_ix (in_rg hx1 (iSA3 h ho0) (by decide)) ?_
          exact ⟨_, rfl, trivial⟩
      ·
        have h_17 : Rg 3 4 _ := rg_ne1 h_11 rc_2 c_12 (by decide)
        refine wp_if (fun c_18 => ?_) (fun c_18 => ?_)
        ·
          have h_19 : Rg 3 3 _ := rg_eq1 h_17 rc_3 c_18 (by decide)
          refine wp_pqs (s_X5_tableOf ho0 hx1 h) (fun r48 h_r48 => ?_)
          exact ⟨_, rfl, trivial⟩
        ·
          have h_20 : Rg 4 4 _ := rg_ne1 h_17 rc_3 c_18 (by decide)
          refine wp_rq (iSR1 h ho0) ?_
          refine wp_ix (in_rg hx1 (iSA1 h ho0) (by decide)) ?_
          exact ⟨_, rfl, trivial⟩
set_option maxRecDepth 100000 in
theorem s_X5_tell_21 {g : gh} {S : sh} {D : dt}  {o0 : Nat} {x1 : Int32} {x2 : Int32} {x3 : Int32} (ho0 : sK S o0 = 4) (hx1 : Rg 0 10 x1) (hx2 : Rg 0 4 x2) (hx3 : Rg 1 5 x3) (h : Inv g S D) : wp (f_X5_tell_21 S D o0 x1 x2 x3) (fun q => True) := by
  unfold f_X5_tell_21
  exact s_X5_tell_26 ho0 hx1 hx2 (rg_w hx3 (by decide)) (rg_w rc_1 (by decide)) h
set_option maxRecDepth 100000 in
theorem s_X5_tell {g : gh} {S : sh} {D : dt}  {o0 : Nat} {x1 : Int32} {x2 : Int32} (ho0 : sK S o0 = 4) (hx1 : Rg 0 10 x1) (hx2 : Rg 0 4 x2) (h : Inv g S D) : wp (f_X5_tell S D o0 x1 x2) (fun q => True) := by
  unfold f_X5_tell
  refine wp_pqs (s_X5_kind ho0 (rg_w hx1 (by decide)) h) (fun r55 q_r55 => ?_)
  obtain ⟨h_r55, p_r55⟩ := q_r55
  refine wp_if (fun c_1 => ?_) (fun c_1 => ?_)
  ·
    have h_2 : Rg 1 1 _ := rg_eq1 h_r55 rc_1 c_1 (by decide)
    exact s_X5_tell_21 ho0 hx1 hx2 (rg_w h_2 (by decide)) h
  ·
    refine wp_if (fun c_3 => ?_) (fun c_3 => ?_)
    ·
      have h_4 : Rg 2 2 _ := rg_eq1 h_r55 rc_2 c_3 (by decide)
      exact s_X5_tell_21 ho0 hx1 hx2 (rg_w h_4 (by decide)) h
    ·
      refine wp_if (fun c_5 => ?_) (fun c_5 => ?_)
      ·
        have h_6 : Rg 5 5 _ := rg_eq1 h_r55 rc_5 c_5 (by decide)
        exact s_X5_tell_21 ho0 hx1 hx2 (rg_w h_6 (by decide)) h
      ·
        exact s_X5_tell_26 ho0 hx1 hx2 h_r55 (rg_w rc_0 (by decide)) h
set_option maxRecDepth 100000 in
theorem s_X5_tellOctet {g : gh} {S : sh} {D : dt}  {o0 : Nat} {x1 : Int32} (ho0 : sK S o0 = 4) (hx1 : Rg 0 511 x1) (h : Inv g S D) : wp (f_X5_tellOctet S D o0 x1) (fun q => Rg 0 3 q) := by
  unfold f_X5_tellOctet
  refine wp_nmI (fun y11 e_y11 => ?_)
  have h_y11 : Rg 0 63 y11 := rg_eq e_y11 (rg_shr hx1 (by decide) : Rg 0 63 _)
  refine wp_pqs (s_X5_holds ho0 (rg_w h_y11 (by decide)) h) (fun r13 h_r13 => ?_)
  refine wp_if (fun c_1 => ?_) (fun c_1 => ?_)
  ·
    have h_2 : Rg 0 0 _ := rg_eq1 h_r13 rc_0 c_1 (by decide)
    refine wp_pqs (s_X5_isKnown ho0 hx1 h) (fun r16 h_r16 => ?_)
    refine wp_if (fun c_3 => ?_) (fun c_3 => ?_)
    ·
      have h_4 : Rg 0 0 _ := rg_eq1 h_r16 rc_0 c_3 (by decide)
      exact ⟨_, rfl, (rg_w rc_0 (by decide))⟩
    ·
      have h_5 : Rg 1 1 _ := rg_ne1 h_r16 rc_0 c_3 (by decide)
      exact ⟨_, rfl, (rg_w rc_1 (by decide))⟩
  ·
    have h_6 : Rg 1 1 _ := rg_ne1 h_r13 rc_0 c_1 (by decide)
    refine wp_pqs (s_X5_isNumber ho0 (rg_w (rg_add rc_11 h_y11 (by decide) : Rg 11 74 _) (by decide)) h) (fun r19 h_r19 => ?_)
    refine wp_if (fun c_7 => ?_) (fun c_7 => ?_)
    ·
      have h_8 : Rg 0 0 _ := rg_eq1 h_r19 rc_0 c_7 (by decide)
      exact ⟨_, rfl, (rg_w rc_3 (by decide))⟩
    ·
      have h_9 : Rg 1 1 _ := rg_ne1 h_r19 rc_0 c_7 (by decide)
      exact ⟨_, rfl, (rg_w rc_2 (by decide))⟩
set_option maxRecDepth 100000 in
theorem s_X0_forgetScenes_33 {g : gh} {S : sh} {k7 : Nat → Int32 → dt → Option (Unit × dt)} {n7 : Nat} (hk7 : ∀ (x1 : Int32) (D : dt), Rg 0 200 x1 → 200 - x1.toInt < (n7 : Int) → Inv g S D → wp (k7 14 x1 D) (fun q => Inv g S q.2)) {x1 : Int32} {D : dt} (hx1 : Rg 0 199 x1) (hm7 : 200 - x1.toInt < ((n7 + 1 : Nat) : Int)) (h : Inv g S D) : wp (f_X0_forgetScenes_33 S k7 14 x1 D) (fun q => Inv g S q.2) := by
  unfold f_X0_forgetScenes_33
  refine wp_nmI (fun y24 e_y24 => ?_)
  have h_y24 : Rg 1 200 y24 := rg_eq e_y24 (rg_add hx1 rc_1 (by decide) : Rg 1 200 _)
  exact hk7 _ _ (rg_w h_y24 (by decide)) (by rw [e_y24]; exact ms_up hx1 (by decide) hm7) h
set_option maxRecDepth 100000 in
theorem s_X0_forgetScenes_7 {g : gh} {S : sh}  : ∀ (n : Nat) (x1 : Int32) (D : dt), Rg 0 200 x1 → 200 - x1.toInt < (n : Int) → Inv g S D → wp (f_X0_forgetScenes_7 S n 14 x1 D) (fun q => Inv g S q.2) := by
  intro n
  induction n with
  | zero =>
    intro x1 D hx1 hm h
    exact (ms_0 hx1 (by decide) hm).elim
  | succ n ih =>
    intro x1 D hx1 hm h
    rw [f_X0_forgetScenes_7.eq_2]
    refine wp_if (fun c_1 => ?_) (fun c_1 => ?_)
    ·
      have h_2 : Rg 200 200 _ := rg_le2 rc_200 hx1 c_1 (by decide)
      exact ⟨_, rfl, h⟩
    ·
      have h_3 : Rg 0 199 _ := rg_lt1 hx1 rc_200 (nle32 c_1) (by decide)
      refine wp_rq (iR_14_2 h) ?_
      refine wp_ix (in_rg h_3 (iA_15 h) (by decide)) ?_
      refine wp_oq (fun e_z_4 => ?_) (fun z_4 e_z_4 => ?_)
      ·
        exact s_X0_forgetScenes_33 ih h_3 hm h
      ·
        have k_z_4 := iSce h e_z_4
        refine wp_rq (iR_14_2 h) ?_
        refine wp_ix (in_rg h_3 (iA_15 h) (by decide)) ?_
        refine wp_oqs e_z_4 ?_
        refine wp_nmI (fun D44 e_D44 => ?_)
        have h_D44 : Inv g S D44 := by rw [e_D44]; exact inv_pI_sc h k_z_4
        exact s_X0_forgetScenes_33 ih h_3 hm h_D44
set_option maxRecDepth 100000 in
theorem s_X0_forgetScenes {g : gh} {S : sh}   {D : dt}  (h : Inv g S D) : wp (f_X0_forgetScenes S 14 D) (fun q => Inv g S q.2) := by
  unfold f_X0_forgetScenes
  refine wp_nmI (fun D45 e_D45 => ?_)
  have h_D45 : Inv g S D45 := by rw [e_D45]; exact inv_i14 h (Or.inr (by decide)) (rg_top _)
  refine wp_nmI (fun y46 e_y46 => ?_)
  have h_y46 : Rg 0 0 y46 := rg_eq e_y46 rc_0
  exact s_X0_forgetScenes_7  LF _ _ (rg_w h_y46 (by decide)) (ms_in h_y46 (by decide)) h_D45
set_option maxRecDepth 100000 in
theorem s_X0_markSeconds_45 {g : gh} {S : sh} {k4 : Nat → Int32 → Int32 → dt → Option (Unit × dt)} {n4 : Nat} (hk4 : ∀ (x1 : Int32) (x2 : Int32) (D : dt), Rg 0 1 x1 → Rg 0 200 x2 → 200 - x2.toInt < (n4 : Int) → Inv g S D → wp (k4 14 x1 x2 D) (fun q => Inv g S q.2)) {x2 : Int32} {xs0 : Int32} {D : dt} (hx2 : Rg 0 199 x2) (hxs0 : Rg 0 1 xs0) (hm4 : 200 - x2.toInt < ((n4 + 1 : Nat) : Int)) (h : Inv g S D) : wp (f_X0_markSeconds_45 S k4 14 x2 xs0 D) (fun q => Inv g S q.2) := by
  unfold f_X0_markSeconds_45
  refine wp_nmI (fun y26 e_y26 => ?_)
  have h_y26 : Rg 1 200 y26 := rg_eq e_y26 (rg_add hx2 rc_1 (by decide) : Rg 1 200 _)
  exact hk4 _ _ _ hxs0 (rg_w h_y26 (by decide)) (by rw [e_y26]; exact ms_up hx2 (by decide) hm4) h
set_option maxRecDepth 100000 in
theorem s_X0_markSeconds_44 {g : gh} {S : sh} {k4 : Nat → Int32 → Int32 → dt → Option (Unit × dt)} {n4 : Nat} (hk4 : ∀ (x1 : Int32) (x2 : Int32) (D : dt), Rg 0 1 x1 → Rg 0 200 x2 → 200 - x2.toInt < (n4 : Int) → Inv g S D → wp (k4 14 x1 x2 D) (fun q => Inv g S q.2)) {x2 : Int32} {D : dt} (hx2 : Rg 0 199 x2) (hm4 : 200 - x2.toInt < ((n4 + 1 : Nat) : Int)) (h : Inv g S D) : wp (f_X0_markSeconds_44 S k4 14 x2 D) (fun q => Inv g S q.2) := by
  unfold f_X0_markSeconds_44
  exact s_X0_markSeconds_45 hk4 hx2 (rg_w rc_0 (by decide)) hm4 h
set_option maxRecDepth 100000 in
theorem s_X0_markSeconds_4 {g : gh} {S : sh}  : ∀ (n : Nat) (x1 : Int32) (x2 : Int32) (D : dt), Rg 0 1 x1 → Rg 0 200 x2 → 200 - x2.toInt < (n : Int) → Inv g S D → wp (f_X0_markSeconds_4 S n 14 x1 x2 D) (fun q => Inv g S q.2) := by
  intro n
  induction n with
  | zero =>
    intro x1 x2 D hx1 hx2 hm h
    exact (ms_0 hx2 (by decide) hm).elim
  | succ n ih =>
    intro x1 x2 D hx1 hx2 hm h
    rw [f_X0_markSeconds_4.eq_2]
    refine wp_rq (iR_14_0 h) ?_
    refine wp_if (fun c_1 => ?_) (fun c_1 => ?_)
    ·
      exact ⟨_, rfl, h⟩
    ·
      have h_2 : Rg 0 199 _ := rg_lt1 hx2 (iF_1_5 h) (nle32 c_1) (by decide)
      have h_3 : Rg 1 200 _ := rg_lt2 hx2 (iF_1_5 h) (nle32 c_1) (by decide)
      refine wp_rq (iR_14_3 h) ?_
      refine wp_ix (in_rg h_2 (iA_16 h) (by decide)) ?_
      refine wp_nmI (fun D37 e_D37 => ?_)
      have h_D37 : Inv g S D37 := by rw [e_D37]; exact inv_i16 h (rg_top _)
      refine wp_if (fun c_4 => ?_) (fun c_4 => ?_)
      ·
        have h_5 : Rg 0 0 _ := rg_eq1 hx1 rc_0 c_4 (by decide)
        refine wp_rq (iR_14_0 h_D37) ?_
        refine wp_rq (iR_1_0 h_D37) ?_
        refine wp_ix (in_rg h_2 (iA_2 h_D37) (by decide)) ?_
        refine wp_if (fun c_6 => ?_) (fun c_6 => ?_)
        ·
          have h_7 : Rg 24 24 _ := rg_eq1 (iI_2 h_D37 _) rc_24 c_6 (by decide)
          exact s_X0_markSeconds_45 ih h_2 (rg_w rc_1 (by decide)) hm h_D37
        ·
          exact s_X0_markSeconds_44 ih h_2 hm h_D37
      ·
        have h_8 : Rg 1 1 _ := rg_ne1 hx1 rc_0 c_4 (by decide)
        exact s_X0_markSeconds_44 ih h_2 hm h_D37
set_option maxRecDepth 100000 in
theorem s_X0_markSeconds {g : gh} {S : sh}   {D : dt}  (h : Inv g S D) : wp (f_X0_markSeconds S 14 D) (fun q => Inv g S q.2) := by
  unfold f_X0_markSeconds
  refine wp_nmI (fun y49 e_y49 => ?_)
  have h_y49 : Rg 0 0 y49 := rg_eq e_y49 rc_0
  refine wp_nmI (fun y50 e_y50 => ?_)
  have h_y50 : Rg 0 0 y50 := rg_eq e_y50 rc_0
  exact s_X0_markSeconds_4  LF _ _ _ (rg_w h_y49 (by decide)) (rg_w h_y50 (by decide)) (ms_in h_y50 (by decide)) h
set_option maxRecDepth 100000 in
theorem s_X0_sceneAt_31 {g : gh} {S : sh} {D : dt}    (h : Inv g S D) : wp (f_X0_sceneAt_31 S D) (fun q => (∀ x, q = some x → sK S x = 4)) := by
  unfold f_X0_sceneAt_31
  exact ⟨_, rfl, (fun _ q => nomatch q)⟩
set_option maxRecDepth 100000 in
theorem s_X0_sceneAt {g : gh} {S : sh} {D : dt}  {x1 : Int32} (hx1 : Rg 0 199 x1) (h : Inv g S D) : wp (f_X0_sceneAt S D 14 x1) (fun q => (∀ x, q = some x → sK S x = 4)) := by
  unfold f_X0_sceneAt
  refine wp_if (fun c_1 => ?_) (fun c_1 => ?_)
  ·
    have h_2 : Rg 0 (-1) _ := rg_lt1 hx1 rc_0 c_1 (by decide)
    exact (rg_false h_2 (by decide)).elim
  ·
    refine wp_if (fun c_3 => ?_) (fun c_3 => ?_)
    ·
      refine wp_rq (iR_14_2 h) ?_
      refine wp_ix (in_rg hx1 (iA_15 h) (by decide)) ?_
      refine wp_oq (fun e_z_4 => ?_) (fun z_4 e_z_4 => ?_)
      ·
        exact s_X0_sceneAt_31 h
      ·
        have k_z_4 := iSce h e_z_4
        refine wp_if (fun c_5 => ?_) (fun c_5 => ?_)
        ·
          have h_6 : Rg 0 0 _ := rg_eq1 (rg_top _) rc_0 c_5 (by decide)
          exact s_X0_sceneAt_31 h
        ·
          exact ⟨_, rfl, (fun _ q => by cases q; exact k_z_4)⟩
    ·
      have h_7 : Rg 200 199 _ := rg_le1 rc_200 hx1 (nlt32 c_3) (by decide)
      exact (rg_false h_7 (by decide)).elim
set_option maxRecDepth 100000 in
theorem s_X0_judgePair_138 {g : gh} {S : sh}  {x1 : Int32} {D : dt} (hx1 : Rg 0 199 x1) (h3_x1 : Rg 0 10 (g.2 3 x1.toNatClampNeg)) (h4_x1 : Rg 0 10 (g.2 4 x1.toNatClampNeg)) (htt : g.1 9 = 0) (hfz : g.1 12 = 0) (h : Inv g S D) : wp (f_X0_judgePair_138 S 14 x1 D) (fun q => Rg 0 6 q.1 ∧ Inv g S q.2) := by
  unfold f_X0_judgePair_138
  refine wp_nmI (fun D81 e_D81 => ?_)
  have h_D81 : Inv g S D81 := by rw [e_D81]; exact inv_l14 h (Or.inl hfz)
  exact ⟨_, rfl, (rg_w rc_0 (by decide)), h_D81⟩
set_option maxRecDepth 100000 in
theorem s_X0_judgePair_46 {g : gh} {S : sh}  {x1 : Int32} {x2 : Int32} {x3 : Int32} {D : dt} (hx1 : Rg 0 199 x1) (hx3 : Rg 0 1 x3) (h3_x1 : Rg 0 10 (g.2 3 x1.toNatClampNeg)) (h4_x1 : Rg 0 10 (g.2 4 x1.toNatClampNeg)) (hx3_c_4_x1 : (x3 ≠ 0 → Rg 1 1 (g.2 4 x1.toNatClampNeg))) (htt : g.1 9 = 0) (hfz : g.1 12 = 0) (h : Inv g S D) : wp (f_X0_judgePair_46 S 14 x1 x2 x3 D) (fun q => Rg 0 6 q.1 ∧ Inv g S q.2) := by
  unfold f_X0_judgePair_46
  refine wp_rq (iR_14_0 h) ?_
  refine wp_pqs (s_X4_has h) (fun r87 q_r87 => ?_)
  obtain ⟨h_r87, x_r87⟩ := q_r87
  refine wp_if (fun c_1 => ?_) (fun c_1 => ?_)
  ·
    have h_2 : Rg 0 0 _ := rg_eq1 h_r87 rc_0 c_1 (by decide)
    exact ⟨_, rfl, (rg_w rc_6 (by decide)), h⟩
  ·
    have h_3 := x_r87 c_1
    have h_4 : Rg 1 199 _ := rg_eq1 h_3 (rg_add hx1 rc_1 (by decide) : Rg 1 200 _) rfl (by decide)
    have h_5 : Rg 0 198 _ := rg_unadd hx1 h_4 (by decide)
    have h_6 : Rg 1 1 _ := rg_ne1 h_r87 rc_0 c_1 (by decide)
    refine wp_if (fun c_7 => ?_) (fun c_7 => ?_)
    ·
      have h_8 : Rg 0 0 _ := rg_eq1 hx3 rc_0 c_7 (by decide)
      refine wp_rq (iR_14_0 h) ?_
      refine wp_rq (iR_1_4 h) ?_
      refine wp_ix (in_rg h_4 (iA_6 h) (by decide)) ?_
      refine wp_nmI (fun y99 e_y99 => ?_)
      refine wp_rq (iR_14_4 h) ?_
      refine wp_rq (iR_14_0 h) ?_
      refine wp_rq (iR_1_1 h) ?_
      refine wp_ix (in_rg h_5 (iA_3 h) (by decide)) ?_
      refine wp_cqs (s_X5_write (iK_17 h) (rg_w (rg_eq (h.p 3 _ rfl) h3_x1) (by decide)) (fun q => absurd q (by decide)) h) (fun _ D114 h_D114 => ?_)
      exact s_X0_judgePair_138 (rg_w h_5 (by decide)) h3_x1 h4_x1 htt hfz h_D114
    ·
      have h_9 := hx3_c_4_x1 c_7
      have h_10 : Rg 1 1 _ := rg_ne1 hx3 rc_0 c_7 (by decide)
      refine wp_rq (iR_14_4 h) ?_
      refine wp_rq (iR_14_0 h) ?_
      refine wp_rq (iR_1_1 h) ?_
      refine wp_ix (in_rg h_5 (iA_3 h) (by decide)) ?_
      refine wp_pqs (s_X5_tagOf (rg_w rc_4 (by decide)) (rg_w rc_0 (by decide))) (fun r129 _ => ?_)
      refine wp_cqs (s_X5_write (iK_17 h) (rg_w (rg_eq (h.p 3 _ rfl) h3_x1) (by decide)) (fun _ => ⟨rfl, Or.inr (by decide)⟩) h) (fun _ D131 h_D131 => ?_)
      exact s_X0_judgePair_138 (rg_w h_5 (by decide)) h3_x1 (rg_w h_9 (by decide)) htt hfz h_D131
set_option maxRecDepth 100000 in
theorem s_X0_judgePair_28 {g : gh} {S : sh}  {x1 : Int32} {x2 : Int32} {xs0 : Int32} {D : dt} (hx1 : Rg 0 199 x1) (hxs0 : Rg 0 1 xs0) (h3_x1 : Rg 0 10 (g.2 3 x1.toNatClampNeg)) (h4_x1 : Rg 0 10 (g.2 4 x1.toNatClampNeg)) (hxs0_c_4_x1 : (xs0 ≠ 0 → Rg 1 1 (g.2 4 x1.toNatClampNeg))) (htt : g.1 9 = 0) (hfz : g.1 12 = 0) (h : Inv g S D) : wp (f_X0_judgePair_28 S 14 x1 x2 xs0 D) (fun q => Rg 0 6 q.1 ∧ Inv g S q.2) := by
  unfold f_X0_judgePair_28
  refine wp_if (fun c_1 => ?_) (fun c_1 => ?_)
  ·
    have h_2 : Rg 0 0 _ := rg_eq1 hxs0 rc_0 c_1 (by decide)
    exact s_X0_judgePair_46 hx1 (rg_w h_2 (by decide)) h3_x1 h4_x1 (fun ne => by have h_3 := hxs0_c_4_x1 ne; have h_4 : Rg 1 (-1) _ := rg_ne1 h_2 rc_0 ne (by decide); exact (rg_false h_4 (by decide)).elim) htt hfz h
  ·
    have h_5 := hxs0_c_4_x1 c_1
    have h_6 : Rg 1 1 _ := rg_ne1 hxs0 rc_0 c_1 (by decide)
    refine wp_rq (iR_14_1 h) ?_
    refine wp_pqs (s_X2_tableNumbered h) (fun r138 h_r138 => ?_)
    refine wp_oq (fun e_z_7 => ?_) (fun z_7 e_z_7 => ?_)
    ·
      exact ⟨_, rfl, (rg_w rc_4 (by decide)), h⟩
    ·
      have k_z_7 := h_r138 _ e_z_7
      exact s_X0_judgePair_46 hx1 (rg_w h_6 (by decide)) h3_x1 (rg_w h_5 (by decide)) (fun ne => by have h_8 := hxs0_c_4_x1 ne; exact h_8) htt hfz h
set_option maxRecDepth 100000 in
theorem s_X0_judgePair {g : gh} {S : sh}  {x1 : Int32} {D : dt} (hx1 : Rg 0 199 x1) (h3_x1 : Rg 0 10 (g.2 3 x1.toNatClampNeg)) (h4_x1 : Rg 0 10 (g.2 4 x1.toNatClampNeg)) (htt : g.1 9 = 0) (hfz : g.1 12 = 0) (h : Inv g S D) : wp (f_X0_judgePair S 14 x1 D) (fun q => Rg 0 6 q.1 ∧ Inv g S q.2) := by
  unfold f_X0_judgePair
  refine wp_rq (iR_14_0 h) ?_
  refine wp_rq (iR_1_4 h) ?_
  refine wp_ix (in_rg hx1 (iA_6 h) (by decide)) ?_
  refine wp_nmI (fun y150 e_y150 => ?_)
  refine wp_rq (iR_14_0 h) ?_
  refine wp_rq (iR_1_2 h) ?_
  refine wp_ix (in_rg hx1 (iA_4 h) (by decide)) ?_
  refine wp_if (fun c_1 => ?_) (fun c_1 => ?_)
  ·
    have h_2 : Rg 1 1 _ := rg_eq1 (rg_eq (h.p 4 _ rfl) h4_x1) rc_1 c_1 (by decide)
    exact s_X0_judgePair_28 hx1 (rg_w rc_1 (by decide)) h3_x1 (rg_w (rg_eq (h.p 4 _ rfl).symm h_2) (by decide)) (fun ne => by exact (rg_eq (h.p 4 _ rfl).symm h_2)) htt hfz h
  ·
    exact s_X0_judgePair_28 hx1 (rg_w rc_0 (by decide)) h3_x1 h4_x1 (fun ne => absurd rfl ne) htt hfz h
set_option maxRecDepth 100000 in
theorem s_X0_canBeReached_24 {g : gh} {S : sh} {D : dt}   (htt : g.1 9 = 0) (h : Inv g S D) : wp (f_X0_canBeReached_24 S D) (fun q => Rg 0 1 q) := by
  unfold f_X0_canBeReached_24
  exact ⟨_, rfl, (rg_w rc_1 (by decide))⟩
set_option maxRecDepth 100000 in
theorem s_X0_canBeReached {g : gh} {S : sh} {D : dt}  {x1 : Int32} (hx1 : Rg 0 10 x1) (htt : g.1 9 = 0) (h : Inv g S D) : wp (f_X0_canBeReached S D 14 x1) (fun q => Rg 0 1 q) := by
  unfold f_X0_canBeReached
  refine wp_rq (iR_14_4 h) ?_
  refine wp_pqs (s_X5_kind (iK_17 h) (rg_w hx1 (by decide)) h) (fun r15 q_r15 => ?_)
  obtain ⟨h_r15, p_r15⟩ := q_r15
  refine wp_if (fun c_1 => ?_) (fun c_1 => ?_)
  ·
    have h_2 : Rg 2 2 _ := rg_eq1 h_r15 rc_2 c_1 (by decide)
    exact s_X0_canBeReached_24 htt h
  ·
    refine wp_if (fun c_3 => ?_) (fun c_3 => ?_)
    ·
      have h_4 : Rg 3 3 _ := rg_eq1 h_r15 rc_3 c_3 (by decide)
      exact s_X0_canBeReached_24 htt h
    ·
      refine wp_if (fun c_5 => ?_) (fun c_5 => ?_)
      ·
        have h_6 : Rg 5 5 _ := rg_eq1 h_r15 rc_5 c_5 (by decide)
        exact s_X0_canBeReached_24 htt h
      ·
        exact ⟨_, rfl, (rg_w rc_0 (by decide))⟩
/-- register p and off stand in the STACK with n octets -/
def InS (D : dt) (p : Nat) (off n : Int) : Prop := -512 ≤ (gL D 19 p).toInt + off ∧ (gL D 19 p).toInt + off + n ≤ 0
theorem st_now {g : gh} {S : sh} {D : dt} {x1 : Int32} (htt : g.1 9 = 0) (hx1 : Rg 0 74 x1) (h : Inv g S D) (e : gI D 18 x1.toNatClampNeg &&& 15 = 3) : gL D 19 x1.toNatClampNeg = gL D 20 x1.toNatClampNeg ∧ RgL (-1048576) 1048576 (gL D 19 x1.toNatClampNeg) := by
  obtain ⟨s1, s2⟩ := iSS h (iK_17 h) _ (tn_lt hx1 (by decide)) e
  refine ⟨s1, ?_⟩
  rcases s2 with ⟨-, s2⟩ | s2
  · exact absurd htt s2
  · exact s2
theorem s_X0_isThere {g : gh} {S : sh} {D : dt} {x1 x2 x3 x4 : Int32} (hx1 : Rg 0 10 x1) (hx2 : Rg (-32768) 32767 x2) (hx3 : Rg 1 32 x3) (hx4 : Rg 0 1 x4) (htt : g.1 9 = 0) (h : Inv g S D) : wp (f_X0_isThere S D 14 x1 x2 x3 x4) (fun q => Rg 0 1 q ∧ (q ≠ 0 → gI D 18 x1.toNatClampNeg &&& 15 = 3 → InS D x1.toNatClampNeg x2.toInt x3.toInt)) := by
  unfold f_X0_isThere
  have hx : Rg 0 74 x1 := rg_w hx1 (by decide)
  have y0 : wp (some (0 : Int32)) (fun q => Rg 0 1 q ∧ (q ≠ 0 → gI D 18 x1.toNatClampNeg &&& 15 = 3 → InS D x1.toNatClampNeg x2.toInt x3.toInt)) := ⟨_, rfl, r01_0, fun ne => absurd rfl ne⟩
  refine wp_rq (iR_14_4 h) (wp_rq (iR_17_2 h) (wp_ix (in_rg hx (iA_19 h) (by decide)) (wp_nmI (fun a ea => ?_))))
  refine wp_rq (iR_14_4 h) (wp_rq (iR_17_3 h) (wp_ix (in_rg hx (iA_20 h) (by decide)) (wp_nmI (fun b eb => ?_))))
  refine wp_rq (iR_14_4 h) (wp_pqs (s_X5_kind (iK_17 h) hx h) (fun r p => ?_))
  have y1 : r ≠ 3 → wp (some (1 : Int32)) (fun q => Rg 0 1 q ∧ (q ≠ 0 → gI D 18 x1.toNatClampNeg &&& 15 = 3 → InS D x1.toNatClampNeg x2.toInt x3.toInt)) := fun n => ⟨_, rfl, r01_1, fun _ e => absurd (p.2.trans e) n⟩
  refine wp_if (fun c => ?_) (fun c => wp_if (fun c3 => ?_) (fun c3 => ?_))
  · have n3 : r ≠ 3 := by rw [c]; decide
    exact wp_if (fun _ => wp_if (fun _ => y0) (fun _ => wp_rq (iR_14_1 h) (wp_if (fun _ => y0) (fun _ => y1 n3)))) (fun _ => y0)
  · refine wp_if (fun _ => y0) (fun c4 => wp_if (fun _ => y0) (fun c5 => ⟨_, rfl, r01_1, fun _ e => ?_⟩))
    obtain ⟨s1, s2⟩ := st_now htt hx h e
    have c4 := Int64.le_iff_toInt_le.mp (nlt64 (fun q => c4 ((lg_cmp_lt _ _).mpr q)))
    have c5 := Int64.le_iff_toInt_le.mp (nlt64 (fun q => c5 ((lg_cmp_gt _ _).mpr q)))
    have e5 : (-512 : Int64).toInt = -512 := rfl
    have e0 : (0 : Int64).toInt = 0 := rfl
    have u := s2.1
    have v := s2.2
    have f1 := hx2.1
    have f2 := hx2.2
    have f3 := hx3.1
    have f4 := hx3.2
    have ea' : a.toInt = (gL D 19 x1.toNatClampNeg).toInt + x2.toInt := by
      rw [ea, Int64.toInt_add, Int32.toInt_toInt64]
      exact bm64 (by omega) (by omega)
    have eb' : b.toInt = (gL D 19 x1.toNatClampNeg).toInt + x2.toInt + x3.toInt := by
      rw [eb, ← s1, Int64.toInt_add, Int64.toInt_add, Int32.toInt_toInt64, Int32.toInt_toInt64, bm64 (n := (gL D 19 x1.toNatClampNeg).toInt + x2.toInt) (by omega) (by omega)]
      exact bm64 (by omega) (by omega)
    exact ⟨by omega, by omega⟩
  · refine wp_rq (iR_14_1 h) (wp_rq (iR_14_4 h) (wp_pqs (s_X5_tableOf (iK_17 h) hx1 h) (fun t pt => wp_pqs (s_X2_tableNumbered h) (fun tb ptb => wp_oq (fun _ => y0) (fun o _ => ?_)))))
    exact wp_if (fun _ => y0) (fun _ => wp_if (fun _ => y0) (fun _ => y1 c3))
theorem s_X0_inStack {g : gh} {S : sh} {D : dt} {x1 x2 : Int32} (hx1 : Rg 0 10 x1) (hx2 : Rg (-32768) 32767 x2) (htt : g.1 9 = 0) (h : Inv g S D) : wp (f_X0_inStack S D 14 x1 x2) (fun q => (gI D 18 x1.toNatClampNeg &&& 15 = 3 → q.toInt = (gL D 19 x1.toNatClampNeg).toInt + x2.toInt + 512)) := by
  unfold f_X0_inStack
  have hx : Rg 0 74 x1 := rg_w hx1 (by decide)
  refine wp_rq (iR_14_4 h) (wp_rq (iR_17_2 h) (wp_ix (in_rg hx (iA_19 h) (by decide)) ⟨_, rfl, fun e => ?_⟩))
  obtain ⟨s1, s2⟩ := st_now htt hx h e
  have a : Rg (-1048576) 1048576 (gL D 19 x1.toNatClampNeg).toInt32 := rg_of s2 (by decide)
  have ea : (gL D 19 x1.toNatClampNeg).toInt32.toInt = (gL D 19 x1.toNatClampNeg).toInt := by
    rw [Int64.toInt_toInt32]
    exact bm32 (by have := s2.1; omega) (by have := s2.2; omega)
  have b := rg_add (l := -1081344) (h := 1081343) a hx2 (by decide)
  rw [i32_add b (by decide : Rg 512 512 (512 : Int32)) (by decide), i32_add a hx2 (by decide), ea]
  rfl
set_option maxRecDepth 100000 in
theorem s_X0_isHeldWhole {g : gh} {S : sh} {D : dt}  {x1 : Int32} {x2 : Int32} (hx2 : Rg 1 32 x2) (htt : g.1 9 = 0) (h : Inv g S D) : wp (f_X0_isHeldWhole S D 14 x1 x2) (fun q => Rg 0 1 q) := by
  unfold f_X0_isHeldWhole
  refine wp_if (fun c_1 => ?_) (fun c_1 => ?_)
  ·
    have h_2 : Rg 8 8 _ := rg_eq1 hx2 rc_8 c_1 (by decide)
    refine wp_if (fun c_3 => ?_) (fun c_3 => ?_)
    ·
      have h_4 : Rg 0 0 _ := rg_eq1 (rg_andr _ (by decide) : Rg 0 7 _) rc_0 c_3 (by decide)
      refine wp_rq (iR_14_4 h) ?_
      refine wp_pqs (s_X5_holds (iK_17 h) (rg_shr (rg_top _) (by decide) : Rg (-268435456) 268435455 _) h) (fun r17 h_r17 => ?_)
      refine wp_if (fun c_5 => ?_) (fun c_5 => ?_)
      ·
        have h_6 : Rg 0 0 _ := rg_eq1 h_r17 rc_0 c_5 (by decide)
        exact ⟨_, rfl, (rg_w rc_0 (by decide))⟩
      ·
        have h_7 : Rg 1 1 _ := rg_ne1 h_r17 rc_0 c_5 (by decide)
        exact ⟨_, rfl, (rg_w rc_1 (by decide))⟩
    ·
      have h_8 : Rg 1 7 _ := rg_ne1 (rg_andr _ (by decide) : Rg 0 7 _) rc_0 c_3 (by decide)
      exact ⟨_, rfl, (rg_w rc_0 (by decide))⟩
  ·
    exact ⟨_, rfl, (rg_w rc_0 (by decide))⟩
theorem ins_rg {D : dt} {p : Nat} {off n : Int} {q : Int32} (ht : gI D 18 p &&& 15 = 3) (hi : gI D 18 p &&& 15 = 3 → InS D p off n) (hq : gI D 18 p &&& 15 = 3 → q.toInt = (gL D 19 p).toInt + off + 512) (hn : 1 ≤ n) : Rg 0 511 q := by
  obtain ⟨a, b⟩ := hi ht
  have c := hq ht
  exact ⟨by omega, by omega⟩
theorem ins_sum {D : dt} {p : Nat} {off : Int} {q x : Int32} (ht : gI D 18 p &&& 15 = 3) (hi : gI D 18 p &&& 15 = 3 → InS D p off x.toInt) (hq : gI D 18 p &&& 15 = 3 → q.toInt = (gL D 19 p).toInt + off + 512) (hx : Rg 1 32 x) : Rg 1 512 (q + x) := by
  have r := ins_rg ht hi hq hx.1
  obtain ⟨a, b⟩ := hi ht
  have c := hq ht
  have e := i32_add r hx (by decide)
  have := hx.1
  unfold Rg
  rw [e]
  omega
theorem s_X0_canBeRead {g : gh} {S : sh} {D : dt} {x1 x2 x3 : Int32} (hx1 : Rg 0 10 x1) (hx2 : Rg (-32768) 32767 x2) (hx3 : Rg 1 32 x3) (htt : g.1 9 = 0) (h : Inv g S D) : wp (f_X0_canBeRead S D 14 x1 x2 x3) (fun q => Rg 0 1 q ∧ (q ≠ 0 → gI D 18 x1.toNatClampNeg &&& 15 = 3 → InS D x1.toNatClampNeg x2.toInt x3.toInt)) := by
  unfold f_X0_canBeRead
  have hx : Rg 0 74 x1 := rg_w hx1 (by decide)
  refine wp_pqs (s_X0_isThere hx1 hx2 hx3 (by decide) htt h) (fun r p => wp_if (fun _ => ⟨_, rfl, r01_0, fun ne => absurd rfl ne⟩) (fun c => ?_))
  have yes : wp (some (1 : Int32)) (fun q => Rg 0 1 q ∧ (q ≠ 0 → gI D 18 x1.toNatClampNeg &&& 15 = 3 → InS D x1.toNatClampNeg x2.toInt x3.toInt)) := ⟨_, rfl, r01_1, fun _ => p.2 c⟩
  refine wp_rq (iR_14_4 h) (wp_pqs (s_X5_kind (iK_17 h) hx h) (fun k pk => wp_if (fun ck => ?_) (fun _ => yes)))
  have ht := pk.2.symm.trans ck
  refine wp_pqs (s_X0_inStack hx1 hx2 htt h) (fun q pq => ?_)
  have r0 := ins_rg ht (p.2 c) pq hx3.1
  have r1 := ins_sum ht (p.2 c) pq hx3
  unfold f_X0_isHeldWhole f_X0_canBeRead_58
  refine wp_pqs (Q := fun _ => True) ?_ (fun z _ => wp_if (fun _ => wp_rq (iR_14_4 h) (wp_pqs (s_X5_areKnown r0 hx3 r1 h) (fun w pw => wp_if (fun _ => ⟨_, rfl, r01_0, fun ne => absurd rfl ne⟩) (fun _ => yes)))) (fun _ => yes))
  exact wp_if (fun _ => wp_if (fun _ => wp_rq (iR_14_4 h) (wp_pqs (s_X5_holds (iK_17 h) (rg_w (rg_shr (l := 0) (h := 63) r0 (by decide)) (by decide)) h) (fun _ _ => wp_if (fun _ => ⟨_, rfl, trivial⟩) (fun _ => ⟨_, rfl, trivial⟩)))) (fun _ => ⟨_, rfl, trivial⟩)) (fun _ => ⟨_, rfl, trivial⟩)
set_option maxRecDepth 100000 in
theorem s_X0_judgeLoad_160 {g : gh} {S : sh}  {xs1 : Int32} {xs2 : Int32} {D : dt} (hxs1 : Rg 0 10 xs1) (hxs2 : Rg 1 8 xs2) (htt : g.1 9 = 0) (h : Inv g S D) : wp (f_X0_judgeLoad_160 S 17 xs1 xs2 D) (fun q => Rg 0 4 q.1 ∧ Inv g S q.2) := by
  unfold f_X0_judgeLoad_160
  refine wp_cqs (s_X5_writeAny hxs1 hxs2 h) (fun _ D83 h_D83 => ?_)
  exact ⟨_, rfl, (rg_w rc_0 (by decide)), h_D83⟩
set_option maxRecDepth 100000 in
theorem s_X0_judgeLoad_137 {g : gh} {S : sh}  {x1 : Int32} {x2 : Int32} {x4 : Int32} {D : dt} (hx1 : Rg 0 199 x1) (hx2 : Rg 0 10 x2) (hx4 : Rg 1 8 x4) (h3_x1 : Rg 0 10 (g.2 3 x1.toNatClampNeg)) (h4_x1 : Rg 0 10 (g.2 4 x1.toNatClampNeg)) (htt : g.1 9 = 0) (h : Inv g S D) : wp (f_X0_judgeLoad_137 S 14 x1 x2 x4 D) (fun q => Rg 0 4 q.1 ∧ Inv g S q.2) := by
  unfold f_X0_judgeLoad_137
  refine wp_rq (iR_14_4 h) ?_
  refine wp_rq (iR_14_0 h) ?_
  refine wp_pqs (s_X4_isSignedLoad hx1 h) (fun r93 h_r93 => ?_)
  refine wp_if (fun c_1 => ?_) (fun c_1 => ?_)
  ·
    have h_2 : Rg 0 0 _ := rg_eq1 h_r93 rc_0 c_1 (by decide)
    exact s_X0_judgeLoad_160 hx2 hx4 htt h
  ·
    have h_3 : Rg 1 1 _ := rg_ne1 h_r93 rc_0 c_1 (by decide)
    exact s_X0_judgeLoad_160 hx2 (rg_w rc_8 (by decide)) htt h
set_option maxRecDepth 100000 in
theorem s_X0_judgeLoad_101 {g : gh} {S : sh}  {x1 : Int32} {x2 : Int32} {x4 : Int32} {xs0 : Int32} {D : dt} (hx1 : Rg 0 199 x1) (hx2 : Rg 0 10 x2) (hx4 : Rg 1 8 x4) (hxs0 : Rg (-1) 511 xs0) (h3_x1 : Rg 0 10 (g.2 3 x1.toNatClampNeg)) (h4_x1 : Rg 0 10 (g.2 4 x1.toNatClampNeg)) (htt : g.1 9 = 0) (h : Inv g S D) : wp (f_X0_judgeLoad_101 S 14 x1 x2 x4 xs0 D) (fun q => Rg 0 4 q.1 ∧ Inv g S q.2) := by
  unfold f_X0_judgeLoad_101
  refine wp_if (fun c_1 => ?_) (fun c_1 => ?_)
  ·
    have h_2 : Rg (-1) (-1) _ := rg_lt1 hxs0 rc_0 c_1 (by decide)
    exact s_X0_judgeLoad_137 hx1 hx2 hx4 h3_x1 h4_x1 htt h
  ·
    have h_3 : Rg 0 511 _ := rg_le2 rc_0 hxs0 (nlt32 c_1) (by decide)
    refine wp_pqs (s_X0_isHeldWhole (rg_w hx4 (by decide)) htt h) (fun r97 h_r97 => ?_)
    refine wp_if (fun c_4 => ?_) (fun c_4 => ?_)
    ·
      have h_5 : Rg 0 0 _ := rg_eq1 h_r97 rc_0 c_4 (by decide)
      exact s_X0_judgeLoad_137 hx1 hx2 hx4 h3_x1 h4_x1 htt h
    ·
      have h_6 : Rg 1 1 _ := rg_ne1 h_r97 rc_0 c_4 (by decide)
      refine wp_rq (iR_14_4 h) ?_
      refine wp_cqs (s_X5_move (rg_w hx2 (by decide)) (rg_w (rg_add rc_11 (rg_shr h_3 (by decide) : Rg 0 63 _) (by decide) : Rg 11 74 _) (by decide)) h) (fun _ D104 h_D104 => ?_)
      exact ⟨_, rfl, (rg_w rc_0 (by decide)), h_D104⟩
set_option maxRecDepth 100000 in
theorem s_X0_judgeLoad {g : gh} {S : sh}  {x1 : Int32} {D : dt} (hx1 : Rg 0 199 x1) (h3_x1 : Rg 0 10 (g.2 3 x1.toNatClampNeg)) (h4_x1 : Rg 0 10 (g.2 4 x1.toNatClampNeg)) (htt : g.1 9 = 0) (h : Inv g S D) : wp (f_X0_judgeLoad S 14 x1 D) (fun q => Rg 0 4 q.1 ∧ Inv g S q.2) := by
  unfold f_X0_judgeLoad
  refine wp_rq (iR_14_0 h) ?_
  refine wp_rq (iR_1_1 h) ?_
  refine wp_ix (in_rg hx1 (iA_3 h) (by decide)) ?_
  refine wp_nmI (fun y114 e_y114 => ?_)
  have h_y114 : Rg 0 10 y114 := rg_eq e_y114 (rg_eq (h.p 3 _ rfl) h3_x1)
  refine wp_rq (iR_14_0 h) ?_
  refine wp_rq (iR_1_2 h) ?_
  refine wp_ix (in_rg hx1 (iA_4 h) (by decide)) ?_
  refine wp_nmI (fun y124 e_y124 => ?_)
  have h_y124 : Rg 0 10 y124 := rg_eq e_y124 (rg_eq (h.p 4 _ rfl) h4_x1)
  refine wp_rq (iR_14_0 h) ?_
  refine wp_pqs (s_X4_width hx1 h) (fun r130 h_r130 => ?_)
  refine wp_rq (iR_14_0 h) ?_
  refine wp_rq (iR_1_3 h) ?_
  refine wp_ix (in_rg hx1 (iA_5 h) (by decide)) ?_
  refine wp_nmI (fun y140 e_y140 => ?_)
  have h_y140 : Rg (-32768) 32767 y140 := rg_eq e_y140 (iI_5 h _)
  refine wp_rq (iR_14_4 h) ?_
  refine wp_pqs (s_X5_isNone (iK_17 h) (rg_w h_y124 (by decide)) h) (fun r146 h_r146 => ?_)
  refine wp_if (fun c_1 => ?_) (fun c_1 => ?_)
  ·
    have h_2 : Rg 0 0 _ := rg_eq1 h_r146 rc_0 c_1 (by decide)
    refine wp_pqs (s_X0_canBeReached h_y124 htt h) (fun r149 h_r149 => ?_)
    refine wp_if (fun c_3 => ?_) (fun c_3 => ?_)
    ·
      have h_4 : Rg 0 0 _ := rg_eq1 h_r149 rc_0 c_3 (by decide)
      exact ⟨_, rfl, (rg_w rc_3 (by decide)), h⟩
    ·
      have h_5 : Rg 1 1 _ := rg_ne1 h_r149 rc_0 c_3 (by decide)
      refine wp_pqs (s_X0_canBeRead h_y124 h_y140 (rg_w h_r130 (by decide)) htt h) (fun r152 q_r152 => ?_)
      obtain ⟨h_r152, p_r152⟩ := q_r152
      refine wp_if (fun c_6 => ?_) (fun c_6 => ?_)
      ·
        have h_7 : Rg 0 0 _ := rg_eq1 h_r152 rc_0 c_6 (by decide)
        exact ⟨_, rfl, (rg_w rc_4 (by decide)), h⟩
      ·
        have h_8 : Rg 1 1 _ := rg_ne1 h_r152 rc_0 c_6 (by decide)
        refine wp_rq (iR_14_4 h) ?_
        refine wp_pqs (s_X5_kind (iK_17 h) (rg_w h_y124 (by decide)) h) (fun r159 q_r159 => ?_)
        obtain ⟨h_r159, p_r159⟩ := q_r159
        refine wp_if (fun c_9 => ?_) (fun c_9 => ?_)
        ·
          have h_10 : Rg 3 3 _ := rg_eq1 h_r159 rc_3 c_9 (by decide)
          refine wp_pqs (s_X0_inStack h_y124 h_y140 htt h) (fun r162 p_r162 => ?_)
          exact s_X0_judgeLoad_101 hx1 h_y114 h_r130 (rg_w (ins_rg (p_r159.symm.trans c_9) (p_r152 c_6) p_r162 (by have := h_r130.1; omega)) (by decide)) h3_x1 h4_x1 htt h
        ·
          exact s_X0_judgeLoad_101 hx1 h_y114 h_r130 (rg_w rc_m1 (by decide)) h3_x1 h4_x1 htt h
  ·
    have h_11 : Rg 1 1 _ := rg_ne1 h_r146 rc_0 c_1 (by decide)
    exact ⟨_, rfl, (rg_w rc_2 (by decide)), h⟩
set_option maxRecDepth 100000 in
theorem s_X0_judgePut_169 {g : gh} {S : sh}  {x3 : Int32} {x4 : Int32} {x5 : Int32} {x6 : Int32} {x7 : Int32} {x8 : Int32} {D : dt} (hx3 : Rg 0 10 x3) (hx4 : Rg 0 10 x4) (hx5 : Rg 1 8 x5) (hx6 : Rg (-32768) 32767 x6) (hx7 : Rg 0 1 x7) (hx8 : Rg 0 1 x8) (hk : (x7 ≠ 0 → gI D 18 x3.toNatClampNeg &&& 15 = 3)) (hw : (x8 ≠ 0 → gI D 18 x3.toNatClampNeg &&& 15 = 3)) (htt : g.1 9 = 0) (h : Inv g S D) : wp (f_X0_judgePut_169 S 14 x3 x4 x5 x6 x7 x8 D) (fun q => Rg 0 4 q.1 ∧ Inv g S q.2) := by
  unfold f_X0_judgePut_169
  refine wp_pqs (s_X0_isThere hx3 hx6 (rg_w hx5 (by decide)) (rg_w rc_1 (by decide)) htt h) (fun r114 q_r114 => ?_)
  obtain ⟨h_r114, p_r114⟩ := q_r114
  refine wp_if (fun c_1 => ?_) (fun c_1 => ?_)
  ·
    have h_2 : Rg 0 0 _ := rg_eq1 h_r114 rc_0 c_1 (by decide)
    exact ⟨_, rfl, (rg_w rc_4 (by decide)), h⟩
  ·
    have h_3 : Rg 1 1 _ := rg_ne1 h_r114 rc_0 c_1 (by decide)
    refine wp_if (fun c_4 => ?_) (fun c_4 => ?_)
    ·
      have h_5 : Rg 0 0 _ := rg_eq1 hx8 rc_0 c_4 (by decide)
      refine wp_if (fun c_6 => ?_) (fun c_6 => ?_)
      ·
        have h_7 : Rg 0 0 _ := rg_eq1 hx7 rc_0 c_6 (by decide)
        exact ⟨_, rfl, (rg_w rc_0 (by decide)), h⟩
      ·
        have h_8 : Rg 1 1 _ := rg_ne1 hx7 rc_0 c_6 (by decide)
        refine wp_rq (iR_14_4 h) ?_
        refine wp_pqs (s_X0_inStack hx3 hx6 htt h) (fun r123 p_r123 => ?_)
        refine wp_cqs (s_X5_putOctets (ins_rg (hk c_6) (p_r114 c_1) p_r123 hx5.1) hx5 (ins_sum (hk c_6) (p_r114 c_1) p_r123 (rg_w hx5 (by decide))) h) (fun _ D125 h_D125 => ?_)
        exact ⟨_, rfl, (rg_w rc_0 (by decide)), h_D125⟩
    ·
      have h_9 : Rg 1 1 _ := rg_ne1 hx8 rc_0 c_4 (by decide)
      refine wp_rq (iR_14_4 h) ?_
      refine wp_pqs (s_X0_inStack hx3 hx6 htt h) (fun r131 p_r131 => ?_)
      refine wp_cqs (s_X5_hold (rg_shr (ins_rg (hw c_4) (p_r114 c_1) p_r131 hx5.1) (by decide)) hx4 h) (fun _ D133 h_D133 => ?_)
      exact ⟨_, rfl, (rg_w rc_0 (by decide)), h_D133⟩
set_option maxRecDepth 100000 in
theorem s_X0_judgePut_136 {g : gh} {S : sh}  {x2 : Int32} {x3 : Int32} {x4 : Int32} {x5 : Int32} {x6 : Int32} {x7 : Int32} {xs0 : Int32} {D : dt} (hx2 : Rg 0 1 x2) (hx3 : Rg 0 10 x3) (hx4 : Rg 0 10 x4) (hx5 : Rg 1 8 x5) (hx6 : Rg (-32768) 32767 x6) (hx7 : Rg 0 1 x7) (hxs0 : Rg 0 1 xs0) (hk : (x7 ≠ 0 → gI D 18 x3.toNatClampNeg &&& 15 = 3)) (hw : (xs0 ≠ 0 → gI D 18 x3.toNatClampNeg &&& 15 = 3)) (htt : g.1 9 = 0) (h : Inv g S D) : wp (f_X0_judgePut_136 S 14 x2 x3 x4 x5 x6 x7 xs0 D) (fun q => Rg 0 4 q.1 ∧ Inv g S q.2) := by
  unfold f_X0_judgePut_136
  refine wp_pqs (s_X0_canBeReached hx3 htt h) (fun r135 h_r135 => ?_)
  refine wp_if (fun c_1 => ?_) (fun c_1 => ?_)
  ·
    have h_2 : Rg 0 0 _ := rg_eq1 h_r135 rc_0 c_1 (by decide)
    exact ⟨_, rfl, (rg_w rc_3 (by decide)), h⟩
  ·
    have h_3 : Rg 1 1 _ := rg_ne1 h_r135 rc_0 c_1 (by decide)
    refine wp_if (fun c_4 => ?_) (fun c_4 => ?_)
    ·
      have h_5 : Rg 0 0 _ := rg_eq1 hx2 rc_0 c_4 (by decide)
      exact s_X0_judgePut_169 hx3 hx4 hx5 hx6 hx7 hxs0 (by first | exact hk | exact (fun ne => absurd rfl ne)) (by first | exact hw | exact (fun ne => absurd rfl ne)) htt h
    ·
      have h_6 : Rg 1 1 _ := rg_ne1 hx2 rc_0 c_4 (by decide)
      refine wp_rq (iR_14_4 h) ?_
      refine wp_pqs (s_X5_isNumber (iK_17 h) (rg_w hx4 (by decide)) h) (fun r143 h_r143 => ?_)
      refine wp_if (fun c_7 => ?_) (fun c_7 => ?_)
      ·
        have h_8 : Rg 0 0 _ := rg_eq1 h_r143 rc_0 c_7 (by decide)
        refine wp_if (fun c_9 => ?_) (fun c_9 => ?_)
        ·
          have h_10 : Rg 0 0 _ := rg_eq1 hxs0 rc_0 c_9 (by decide)
          exact ⟨_, rfl, (rg_w rc_3 (by decide)), h⟩
        ·
          have h_11 : Rg 1 1 _ := rg_ne1 hxs0 rc_0 c_9 (by decide)
          exact s_X0_judgePut_169 hx3 hx4 hx5 hx6 hx7 (rg_w h_11 (by decide)) (by first | exact hk | exact (fun ne => absurd rfl ne)) (by first | exact hw | exact (fun ne => absurd rfl ne)) htt h
      ·
        have h_12 : Rg 1 1 _ := rg_ne1 h_r143 rc_0 c_7 (by decide)
        exact s_X0_judgePut_169 hx3 hx4 hx5 hx6 hx7 hxs0 (by first | exact hk | exact (fun ne => absurd rfl ne)) (by first | exact hw | exact (fun ne => absurd rfl ne)) htt h
set_option maxRecDepth 100000 in
theorem s_X0_judgePut_135 {g : gh} {S : sh}  {x2 : Int32} {x3 : Int32} {x4 : Int32} {x5 : Int32} {x6 : Int32} {x7 : Int32} {D : dt} (hx2 : Rg 0 1 x2) (hx3 : Rg 0 10 x3) (hx4 : Rg 0 10 x4) (hx5 : Rg 1 8 x5) (hx6 : Rg (-32768) 32767 x6) (hx7 : Rg 0 1 x7) (hk : (x7 ≠ 0 → gI D 18 x3.toNatClampNeg &&& 15 = 3)) (htt : g.1 9 = 0) (h : Inv g S D) : wp (f_X0_judgePut_135 S 14 x2 x3 x4 x5 x6 x7 D) (fun q => Rg 0 4 q.1 ∧ Inv g S q.2) := by
  unfold f_X0_judgePut_135
  exact s_X0_judgePut_136 hx2 hx3 hx4 hx5 hx6 hx7 (rg_w rc_0 (by decide)) (by first | exact hk | exact (fun ne => absurd rfl ne)) (by first | exact hw | exact (fun ne => absurd rfl ne)) htt h
set_option maxRecDepth 100000 in
theorem s_X0_judgePut_88 {g : gh} {S : sh}  {x1 : Int32} {x2 : Int32} {x3 : Int32} {x4 : Int32} {x5 : Int32} {x6 : Int32} {xs0 : Int32} {D : dt} (hx1 : Rg 0 199 x1) (hx2 : Rg 0 1 x2) (hx3 : Rg 0 10 x3) (hx4 : Rg 0 10 x4) (hx5 : Rg 1 8 x5) (hx6 : Rg (-32768) 32767 x6) (hxs0 : Rg 0 1 xs0) (h3_x1 : Rg 0 10 (g.2 3 x1.toNatClampNeg)) (h4_x1 : Rg 0 10 (g.2 4 x1.toNatClampNeg)) (hk : (xs0 ≠ 0 → gI D 18 x3.toNatClampNeg &&& 15 = 3)) (htt : g.1 9 = 0) (h : Inv g S D) : wp (f_X0_judgePut_88 S 14 x1 x2 x3 x4 x5 x6 xs0 D) (fun q => Rg 0 4 q.1 ∧ Inv g S q.2) := by
  unfold f_X0_judgePut_88
  refine wp_rq (iR_14_0 h) ?_
  refine wp_rq (iR_1_0 h) ?_
  refine wp_ix (in_rg hx1 (iA_2 h) (by decide)) ?_
  refine wp_if (fun c_1 => ?_) (fun c_1 => ?_)
  ·
    have h_2 : Rg 123 123 _ := rg_eq1 (iI_2 h _) rc_123 c_1 (by decide)
    refine wp_if (fun c_3 => ?_) (fun c_3 => ?_)
    ·
      have h_4 : Rg 0 0 _ := rg_eq1 hxs0 rc_0 c_3 (by decide)
      exact s_X0_judgePut_135 hx2 hx3 hx4 hx5 hx6 (rg_w h_4 (by decide)) (by first | exact hk | exact (fun ne => absurd rfl ne)) htt h
    ·
      have h_5 : Rg 1 1 _ := rg_ne1 hxs0 rc_0 c_3 (by decide)
      refine wp_rq (iR_14_4 h) ?_
      refine wp_rq (iR_17_2 h) ?_
      refine wp_ix (in_rg hx3 (iA_19 h) (by decide)) ?_
      refine wp_if (fun c_6 => ?_) (fun c_6 => ?_)
      ·
        have h_7 : RgL 0 0 _ := rgl_eq1 (rgl_andr _ (by decide) : RgL 0 7 _) rcl_0 ((lg_cmp_eq _ _).mp c_6) (by decide)
        exact s_X0_judgePut_136 hx2 hx3 hx4 hx5 hx6 (rg_w h_5 (by decide)) (rg_w rc_1 (by decide)) (by first | exact hk | exact (fun ne => absurd rfl ne)) (fun _ => hk c_3) htt h
      ·
        have h_8 : RgL 1 7 _ := rgl_ne1 (rgl_andr _ (by decide) : RgL 0 7 _) rcl_0 (fun q => c_6 ((lg_cmp_eq _ _).mpr q)) (by decide)
        exact s_X0_judgePut_135 hx2 hx3 hx4 hx5 hx6 (rg_w h_5 (by decide)) (by first | exact hk | exact (fun ne => absurd rfl ne)) htt h
  ·
    exact s_X0_judgePut_135 hx2 hx3 hx4 hx5 hx6 hxs0 (by first | exact hk | exact (fun ne => absurd rfl ne)) htt h
set_option maxRecDepth 100000 in
theorem s_X0_judgePut_71 {g : gh} {S : sh}  {x1 : Int32} {x2 : Int32} {x3 : Int32} {x4 : Int32} {x5 : Int32} {x6 : Int32} {D : dt} (hx1 : Rg 0 199 x1) (hx2 : Rg 0 1 x2) (hx3 : Rg 0 10 x3) (hx4 : Rg 0 10 x4) (hx5 : Rg 1 8 x5) (hx6 : Rg (-32768) 32767 x6) (h3_x1 : Rg 0 10 (g.2 3 x1.toNatClampNeg)) (h4_x1 : Rg 0 10 (g.2 4 x1.toNatClampNeg)) (htt : g.1 9 = 0) (h : Inv g S D) : wp (f_X0_judgePut_71 S 14 x1 x2 x3 x4 x5 x6 D) (fun q => Rg 0 4 q.1 ∧ Inv g S q.2) := by
  unfold f_X0_judgePut_71
  refine wp_rq (iR_14_4 h) ?_
  refine wp_pqs (s_X5_kind (iK_17 h) (rg_w hx3 (by decide)) h) (fun r172 q_r172 => ?_)
  obtain ⟨h_r172, p_r172⟩ := q_r172
  refine wp_if (fun c_1 => ?_) (fun c_1 => ?_)
  ·
    have h_2 : Rg 3 3 _ := rg_eq1 h_r172 rc_3 c_1 (by decide)
    exact s_X0_judgePut_88 hx1 hx2 hx3 hx4 hx5 hx6 (rg_w rc_1 (by decide)) h3_x1 h4_x1 (fun _ => p_r172.symm.trans c_1) htt h
  ·
    exact s_X0_judgePut_88 hx1 hx2 hx3 hx4 hx5 hx6 (rg_w rc_0 (by decide)) h3_x1 h4_x1 (by first | exact hk | exact (fun ne => absurd rfl ne)) htt h
set_option maxRecDepth 100000 in
theorem s_X0_judgePut {g : gh} {S : sh}  {x1 : Int32} {x2 : Int32} {D : dt} (hx1 : Rg 0 199 x1) (hx2 : Rg 0 1 x2) (h3_x1 : Rg 0 10 (g.2 3 x1.toNatClampNeg)) (h4_x1 : Rg 0 10 (g.2 4 x1.toNatClampNeg)) (htt : g.1 9 = 0) (h : Inv g S D) : wp (f_X0_judgePut S 14 x1 x2 D) (fun q => Rg 0 4 q.1 ∧ Inv g S q.2) := by
  unfold f_X0_judgePut
  refine wp_rq (iR_14_0 h) ?_
  refine wp_rq (iR_1_1 h) ?_
  refine wp_ix (in_rg hx1 (iA_3 h) (by decide)) ?_
  refine wp_nmI (fun y183 e_y183 => ?_)
  have h_y183 : Rg 0 10 y183 := rg_eq e_y183 (rg_eq (h.p 3 _ rfl) h3_x1)
  refine wp_rq (iR_14_0 h) ?_
  refine wp_rq (iR_1_2 h) ?_
  refine wp_ix (in_rg hx1 (iA_4 h) (by decide)) ?_
  refine wp_nmI (fun y193 e_y193 => ?_)
  have h_y193 : Rg 0 10 y193 := rg_eq e_y193 (rg_eq (h.p 4 _ rfl) h4_x1)
  refine wp_rq (iR_14_0 h) ?_
  refine wp_pqs (s_X4_width hx1 h) (fun r199 h_r199 => ?_)
  refine wp_rq (iR_14_0 h) ?_
  refine wp_rq (iR_1_3 h) ?_
  refine wp_ix (in_rg hx1 (iA_5 h) (by decide)) ?_
  refine wp_nmI (fun y209 e_y209 => ?_)
  have h_y209 : Rg (-32768) 32767 y209 := rg_eq e_y209 (iI_5 h _)
  refine wp_rq (iR_14_4 h) ?_
  refine wp_pqs (s_X5_isNone (iK_17 h) (rg_w h_y183 (by decide)) h) (fun r215 h_r215 => ?_)
  refine wp_if (fun c_1 => ?_) (fun c_1 => ?_)
  ·
    have h_2 : Rg 0 0 _ := rg_eq1 h_r215 rc_0 c_1 (by decide)
    refine wp_if (fun c_3 => ?_) (fun c_3 => ?_)
    ·
      have h_4 : Rg 0 0 _ := rg_eq1 hx2 rc_0 c_3 (by decide)
      exact s_X0_judgePut_71 hx1 (rg_w h_4 (by decide)) h_y183 h_y193 h_r199 h_y209 h3_x1 h4_x1 htt h
    ·
      have h_5 : Rg 1 1 _ := rg_ne1 hx2 rc_0 c_3 (by decide)
      refine wp_rq (iR_14_4 h) ?_
      refine wp_pqs (s_X5_isNone (iK_17 h) (rg_w h_y193 (by decide)) h) (fun r223 h_r223 => ?_)
      refine wp_if (fun c_6 => ?_) (fun c_6 => ?_)
      ·
        have h_7 : Rg 0 0 _ := rg_eq1 h_r223 rc_0 c_6 (by decide)
        exact s_X0_judgePut_71 hx1 (rg_w h_5 (by decide)) h_y183 h_y193 h_r199 h_y209 h3_x1 h4_x1 htt h
      ·
        have h_8 : Rg 1 1 _ := rg_ne1 h_r223 rc_0 c_6 (by decide)
        exact ⟨_, rfl, (rg_w rc_2 (by decide)), h⟩
  ·
    have h_9 : Rg 1 1 _ := rg_ne1 h_r215 rc_0 c_1 (by decide)
    exact ⟨_, rfl, (rg_w rc_2 (by decide)), h⟩
set_option maxRecDepth 100000 in
theorem s_X0_judgeChange_253 {g : gh} {S : sh}  {x4 : Int32} {xs1 : Int32} {D : dt} (hx4 : Rg 1 8 x4) (hxs1 : Rg 0 10 xs1) (htt : g.1 9 = 0) (h : Inv g S D) : wp (f_X0_judgeChange_253 S x4 17 xs1 D) (fun q => Rg 0 4 q.1 ∧ Inv g S q.2) := by
  unfold f_X0_judgeChange_253
  refine wp_cqs (s_X5_writeAny hxs1 hx4 h) (fun _ D131 h_D131 => ?_)
  exact ⟨_, rfl, (rg_w rc_0 (by decide)), h_D131⟩
set_option maxRecDepth 100000 in
theorem s_X0_judgeChange_232 {g : gh} {S : sh}  {x3 : Int32} {x4 : Int32} {x6 : Int32} {x7 : Int32} {D : dt} (hx3 : Rg 0 10 x3) (hx4 : Rg 1 8 x4) (hx7 : Rg 0 1 x7) (htt : g.1 9 = 0) (h : Inv g S D) : wp (f_X0_judgeChange_232 S 14 x3 x4 x6 x7 D) (fun q => Rg 0 4 q.1 ∧ Inv g S q.2) := by
  unfold f_X0_judgeChange_232
  refine wp_if (fun c_1 => ?_) (fun c_1 => ?_)
  ·
    have h_2 : Rg 0 0 _ := rg_eq1 (rg_andr _ (by decide) : Rg 0 1 _) rc_0 c_1 (by decide)
    exact ⟨_, rfl, (rg_w rc_0 (by decide)), h⟩
  ·
    have h_3 : Rg 1 1 _ := rg_ne1 (rg_andr _ (by decide) : Rg 0 1 _) rc_0 c_1 (by decide)
    refine wp_rq (iR_14_4 h) ?_
    refine wp_if (fun c_4 => ?_) (fun c_4 => ?_)
    ·
      have h_5 : Rg 0 0 _ := rg_eq1 hx7 rc_0 c_4 (by decide)
      exact s_X0_judgeChange_253 hx4 hx3 htt h
    ·
      have h_6 : Rg 1 1 _ := rg_ne1 hx7 rc_0 c_4 (by decide)
      exact s_X0_judgeChange_253 hx4 (rg_w rc_0 (by decide)) htt h
set_option maxRecDepth 100000 in
theorem s_X0_judgeChange_211 {g : gh} {S : sh}  {x2 : Int32} {x3 : Int32} {x4 : Int32} {x5 : Int32} {x6 : Int32} {x7 : Int32} {x8 : Int32} {D : dt} (hx2 : Rg 0 10 x2) (hx3 : Rg 0 10 x3) (hx4 : Rg 1 8 x4) (hx5 : Rg (-32768) 32767 x5) (hx7 : Rg 0 1 x7) (hx8 : Rg 0 1 x8) (hk : (x8 ≠ 0 → gI D 18 x2.toNatClampNeg &&& 15 = 3)) (hin : (x8 ≠ 0 → InS D x2.toNatClampNeg x5.toInt x4.toInt)) (htt : g.1 9 = 0) (h : Inv g S D) : wp (f_X0_judgeChange_211 S 14 x2 x3 x4 x5 x6 x7 x8 D) (fun q => Rg 0 4 q.1 ∧ Inv g S q.2) := by
  unfold f_X0_judgeChange_211
  refine wp_if (fun c_1 => ?_) (fun c_1 => ?_)
  ·
    have h_2 : Rg 0 0 _ := rg_eq1 hx8 rc_0 c_1 (by decide)
    exact s_X0_judgeChange_232 hx3 hx4 hx7 htt h
  ·
    have h_3 : Rg 1 1 _ := rg_ne1 hx8 rc_0 c_1 (by decide)
    refine wp_rq (iR_14_4 h) ?_
    refine wp_pqs (s_X0_inStack hx2 hx5 htt h) (fun r144 p_r144 => ?_)
    refine wp_cqs (s_X5_putOctets (ins_rg (hk c_1) (fun _ => hin c_1) p_r144 hx4.1) hx4 (ins_sum (hk c_1) (fun _ => hin c_1) p_r144 (rg_w hx4 (by decide))) h) (fun _ D146 h_D146 => ?_)
    exact s_X0_judgeChange_232 hx3 hx4 hx7 htt h_D146
set_option maxRecDepth 100000 in
theorem s_X0_judgeChange_172 {g : gh} {S : sh}  {x2 : Int32} {x3 : Int32} {x4 : Int32} {x5 : Int32} {x6 : Int32} {x7 : Int32} {x8 : Int32} {D : dt} (hx2 : Rg 0 10 x2) (hx3 : Rg 0 10 x3) (hx4 : Rg 1 8 x4) (hx5 : Rg (-32768) 32767 x5) (hx7 : Rg 0 1 x7) (hx8 : Rg 0 1 x8) (hk : (x8 ≠ 0 → gI D 18 x2.toNatClampNeg &&& 15 = 3)) (htt : g.1 9 = 0) (h : Inv g S D) : wp (f_X0_judgeChange_172 S 14 x2 x3 x4 x5 x6 x7 x8 D) (fun q => Rg 0 4 q.1 ∧ Inv g S q.2) := by
  unfold f_X0_judgeChange_172
  refine wp_pqs (s_X0_isThere hx2 hx5 (rg_w hx4 (by decide)) (rg_w rc_1 (by decide)) htt h) (fun r148 q_r148 => ?_)
  obtain ⟨h_r148, p_r148⟩ := q_r148
  refine wp_if (fun c_1 => ?_) (fun c_1 => ?_)
  ·
    have h_2 : Rg 0 0 _ := rg_eq1 h_r148 rc_0 c_1 (by decide)
    exact ⟨_, rfl, (rg_w rc_4 (by decide)), h⟩
  ·
    have h_3 : Rg 1 1 _ := rg_ne1 h_r148 rc_0 c_1 (by decide)
    refine wp_if (fun c_4 => ?_) (fun c_4 => ?_)
    ·
      have h_5 : Rg 0 0 _ := rg_eq1 hx8 rc_0 c_4 (by decide)
      exact s_X0_judgeChange_211 hx2 hx3 hx4 hx5 hx7 (rg_w h_5 (by decide)) (by first | exact hk | exact (fun ne => absurd rfl ne)) (fun e => absurd c_4 e) htt h
    ·
      have h_6 : Rg 1 1 _ := rg_ne1 hx8 rc_0 c_4 (by decide)
      refine wp_rq (iR_14_4 h) ?_
      refine wp_pqs (s_X0_inStack hx2 hx5 htt h) (fun r156 p_r156 => ?_)
      refine wp_pqs (s_X5_areKnown (ins_rg (hk c_4) (p_r148 c_1) p_r156 hx4.1) (rg_w hx4 (by decide)) (ins_sum (hk c_4) (p_r148 c_1) p_r156 (rg_w hx4 (by decide))) h) (fun r158 h_r158 => ?_)
      refine wp_if (fun c_7 => ?_) (fun c_7 => ?_)
      ·
        have h_8 : Rg 0 0 _ := rg_eq1 h_r158 rc_0 c_7 (by decide)
        exact ⟨_, rfl, (rg_w rc_4 (by decide)), h⟩
      ·
        have h_9 : Rg 1 1 _ := rg_ne1 h_r158 rc_0 c_7 (by decide)
        exact s_X0_judgeChange_211 hx2 hx3 hx4 hx5 hx7 (rg_w h_6 (by decide)) (by first | exact hk | exact (fun ne => absurd rfl ne)) (fun e => p_r148 c_1 (hk e)) htt h
set_option maxRecDepth 100000 in
theorem s_X0_judgeChange_143 {g : gh} {S : sh}  {x2 : Int32} {x3 : Int32} {x4 : Int32} {x5 : Int32} {x6 : Int32} {x7 : Int32} {x8 : Int32} {D : dt} (hx2 : Rg 0 10 x2) (hx3 : Rg 0 10 x3) (hx4 : Rg 1 8 x4) (hx5 : Rg (-32768) 32767 x5) (hx7 : Rg 0 1 x7) (hx8 : Rg 0 1 x8) (hk : (x8 ≠ 0 → gI D 18 x2.toNatClampNeg &&& 15 = 3)) (htt : g.1 9 = 0) (h : Inv g S D) : wp (f_X0_judgeChange_143 S 14 x2 x3 x4 x5 x6 x7 x8 D) (fun q => Rg 0 4 q.1 ∧ Inv g S q.2) := by
  unfold f_X0_judgeChange_143
  refine wp_rq (iR_14_4 h) ?_
  refine wp_pqs (s_X5_isNumber (iK_17 h) (rg_w hx3 (by decide)) h) (fun r165 h_r165 => ?_)
  refine wp_if (fun c_1 => ?_) (fun c_1 => ?_)
  ·
    have h_2 : Rg 0 0 _ := rg_eq1 h_r165 rc_0 c_1 (by decide)
    exact ⟨_, rfl, (rg_w rc_3 (by decide)), h⟩
  ·
    have h_3 : Rg 1 1 _ := rg_ne1 h_r165 rc_0 c_1 (by decide)
    refine wp_if (fun c_4 => ?_) (fun c_4 => ?_)
    ·
      have h_5 : Rg 0 0 _ := rg_eq1 hx7 rc_0 c_4 (by decide)
      exact s_X0_judgeChange_172 hx2 hx3 hx4 hx5 (rg_w h_5 (by decide)) hx8 (by first | exact hk | exact (fun ne => absurd rfl ne)) htt h
    ·
      have h_6 : Rg 1 1 _ := rg_ne1 hx7 rc_0 c_4 (by decide)
      refine wp_rq (iR_14_4 h) ?_
      refine wp_pqs (s_X5_isNumber (iK_17 h) (rg_w rc_0 (by decide)) h) (fun r173 h_r173 => ?_)
      refine wp_if (fun c_7 => ?_) (fun c_7 => ?_)
      ·
        have h_8 : Rg 0 0 _ := rg_eq1 h_r173 rc_0 c_7 (by decide)
        exact ⟨_, rfl, (rg_w rc_3 (by decide)), h⟩
      ·
        have h_9 : Rg 1 1 _ := rg_ne1 h_r173 rc_0 c_7 (by decide)
        exact s_X0_judgeChange_172 hx2 hx3 hx4 hx5 (rg_w h_6 (by decide)) hx8 (by first | exact hk | exact (fun ne => absurd rfl ne)) htt h
set_option maxRecDepth 100000 in
theorem s_X0_judgeChange_124 {g : gh} {S : sh}  {x2 : Int32} {x3 : Int32} {x4 : Int32} {x5 : Int32} {x6 : Int32} {x7 : Int32} {xs0 : Int32} {D : dt} (hx2 : Rg 0 10 x2) (hx3 : Rg 0 10 x3) (hx4 : Rg 1 8 x4) (hx5 : Rg (-32768) 32767 x5) (hx7 : Rg 0 1 x7) (hxs0 : Rg 0 1 xs0) (hk : (xs0 ≠ 0 → gI D 18 x2.toNatClampNeg &&& 15 = 3)) (htt : g.1 9 = 0) (h : Inv g S D) : wp (f_X0_judgeChange_124 S 14 x2 x3 x4 x5 x6 x7 xs0 D) (fun q => Rg 0 4 q.1 ∧ Inv g S q.2) := by
  unfold f_X0_judgeChange_124
  refine wp_if (fun c_1 => ?_) (fun c_1 => ?_)
  ·
    have h_2 : Rg 0 0 _ := rg_eq1 hxs0 rc_0 c_1 (by decide)
    refine wp_rq (iR_14_4 h) ?_
    refine wp_pqs (s_X5_kind (iK_17 h) (rg_w hx2 (by decide)) h) (fun r181 q_r181 => ?_)
    obtain ⟨h_r181, p_r181⟩ := q_r181
    refine wp_if (fun c_3 => ?_) (fun c_3 => ?_)
    ·
      have h_4 : Rg 5 5 _ := rg_eq1 h_r181 rc_5 c_3 (by decide)
      exact s_X0_judgeChange_143 hx2 hx3 hx4 hx5 hx7 (rg_w h_2 (by decide)) (by first | exact hk | exact (fun ne => absurd rfl ne)) htt h
    ·
      exact ⟨_, rfl, (rg_w rc_3 (by decide)), h⟩
  ·
    have h_5 : Rg 1 1 _ := rg_ne1 hxs0 rc_0 c_1 (by decide)
    exact s_X0_judgeChange_143 hx2 hx3 hx4 hx5 hx7 (rg_w h_5 (by decide)) (by first | exact hk | exact (fun ne => absurd rfl ne)) htt h
set_option maxRecDepth 100000 in
theorem s_X0_judgeChange_107 {g : gh} {S : sh}  {x2 : Int32} {x3 : Int32} {x4 : Int32} {x5 : Int32} {x6 : Int32} {x7 : Int32} {D : dt} (hx2 : Rg 0 10 x2) (hx3 : Rg 0 10 x3) (hx4 : Rg 1 8 x4) (hx5 : Rg (-32768) 32767 x5) (hx7 : Rg 0 1 x7) (htt : g.1 9 = 0) (h : Inv g S D) : wp (f_X0_judgeChange_107 S 14 x2 x3 x4 x5 x6 x7 D) (fun q => Rg 0 4 q.1 ∧ Inv g S q.2) := by
  unfold f_X0_judgeChange_107
  refine wp_rq (iR_14_4 h) ?_
  refine wp_pqs (s_X5_kind (iK_17 h) (rg_w hx2 (by decide)) h) (fun r188 q_r188 => ?_)
  obtain ⟨h_r188, p_r188⟩ := q_r188
  refine wp_if (fun c_1 => ?_) (fun c_1 => ?_)
  ·
    have h_2 : Rg 3 3 _ := rg_eq1 h_r188 rc_3 c_1 (by decide)
    exact s_X0_judgeChange_124 hx2 hx3 hx4 hx5 hx7 (rg_w rc_1 (by decide)) (fun _ => p_r188.symm.trans c_1) htt h
  ·
    exact s_X0_judgeChange_124 hx2 hx3 hx4 hx5 hx7 (rg_w rc_0 (by decide)) (by first | exact hk | exact (fun ne => absurd rfl ne)) htt h
set_option maxRecDepth 100000 in
theorem s_X0_judgeChange_65 {g : gh} {S : sh}  {x2 : Int32} {x3 : Int32} {x4 : Int32} {x5 : Int32} {x6 : Int32} {xs0 : Int32} {D : dt} (hx2 : Rg 0 10 x2) (hx3 : Rg 0 10 x3) (hx4 : Rg 1 8 x4) (hx5 : Rg (-32768) 32767 x5) (hxs0 : Rg 0 1 xs0) (htt : g.1 9 = 0) (h : Inv g S D) : wp (f_X0_judgeChange_65 S 14 x2 x3 x4 x5 x6 xs0 D) (fun q => Rg 0 4 q.1 ∧ Inv g S q.2) := by
  unfold f_X0_judgeChange_65
  refine wp_rq (iR_14_4 h) ?_
  refine wp_pqs (s_X5_isNone (iK_17 h) (rg_w hx2 (by decide)) h) (fun r195 h_r195 => ?_)
  refine wp_if (fun c_1 => ?_) (fun c_1 => ?_)
  ·
    have h_2 : Rg 0 0 _ := rg_eq1 h_r195 rc_0 c_1 (by decide)
    refine wp_rq (iR_14_4 h) ?_
    refine wp_pqs (s_X5_isNone (iK_17 h) (rg_w hx3 (by decide)) h) (fun r202 h_r202 => ?_)
    refine wp_if (fun c_3 => ?_) (fun c_3 => ?_)
    ·
      have h_4 : Rg 0 0 _ := rg_eq1 h_r202 rc_0 c_3 (by decide)
      refine wp_if (fun c_5 => ?_) (fun c_5 => ?_)
      ·
        have h_6 : Rg 0 0 _ := rg_eq1 hxs0 rc_0 c_5 (by decide)
        exact s_X0_judgeChange_107 hx2 hx3 hx4 hx5 (rg_w h_6 (by decide)) htt h
      ·
        have h_7 : Rg 1 1 _ := rg_ne1 hxs0 rc_0 c_5 (by decide)
        refine wp_rq (iR_14_4 h) ?_
        refine wp_pqs (s_X5_isNone (iK_17 h) (rg_w rc_0 (by decide)) h) (fun r210 h_r210 => ?_)
        refine wp_if (fun c_8 => ?_) (fun c_8 => ?_)
        ·
          have h_9 : Rg 0 0 _ := rg_eq1 h_r210 rc_0 c_8 (by decide)
          exact s_X0_judgeChange_107 hx2 hx3 hx4 hx5 (rg_w h_7 (by decide)) htt h
        ·
          have h_10 : Rg 1 1 _ := rg_ne1 h_r210 rc_0 c_8 (by decide)
          exact ⟨_, rfl, (rg_w rc_2 (by decide)), h⟩
    ·
      have h_11 : Rg 1 1 _ := rg_ne1 h_r202 rc_0 c_3 (by decide)
      exact ⟨_, rfl, (rg_w rc_2 (by decide)), h⟩
  ·
    have h_12 : Rg 1 1 _ := rg_ne1 h_r195 rc_0 c_1 (by decide)
    exact ⟨_, rfl, (rg_w rc_2 (by decide)), h⟩
set_option maxRecDepth 100000 in
theorem s_X0_judgeChange {g : gh} {S : sh}  {x1 : Int32} {D : dt} (hx1 : Rg 0 199 x1) (h3_x1 : Rg 0 10 (g.2 3 x1.toNatClampNeg)) (h4_x1 : Rg 0 10 (g.2 4 x1.toNatClampNeg)) (htt : g.1 9 = 0) (h : Inv g S D) : wp (f_X0_judgeChange S 14 x1 D) (fun q => Rg 0 4 q.1 ∧ Inv g S q.2) := by
  unfold f_X0_judgeChange
  refine wp_rq (iR_14_0 h) ?_
  refine wp_rq (iR_1_1 h) ?_
  refine wp_ix (in_rg hx1 (iA_3 h) (by decide)) ?_
  refine wp_nmI (fun y221 e_y221 => ?_)
  have h_y221 : Rg 0 10 y221 := rg_eq e_y221 (rg_eq (h.p 3 _ rfl) h3_x1)
  refine wp_rq (iR_14_0 h) ?_
  refine wp_rq (iR_1_2 h) ?_
  refine wp_ix (in_rg hx1 (iA_4 h) (by decide)) ?_
  refine wp_nmI (fun y231 e_y231 => ?_)
  have h_y231 : Rg 0 10 y231 := rg_eq e_y231 (rg_eq (h.p 4 _ rfl) h4_x1)
  refine wp_rq (iR_14_0 h) ?_
  refine wp_pqs (s_X4_width hx1 h) (fun r237 h_r237 => ?_)
  refine wp_rq (iR_14_0 h) ?_
  refine wp_rq (iR_1_3 h) ?_
  refine wp_ix (in_rg hx1 (iA_5 h) (by decide)) ?_
  refine wp_nmI (fun y247 e_y247 => ?_)
  have h_y247 : Rg (-32768) 32767 y247 := rg_eq e_y247 (iI_5 h _)
  refine wp_rq (iR_14_0 h) ?_
  refine wp_rq (iR_1_4 h) ?_
  refine wp_ix (in_rg hx1 (iA_6 h) (by decide)) ?_
  refine wp_nmI (fun y257 e_y257 => ?_)
  refine wp_if (fun c_1 => ?_) (fun c_1 => ?_)
  ·
    have h_2 : Rg 241 241 _ := rg_eq1 (rg_top _) rc_241 c_1 (by decide)
    exact s_X0_judgeChange_65 h_y221 h_y231 h_r237 h_y247 (rg_w rc_1 (by decide)) htt h
  ·
    exact s_X0_judgeChange_65 h_y221 h_y231 h_r237 h_y247 (rg_w rc_0 (by decide)) htt h
set_option maxRecDepth 100000 in
theorem s_X0_makeNumber_223 {g : gh} {S : sh}  {x4 : Int32} {D : dt} (hx4 : Rg 0 10 x4) (htt : g.1 9 = 0) (h : Inv g S D) : wp (f_X0_makeNumber_223 S 14 x4 D) (fun q => Inv g S q.2) := by
  unfold f_X0_makeNumber_223
  refine wp_rq (iR_14_4 h) ?_
  refine wp_rq (iR_14_6 h) ?_
  refine wp_rq (iR_14_6 h) ?_
  refine wp_cqs (s_X5_write (iK_17 h) (rg_w hx4 (by decide)) (fun q => absurd q (by decide)) h) (fun _ D168 h_D168 => ?_)
  exact ⟨_, rfl, h_D168⟩
set_option maxRecDepth 100000 in
theorem s_X0_makeNumber_192 {g : gh} {S : sh}  {x4 : Int32} {xs1 : Int32} {xs2 : Int32} {D : dt} (hx4 : Rg 0 10 x4) (hxs1 : Rg 0 64 xs1) (hxs2 : Rg 0 1 xs2) (htt : g.1 9 = 0) (h : Inv g S D) : wp (f_X0_makeNumber_192 S 14 x4 27 xs1 xs2 D) (fun q => Inv g S q.2) := by
  unfold f_X0_makeNumber_192
  refine wp_cqs (s_X6_turn hxs1 hxs2 h) (fun _ D170 h_D170 => ?_)
  exact s_X0_makeNumber_223 hx4 htt h_D170
set_option maxRecDepth 100000 in
theorem s_X0_makeNumber_187 {g : gh} {S : sh}  {x4 : Int32} {xs1 : Int32} {D : dt} (hx4 : Rg 0 10 x4) (hxs1 : Rg 0 64 xs1) (htt : g.1 9 = 0) (h : Inv g S D) : wp (f_X0_makeNumber_187 S 14 x4 27 xs1 D) (fun q => Inv g S q.2) := by
  unfold f_X0_makeNumber_187
  exact s_X0_makeNumber_192 hx4 hxs1 (rg_w rc_1 (by decide)) htt h
set_option maxRecDepth 100000 in
theorem s_X0_makeNumber_143 {g : gh} {S : sh}  {x1 : Int32} {x3 : Int32} {x4 : Int32} {xs1 : Int64} {xs2 : Int64} {D : dt} (hx1 : Rg 0 199 x1) (hx3 : Rg 0 15 x3) (hx4 : Rg 0 10 x4) (h3_x1 : Rg 0 10 (g.2 3 x1.toNatClampNeg)) (h4_x1 : Rg 0 10 (g.2 4 x1.toNatClampNeg)) (h13 : (x3 = 13 → Rg 0 64 (g.2 6 x1.toNatClampNeg))) (htt : g.1 9 = 0) (h : Inv g S D) : wp (f_X0_makeNumber_143 S 14 x1 x3 x4 27 xs1 xs2 D) (fun q => Inv g S q.2) := by
  unfold f_X0_makeNumber_143
  refine wp_cqs (s_X6_second h) (fun _ D172 h_D172 => ?_)
  refine wp_if (fun c_1 => ?_) (fun c_1 => ?_)
  ·
    have h_2 : Rg 13 13 _ := rg_eq1 hx3 rc_13 c_1 (by decide)
    refine wp_rq (iR_14_6 h_D172) ?_
    refine wp_rq (iR_14_0 h_D172) ?_
    refine wp_rq (iR_1_4 h_D172) ?_
    refine wp_ix (in_rg hx1 (iA_6 h_D172) (by decide)) ?_
    refine wp_rq (iR_14_0 h_D172) ?_
    refine wp_pqs (s_X4_isWide hx1 h_D172) (fun r213 h_r213 => ?_)
    refine wp_if (fun c_3 => ?_) (fun c_3 => ?_)
    ·
      have h_4 : Rg 0 0 _ := rg_eq1 h_r213 rc_0 c_3 (by decide)
      refine wp_rq (iR_14_0 h_D172) ?_
      refine wp_pqs (s_X4_byRegister hx1 h_D172) (fun r220 h_r220 => ?_)
      refine wp_if (fun c_5 => ?_) (fun c_5 => ?_)
      ·
        have h_6 : Rg 0 0 _ := rg_eq1 h_r220 rc_0 c_5 (by decide)
        exact s_X0_makeNumber_192 hx4 (rg_eq (h_D172.p 6 _ rfl) (h13 c_1)) (rg_w rc_0 (by decide)) htt h_D172
      ·
        have h_7 : Rg 1 1 _ := rg_ne1 h_r220 rc_0 c_5 (by decide)
        exact s_X0_makeNumber_187 hx4 (rg_eq (h_D172.p 6 _ rfl) (h13 c_1)) htt h_D172
    ·
      have h_8 : Rg 1 1 _ := rg_ne1 h_r213 rc_0 c_3 (by decide)
      exact s_X0_makeNumber_187 hx4 (rg_eq (h_D172.p 6 _ rfl) (h13 c_1)) htt h_D172
  ·
    refine wp_rq (iR_14_6 h_D172) ?_
    refine wp_rq (iR_14_0 h_D172) ?_
    refine wp_pqs (s_X4_isWide hx1 h_D172) (fun r183 h_r183 => ?_)
    refine wp_rq (iR_14_0 h_D172) ?_
    refine wp_rq (iR_1_3 h_D172) ?_
    refine wp_ix (in_rg hx1 (iA_5 h_D172) (by decide)) ?_
    refine wp_cqs (s_X6_make hx3 h_r183 (iI_5 h_D172 _) h_D172) (fun _ D194 h_D194 => ?_)
    exact s_X0_makeNumber_223 hx4 htt h_D194
set_option maxRecDepth 100000 in
theorem s_X0_makeNumber_124 {g : gh} {S : sh}  {x1 : Int32} {x2 : Int32} {x3 : Int32} {x4 : Int32} {x5 : Int32} {x6 : Int64} {xs1 : Int64} {D : dt} (hx1 : Rg 0 199 x1) (hx2 : Rg 0 1 x2) (hx3 : Rg 0 15 x3) (hx4 : Rg 0 10 x4) (hx5 : Rg 0 10 x5) (hx6 : RgL (-2147483648) 2147483647 x6) (h3_x1 : Rg 0 10 (g.2 3 x1.toNatClampNeg)) (h4_x1 : Rg 0 10 (g.2 4 x1.toNatClampNeg)) (h13 : (x3 = 13 → Rg 0 64 (g.2 6 x1.toNatClampNeg))) (htt : g.1 9 = 0) (h : Inv g S D) : wp (f_X0_makeNumber_124 S 14 x1 x2 x3 x4 x5 x6 27 xs1 D) (fun q => Inv g S q.2) := by
  unfold f_X0_makeNumber_124
  refine wp_if (fun c_1 => ?_) (fun c_1 => ?_)
  ·
    have h_2 : Rg 0 0 _ := rg_eq1 hx2 rc_0 c_1 (by decide)
    exact s_X0_makeNumber_143 hx1 hx3 hx4 h3_x1 h4_x1 (by first | exact h13 | exact (fun ne => absurd rfl ne)) htt h
  ·
    have h_3 : Rg 1 1 _ := rg_ne1 hx2 rc_0 c_1 (by decide)
    refine wp_rq (iR_14_4 h) ?_
    refine wp_rq (iR_17_3 h) ?_
    refine wp_ix (in_rg hx5 (iA_20 h) (by decide)) ?_
    exact s_X0_makeNumber_143 hx1 hx3 hx4 h3_x1 h4_x1 (by first | exact h13 | exact (fun ne => absurd rfl ne)) htt h
set_option maxRecDepth 100000 in
theorem s_X0_makeNumber_98 {g : gh} {S : sh}  {x1 : Int32} {x2 : Int32} {x3 : Int32} {x4 : Int32} {x5 : Int32} {x6 : Int64} {xs1 : Int64} {xs2 : Int64} {D : dt} (hx1 : Rg 0 199 x1) (hx2 : Rg 0 1 x2) (hx3 : Rg 0 15 x3) (hx4 : Rg 0 10 x4) (hx5 : Rg 0 10 x5) (hx6 : RgL (-2147483648) 2147483647 x6) (h3_x1 : Rg 0 10 (g.2 3 x1.toNatClampNeg)) (h4_x1 : Rg 0 10 (g.2 4 x1.toNatClampNeg)) (h13 : (x3 = 13 → Rg 0 64 (g.2 6 x1.toNatClampNeg))) (htt : g.1 9 = 0) (h : Inv g S D) : wp (f_X0_makeNumber_98 S 14 x1 x2 x3 x4 x5 x6 27 xs1 xs2 D) (fun q => Inv g S q.2) := by
  unfold f_X0_makeNumber_98
  refine wp_cqs (s_X6_first h) (fun _ D233 h_D233 => ?_)
  refine wp_rq (iR_14_6 h_D233) ?_
  refine wp_if (fun c_1 => ?_) (fun c_1 => ?_)
  ·
    have h_2 : Rg 0 0 _ := rg_eq1 hx2 rc_0 c_1 (by decide)
    exact s_X0_makeNumber_124 hx1 (rg_w h_2 (by decide)) hx3 hx4 hx5 hx6 h3_x1 h4_x1 (by first | exact h13 | exact (fun ne => absurd rfl ne)) htt h_D233
  ·
    have h_3 : Rg 1 1 _ := rg_ne1 hx2 rc_0 c_1 (by decide)
    refine wp_rq (iR_14_4 h_D233) ?_
    refine wp_rq (iR_17_2 h_D233) ?_
    refine wp_ix (in_rg hx5 (iA_19 h_D233) (by decide)) ?_
    exact s_X0_makeNumber_124 hx1 (rg_w h_3 (by decide)) hx3 hx4 hx5 hx6 h3_x1 h4_x1 (by first | exact h13 | exact (fun ne => absurd rfl ne)) htt h_D233
set_option maxRecDepth 100000 in
theorem s_X0_makeNumber_79 {g : gh} {S : sh}  {x1 : Int32} {x2 : Int32} {x3 : Int32} {x4 : Int32} {x5 : Int32} {x6 : Int64} {x8 : Int32} {xs1 : Int64} {D : dt} (hx1 : Rg 0 199 x1) (hx2 : Rg 0 1 x2) (hx3 : Rg 0 15 x3) (hx4 : Rg 0 10 x4) (hx5 : Rg 0 10 x5) (hx6 : RgL (-2147483648) 2147483647 x6) (hx8 : Rg 0 1 x8) (h3_x1 : Rg 0 10 (g.2 3 x1.toNatClampNeg)) (h4_x1 : Rg 0 10 (g.2 4 x1.toNatClampNeg)) (h13 : (x3 = 13 → Rg 0 64 (g.2 6 x1.toNatClampNeg))) (htt : g.1 9 = 0) (h : Inv g S D) : wp (f_X0_makeNumber_79 S 14 x1 x2 x3 x4 x5 x6 x8 27 xs1 D) (fun q => Inv g S q.2) := by
  unfold f_X0_makeNumber_79
  refine wp_if (fun c_1 => ?_) (fun c_1 => ?_)
  ·
    have h_2 : Rg 0 0 _ := rg_eq1 hx8 rc_0 c_1 (by decide)
    refine wp_rq (iR_14_4 h) ?_
    refine wp_rq (iR_17_3 h) ?_
    refine wp_ix (in_rg hx4 (iA_20 h) (by decide)) ?_
    exact s_X0_makeNumber_98 hx1 hx2 hx3 hx4 hx5 hx6 h3_x1 h4_x1 (by first | exact h13 | exact (fun ne => absurd rfl ne)) htt h
  ·
    have h_3 : Rg 1 1 _ := rg_ne1 hx8 rc_0 c_1 (by decide)
    exact s_X0_makeNumber_98 hx1 hx2 hx3 hx4 hx5 hx6 h3_x1 h4_x1 (by first | exact h13 | exact (fun ne => absurd rfl ne)) htt h
set_option maxRecDepth 100000 in
theorem s_X0_makeNumber_54 {g : gh} {S : sh}  {x1 : Int32} {x2 : Int32} {x3 : Int32} {x4 : Int32} {x5 : Int32} {x6 : Int64} {xs0 : Int32} {D : dt} (hx1 : Rg 0 199 x1) (hx2 : Rg 0 1 x2) (hx3 : Rg 0 15 x3) (hx4 : Rg 0 10 x4) (hx5 : Rg 0 10 x5) (hx6 : RgL (-2147483648) 2147483647 x6) (hxs0 : Rg 0 1 xs0) (h3_x1 : Rg 0 10 (g.2 3 x1.toNatClampNeg)) (h4_x1 : Rg 0 10 (g.2 4 x1.toNatClampNeg)) (h13 : (x3 = 13 → Rg 0 64 (g.2 6 x1.toNatClampNeg))) (htt : g.1 9 = 0) (h : Inv g S D) : wp (f_X0_makeNumber_54 S 14 x1 x2 x3 x4 x5 x6 xs0 D) (fun q => Inv g S q.2) := by
  unfold f_X0_makeNumber_54
  refine wp_rq (iR_14_6 h) ?_
  refine wp_if (fun c_1 => ?_) (fun c_1 => ?_)
  ·
    have h_2 : Rg 0 0 _ := rg_eq1 hxs0 rc_0 c_1 (by decide)
    refine wp_rq (iR_14_4 h) ?_
    refine wp_rq (iR_17_2 h) ?_
    refine wp_ix (in_rg hx4 (iA_19 h) (by decide)) ?_
    exact s_X0_makeNumber_79 hx1 hx2 hx3 hx4 hx5 hx6 (rg_w h_2 (by decide)) h3_x1 h4_x1 (by first | exact h13 | exact (fun ne => absurd rfl ne)) htt h
  ·
    have h_3 : Rg 1 1 _ := rg_ne1 hxs0 rc_0 c_1 (by decide)
    exact s_X0_makeNumber_79 hx1 hx2 hx3 hx4 hx5 hx6 (rg_w h_3 (by decide)) h3_x1 h4_x1 (by first | exact h13 | exact (fun ne => absurd rfl ne)) htt h
set_option maxRecDepth 100000 in
theorem s_X0_makeNumber {g : gh} {S : sh}  {x1 : Int32} {x2 : Int32} {D : dt} (hx1 : Rg 0 199 x1) (hx2 : Rg 0 1 x2) (h3_x1 : Rg 0 10 (g.2 3 x1.toNatClampNeg)) (h4_x1 : Rg 0 10 (g.2 4 x1.toNatClampNeg)) (h13 : (g.2 2 x1.toNatClampNeg >>> ((4 : Int32) &&& 31) = 13 → Rg 0 64 (g.2 6 x1.toNatClampNeg))) (htt : g.1 9 = 0) (h : Inv g S D) : wp (f_X0_makeNumber S 14 x1 x2 D) (fun q => Inv g S q.2) := by
  unfold f_X0_makeNumber
  refine wp_rq (iR_14_0 h) ?_
  refine wp_pqs (s_X4_code hx1 h) (fun r277 q_r277 => ?_)
  obtain ⟨h_r277, p_r277⟩ := q_r277
  refine wp_rq (iR_14_0 h) ?_
  refine wp_rq (iR_1_1 h) ?_
  refine wp_ix (in_rg hx1 (iA_3 h) (by decide)) ?_
  refine wp_nmI (fun y287 e_y287 => ?_)
  have h_y287 : Rg 0 10 y287 := rg_eq e_y287 (rg_eq (h.p 3 _ rfl) h3_x1)
  refine wp_rq (iR_14_0 h) ?_
  refine wp_rq (iR_1_2 h) ?_
  refine wp_ix (in_rg hx1 (iA_4 h) (by decide)) ?_
  refine wp_nmI (fun y297 e_y297 => ?_)
  have h_y297 : Rg 0 10 y297 := rg_eq e_y297 (rg_eq (h.p 4 _ rfl) h4_x1)
  refine wp_rq (iR_14_0 h) ?_
  refine wp_rq (iR_1_4 h) ?_
  refine wp_ix (in_rg hx1 (iA_6 h) (by decide)) ?_
  refine wp_nmI (fun y307 e_y307 => ?_)
  have h_y307 : RgL (-2147483648) 2147483647 y307 := rgl_eq e_y307 (rgl_of (rg_top _) : RgL (-2147483648) 2147483647 _)
  refine wp_if (fun c_1 => ?_) (fun c_1 => ?_)
  ·
    have h_2 : Rg 11 11 _ := rg_eq1 h_r277 rc_11 c_1 (by decide)
    exact s_X0_makeNumber_54 hx1 hx2 (rg_w h_2 (by decide)) h_y287 h_y297 h_y307 (rg_w rc_1 (by decide)) h3_x1 h4_x1 (fun e => h13 (p_r277.symm.trans e)) htt h
  ·
    exact s_X0_makeNumber_54 hx1 hx2 h_r277 h_y287 h_y297 h_y307 (rg_w rc_0 (by decide)) h3_x1 h4_x1 (fun e => h13 (p_r277.symm.trans e)) htt h
set_option maxRecDepth 100000 in
theorem s_X0_isSmall {g : gh} {S : sh} {D : dt}  {x1 : Int32} (hx1 : Rg 0 10 x1) (htt : g.1 9 = 0) (h : Inv g S D) : wp (f_X0_isSmall S D 14 x1) (fun q => Rg 0 1 q) := by
  unfold f_X0_isSmall
  refine wp_rq (iR_14_4 h) ?_
  refine wp_pqs (s_X5_isNumber (iK_17 h) (rg_w hx1 (by decide)) h) (fun r25 h_r25 => ?_)
  refine wp_if (fun c_1 => ?_) (fun c_1 => ?_)
  ·
    have h_2 : Rg 0 0 _ := rg_eq1 h_r25 rc_0 c_1 (by decide)
    exact ⟨_, rfl, (rg_w rc_0 (by decide))⟩
  ·
    have h_3 : Rg 1 1 _ := rg_ne1 h_r25 rc_0 c_1 (by decide)
    refine wp_rq (iR_14_4 h) ?_
    refine wp_rq (iR_17_3 h) ?_
    refine wp_ix (in_rg hx1 (iA_20 h) (by decide)) ?_
    refine wp_pqs (s_X3_below ) (fun r37 h_r37 => ?_)
    refine wp_if (fun c_4 => ?_) (fun c_4 => ?_)
    ·
      have h_5 : Rg 0 0 _ := rg_eq1 h_r37 rc_0 c_4 (by decide)
      exact ⟨_, rfl, (rg_w rc_1 (by decide))⟩
    ·
      have h_6 : Rg 1 1 _ := rg_ne1 h_r37 rc_0 c_4 (by decide)
      exact ⟨_, rfl, (rg_w rc_0 (by decide))⟩
def lgg (g : gh) : gh := (fun n => if n = 9 then 1 else g.1 n, g.2)
theorem lg9 (g : gh) : (lgg g).1 9 ≠ 0 := by
  show (1 : Int) ≠ 0
  decide
theorem Inv.log {g : gh} {S : sh} {D : dt} (h : Inv g S D) : Inv (lgg g) S D := by
  obtain ⟨a1, a2, a3, a4, a5, a6, a7, a8, a9, a10, a11⟩ := h
  refine ⟨a1, a2, a3, a4, a5, fun o k => ⟨(a6 o k).1, fun p hp e => ?_⟩, a7, a8, a9, a10, a11⟩
  obtain ⟨s1, s2⟩ := (a6 o k).2 p hp e
  refine ⟨s1, ?_⟩
  rcases s2 with s2 | s2
  · exact Or.inl ⟨s2.1, lg9 g⟩
  · exact Or.inr s2
theorem q_write_eq {g : gh} {S : sh} {o0 : Nat} {x1 x2 : Int32} {x3 x5 : Int64} {D : dt} (ho0 : sK S o0 = 4) (hx1 : Rg 0 74 x1) (h : Inv g S D) : wp (f_X5_write S o0 x1 x2 x3 x5 D) (fun q => q.2 = pL (pL (pI D (o0 + 1) x1.toNatClampNeg x2) (o0 + 2) x1.toNatClampNeg x3) (o0 + 3) x1.toNatClampNeg x5) := by
  unfold f_X5_write
  refine wp_rq (iSR1 h ho0) (wp_ix (in_rg hx1 (iSA1 h ho0) (by decide)) (wp_nmI (fun D1 e1 => ?_)))
  refine wp_rq (x := o0 + 2) (by rw [e1, gR_pI]; exact iSR2 h ho0) (wp_ix (in_rg hx1 (iSA2 h ho0) (by decide)) (wp_nmI (fun D2 e2 => ?_)))
  refine wp_rq (x := o0 + 3) (by rw [e2, gR_pL, e1, gR_pI]; exact iSR3 h ho0) (wp_ix (in_rg hx1 (iSA3 h ho0) (by decide)) (wp_nmI (fun D3 e3 => ⟨_, rfl, ?_⟩)))
  show D3 = _
  rw [e3, e2, e1]
theorem wp_and {α : Type} {m : Option α} {P Q : α → Prop} (h1 : wp m P) (h2 : wp m Q) : wp m (fun x => P x ∧ Q x) := by
  obtain ⟨x, e, p⟩ := h1
  obtain ⟨y, e2, q⟩ := h2
  rw [e] at e2
  cases e2
  exact ⟨x, e, p, q⟩
theorem q_shift_272 {g : gh} {S : sh} {x4 x7 : Int32} {x13 xs0 xs1 : Int64} {D : dt} (hx4 : Rg 0 10 x4) (hx7 : Rg 0 10 x7) (hs : gI D 18 x7.toNatClampNeg &&& 15 = 3 → x13 = xs0 + xs1) (htt : g.1 9 = 0) (h : Inv g S D) : wp (f_X0_shiftPlace_272 S 14 x4 x7 x13 xs0 xs1 D) (fun q => Rg 0 1 q.1 ∧ ((q.1 ≠ 0 → Inv g S q.2) ∧ Inv (lgg g) S q.2)) := by
  unfold f_X0_shiftPlace_272
  have hx : Rg 0 74 x4 := rg_w hx4 (by decide)
  have hy : Rg 0 74 x7 := rg_w hx7 (by decide)
  have k := iK_17 h
  refine wp_nmI (fun hi ehi => wp_rq (iR_14_4 h) (wp_rq (iR_14_4 h) (wp_rq (iR_17_1 h) (wp_ix (in_rg hy (iA_18 h) (by decide)) ?_))))
  refine wp_cqs (wp_and (s_X5_write (g := lgg g) k hx (fun e => ⟨(hs e).trans ehi.symm, Or.inl ⟨rfl, lg9 g⟩⟩) h.log) (q_write_eq k hx h)) (fun _ D1 h1 => ?_)
  obtain ⟨h1, e1⟩ := h1
  have e1 : D1 = _ := e1
  refine wp_if (fun _ => ⟨_, rfl, r01_0, fun ne => absurd rfl ne, h1⟩) (fun c1 => wp_if (fun _ => ⟨_, rfl, r01_0, fun ne => absurd rfl ne, h1⟩) (fun c2 => ⟨_, rfl, r01_1, fun _ => ?_, h1⟩))
  have c1 := Int64.le_iff_toInt_le.mp (nlt64 (fun q => c1 ((lg_cmp_lt _ _).mpr q)))
  have c2 := Int64.le_iff_toInt_le.mp (nlt64 (fun q => c2 ((lg_cmp_gt _ _).mpr q)))
  have l1 : (-1048576 : Int64).toInt = -1048576 := rfl
  have l2 : (1048576 : Int64).toInt = 1048576 := rfl
  have tg : tig (lgg g) = g := by
    unfold tig lgg
    have : (fun n => if n = 9 then (0 : Int) else (if n = 9 then 1 else g.1 n)) = g.1 := by
      funext n
      by_cases e : n = 9
      · rw [if_pos e, e, htt]
      · rw [if_neg e, if_neg e]
    show (_, g.2) = g
    rw [this]
  have h2 : Inv (tig (lgg g)) S D1 := h1.tight (fun p hp e => ?_)
  · rw [tg] at h2
    exact h2
  · have t1 : gI D1 18 p = if 18 = 18 ∧ p = x4.toNatClampNeg then gI D 18 x7.toNatClampNeg else gI D 18 p := by rw [e1, gI_pL, gI_pL, gI_pI]
    have t2 : gL D1 19 p = if 19 = 19 ∧ p = x4.toNatClampNeg then x13 else gL D 19 p := by rw [e1, gL_pL, if_neg (fun q => by omega), gL_pL, gL_pI]
    rw [t1] at e
    rw [t2]
    by_cases ep : p = x4.toNatClampNeg
    · rw [if_pos ⟨rfl, ep⟩] at e ⊢
      have := hs e
      rw [← ehi] at this
      rw [this] at c1 ⊢
      exact ⟨by omega, by omega⟩
    · rw [if_neg (fun q => ep q.2)] at e ⊢
      obtain ⟨-, s2⟩ := iSS h k p hp e
      rcases s2 with ⟨-, s2⟩ | s2
      · exact absurd htt s2
      · exact s2
theorem q_shift_247 {g : gh} {S : sh} {x3 x4 x7 : Int32} {x9 x11 : Int64} {D : dt} (hx4 : Rg 0 10 x4) (hx7 : Rg 0 10 x7) (hs : gI D 18 x7.toNatClampNeg &&& 15 = 3 → x9 = x11) (htt : g.1 9 = 0) (h : Inv g S D) (xs1 : Int64) (hx : xs1 = if x3 = 0 then x9 else -x11) : wp (f_X0_shiftPlace_247 S 14 x3 x4 x7 x9 x11 (gL D 19 x7.toNatClampNeg) xs1 D) (fun q => Rg 0 1 q.1 ∧ ((q.1 ≠ 0 → Inv g S q.2) ∧ Inv (lgg g) S q.2)) := by
  unfold f_X0_shiftPlace_247
  have hy : Rg 0 74 x7 := rg_w hx7 (by decide)
  refine wp_nmI (fun lo elo => wp_rq (iR_14_4 h) (wp_rq (iR_17_3 h) (wp_ix (in_rg hy (iA_20 h) (by decide)) (wp_if (fun c => ?_) (fun c => ?_)))))
  · refine q_shift_272 hx4 hx7 (fun e => ?_) htt h
    rw [if_pos c] at hx
    rw [elo, hx, hs e, (st_now htt hy h e).1]
  · refine q_shift_272 hx4 hx7 (fun e => ?_) htt h
    rw [if_neg c] at hx
    rw [elo, hx, hs e, (st_now htt hy h e).1]
theorem q_shift_225 {g : gh} {S : sh} {x3 x4 x7 : Int32} {x9 x11 : Int64} {D : dt} (hx4 : Rg 0 10 x4) (hx7 : Rg 0 10 x7) (hs : gI D 18 x7.toNatClampNeg &&& 15 = 3 → x9 = x11) (htt : g.1 9 = 0) (h : Inv g S D) : wp (f_X0_shiftPlace_225 S 14 x3 x4 x7 x9 x11 D) (fun q => Rg 0 1 q.1 ∧ ((q.1 ≠ 0 → Inv g S q.2) ∧ Inv (lgg g) S q.2)) := by
  unfold f_X0_shiftPlace_225
  have hy : Rg 0 74 x7 := rg_w hx7 (by decide)
  exact wp_rq (iR_14_4 h) (wp_rq (iR_17_2 h) (wp_ix (in_rg hy (iA_19 h) (by decide)) (wp_if (fun c => q_shift_247 hx4 hx7 hs htt h _ (by rw [if_pos c])) (fun c => q_shift_247 hx4 hx7 hs htt h _ (by rw [if_neg c])))))
theorem s_X0_shiftPlace_200 {g : gh} {S : sh} {x3 x4 x7 : Int32} {x9 xs0 : Int64} {D : dt} (hx3 : Rg 0 1 x3) (hx4 : Rg 0 10 x4) (hx7 : Rg 0 10 x7) (htt : g.1 9 = 0) (h : Inv g S D) : wp (f_X0_shiftPlace_200 S 14 x3 x4 x7 x9 xs0 D) (fun q => Rg 0 1 q.1 ∧ ((q.1 ≠ 0 → Inv g S q.2) ∧ Inv (lgg g) S q.2)) := by
  unfold f_X0_shiftPlace_200
  have hy : Rg 0 74 x7 := rg_w hx7 (by decide)
  refine wp_rq (iR_14_4 h) (wp_pqs (s_X5_kind (iK_17 h) hy h) (fun r p => wp_if (fun c => wp_if (fun c2 => ?_) (fun _ => ⟨_, rfl, r01_0, fun _ => h, h.log⟩)) (fun c => ?_)))
  · exact q_shift_225 hx4 hx7 (fun _ => (lg_cmp_eq _ _).mp c2) htt h
  · exact q_shift_225 hx4 hx7 (fun e => absurd (p.2.trans e) c) htt h
set_option maxRecDepth 100000 in
theorem s_X0_shiftPlace_171 {g : gh} {S : sh}  {x1 : Int32} {x2 : Int32} {x3 : Int32} {x4 : Int32} {x7 : Int32} {x8 : Int32} {xs0 : Int64} {D : dt} (hx1 : Rg 0 199 x1) (hx2 : Rg 0 1 x2) (hx3 : Rg 0 1 x3) (hx4 : Rg 0 10 x4) (hx7 : Rg 0 10 x7) (hx8 : Rg 0 10 x8) (h3_x1 : Rg 0 10 (g.2 3 x1.toNatClampNeg)) (h4_x1 : Rg 0 10 (g.2 4 x1.toNatClampNeg)) (htt : g.1 9 = 0) (h : Inv g S D) : wp (f_X0_shiftPlace_171 S 14 x1 x2 x3 x4 x7 x8 xs0 D) (fun q => Rg 0 1 q.1 ∧ ((q.1 ≠ 0 → Inv g S q.2) ∧ Inv (lgg g) S q.2)) := by
  unfold f_X0_shiftPlace_171
  refine wp_if (fun c_1 => ?_) (fun c_1 => ?_)
  ·
    have h_2 : Rg 0 0 _ := rg_eq1 hx2 rc_0 c_1 (by decide)
    refine wp_rq (iR_14_0 h) ?_
    refine wp_rq (iR_1_4 h) ?_
    refine wp_ix (in_rg hx1 (iA_6 h) (by decide)) ?_
    exact s_X0_shiftPlace_200 hx3 hx4 hx7 htt h
  ·
    have h_3 : Rg 1 1 _ := rg_ne1 hx2 rc_0 c_1 (by decide)
    refine wp_rq (iR_14_4 h) ?_
    refine wp_rq (iR_17_3 h) ?_
    refine wp_ix (in_rg hx8 (iA_20 h) (by decide)) ?_
    exact s_X0_shiftPlace_200 hx3 hx4 hx7 htt h
set_option maxRecDepth 100000 in
theorem s_X0_shiftPlace_144 {g : gh} {S : sh}  {x1 : Int32} {x2 : Int32} {x3 : Int32} {x4 : Int32} {x7 : Int32} {x8 : Int32} {D : dt} (hx1 : Rg 0 199 x1) (hx2 : Rg 0 1 x2) (hx3 : Rg 0 1 x3) (hx4 : Rg 0 10 x4) (hx7 : Rg 0 10 x7) (hx8 : Rg 0 10 x8) (h3_x1 : Rg 0 10 (g.2 3 x1.toNatClampNeg)) (h4_x1 : Rg 0 10 (g.2 4 x1.toNatClampNeg)) (htt : g.1 9 = 0) (h : Inv g S D) : wp (f_X0_shiftPlace_144 S 14 x1 x2 x3 x4 x7 x8 D) (fun q => Rg 0 1 q.1 ∧ ((q.1 ≠ 0 → Inv g S q.2) ∧ Inv (lgg g) S q.2)) := by
  unfold f_X0_shiftPlace_144
  refine wp_if (fun c_1 => ?_) (fun c_1 => ?_)
  ·
    have h_2 : Rg 0 0 _ := rg_eq1 hx2 rc_0 c_1 (by decide)
    refine wp_rq (iR_14_0 h) ?_
    refine wp_rq (iR_1_4 h) ?_
    refine wp_ix (in_rg hx1 (iA_6 h) (by decide)) ?_
    exact s_X0_shiftPlace_171 hx1 (rg_w h_2 (by decide)) hx3 hx4 hx7 hx8 h3_x1 h4_x1 htt h
  ·
    have h_3 : Rg 1 1 _ := rg_ne1 hx2 rc_0 c_1 (by decide)
    refine wp_rq (iR_14_4 h) ?_
    refine wp_rq (iR_17_2 h) ?_
    refine wp_ix (in_rg hx8 (iA_19 h) (by decide)) ?_
    exact s_X0_shiftPlace_171 hx1 (rg_w h_3 (by decide)) hx3 hx4 hx7 hx8 h3_x1 h4_x1 htt h
set_option maxRecDepth 100000 in
theorem s_X0_shiftPlace_95 {g : gh} {S : sh}  {x1 : Int32} {x2 : Int32} {x3 : Int32} {x4 : Int32} {x7 : Int32} {x8 : Int32} {D : dt} (hx1 : Rg 0 199 x1) (hx2 : Rg 0 1 x2) (hx3 : Rg 0 1 x3) (hx4 : Rg 0 10 x4) (hx7 : Rg 0 10 x7) (hx8 : Rg 0 10 x8) (h3_x1 : Rg 0 10 (g.2 3 x1.toNatClampNeg)) (h4_x1 : Rg 0 10 (g.2 4 x1.toNatClampNeg)) (htt : g.1 9 = 0) (h : Inv g S D) : wp (f_X0_shiftPlace_95 S 14 x1 x2 x3 x4 x7 x8 D) (fun q => Rg 0 1 q.1 ∧ ((q.1 ≠ 0 → Inv g S q.2) ∧ Inv (lgg g) S q.2)) := by
  unfold f_X0_shiftPlace_95
  refine wp_pqs (s_X0_canBeReached hx7 htt h) (fun r233 h_r233 => ?_)
  refine wp_if (fun c_1 => ?_) (fun c_1 => ?_)
  ·
    have h_2 : Rg 0 0 _ := rg_eq1 h_r233 rc_0 c_1 (by decide)
    exact ⟨_, rfl, (rg_w rc_0 (by decide)), ⟨fun _ => h, h.log⟩⟩
  ·
    have h_3 : Rg 1 1 _ := rg_ne1 h_r233 rc_0 c_1 (by decide)
    refine wp_if (fun c_4 => ?_) (fun c_4 => ?_)
    ·
      have h_5 : Rg 0 0 _ := rg_eq1 hx2 rc_0 c_4 (by decide)
      refine wp_rq (iR_14_0 h) ?_
      refine wp_rq (iR_1_4 h) ?_
      refine wp_ix (in_rg hx1 (iA_6 h) (by decide)) ?_
      refine wp_if (fun c_6 => ?_) (fun c_6 => ?_)
      ·
        have h_7 : RgL (-9223372036854775808) 65536 _ := rgl_le1 (rgl_top _) rcl_65536 ((lg_cmp_le _ _).mp c_6) (by decide)
        exact s_X0_shiftPlace_144 hx1 (rg_w h_5 (by decide)) hx3 hx4 hx7 hx8 h3_x1 h4_x1 htt h
      ·
        have h_8 : RgL 65537 9223372036854775807 _ := rgl_lt2 rcl_65536 (rgl_top _) (nle64 (fun q => c_6 ((lg_cmp_le _ _).mpr q))) (by decide)
        exact ⟨_, rfl, (rg_w rc_0 (by decide)), ⟨fun _ => h, h.log⟩⟩
    ·
      have h_9 : Rg 1 1 _ := rg_ne1 hx2 rc_0 c_4 (by decide)
      refine wp_pqs (s_X0_isSmall hx8 htt h) (fun r247 h_r247 => ?_)
      refine wp_if (fun c_10 => ?_) (fun c_10 => ?_)
      ·
        have h_11 : Rg 0 0 _ := rg_eq1 h_r247 rc_0 c_10 (by decide)
        exact ⟨_, rfl, (rg_w rc_0 (by decide)), ⟨fun _ => h, h.log⟩⟩
      ·
        have h_12 : Rg 1 1 _ := rg_ne1 h_r247 rc_0 c_10 (by decide)
        exact s_X0_shiftPlace_144 hx1 (rg_w h_9 (by decide)) hx3 hx4 hx7 hx8 h3_x1 h4_x1 htt h
set_option maxRecDepth 100000 in
theorem s_X0_shiftPlace_68 {g : gh} {S : sh}  {x1 : Int32} {x2 : Int32} {x3 : Int32} {x4 : Int32} {x6 : Int32} {x7 : Int32} {xs0 : Int32} {D : dt} (hx1 : Rg 0 199 x1) (hx2 : Rg 0 1 x2) (hx3 : Rg 0 15 x3) (hx4 : Rg 0 10 x4) (hx6 : Rg 0 1 x6) (hx7 : Rg 0 10 x7) (hxs0 : Rg 0 10 xs0) (h3_x1 : Rg 0 10 (g.2 3 x1.toNatClampNeg)) (h4_x1 : Rg 0 10 (g.2 4 x1.toNatClampNeg)) (htt : g.1 9 = 0) (h : Inv g S D) : wp (f_X0_shiftPlace_68 S 14 x1 x2 x3 x4 x6 x7 xs0 D) (fun q => Rg 0 1 q.1 ∧ ((q.1 ≠ 0 → Inv g S q.2) ∧ Inv (lgg g) S q.2)) := by
  unfold f_X0_shiftPlace_68
  refine wp_rq (iR_14_0 h) ?_
  refine wp_pqs (s_X4_isWide hx1 h) (fun r254 h_r254 => ?_)
  refine wp_if (fun c_1 => ?_) (fun c_1 => ?_)
  ·
    have h_2 : Rg 0 0 _ := rg_eq1 h_r254 rc_0 c_1 (by decide)
    exact ⟨_, rfl, (rg_w rc_0 (by decide)), ⟨fun _ => h, h.log⟩⟩
  ·
    have h_3 : Rg 1 1 _ := rg_ne1 h_r254 rc_0 c_1 (by decide)
    refine wp_if (fun c_4 => ?_) (fun c_4 => ?_)
    ·
      have h_5 : Rg 0 0 _ := rg_eq1 hx3 rc_0 c_4 (by decide)
      exact s_X0_shiftPlace_95 hx1 hx2 (rg_w h_5 (by decide)) hx4 hx7 hxs0 h3_x1 h4_x1 htt h
    ·
      have h_6 : Rg 1 15 _ := rg_ne1 hx3 rc_0 c_4 (by decide)
      refine wp_if (fun c_7 => ?_) (fun c_7 => ?_)
      ·
        have h_8 : Rg 1 1 _ := rg_eq1 h_6 rc_1 c_7 (by decide)
        refine wp_if (fun c_9 => ?_) (fun c_9 => ?_)
        ·
          have h_10 : Rg 0 0 _ := rg_eq1 hx6 rc_0 c_9 (by decide)
          exact s_X0_shiftPlace_95 hx1 hx2 (rg_w h_8 (by decide)) hx4 hx7 hxs0 h3_x1 h4_x1 htt h
        ·
          have h_11 : Rg 1 1 _ := rg_ne1 hx6 rc_0 c_9 (by decide)
          exact ⟨_, rfl, (rg_w rc_0 (by decide)), ⟨fun _ => h, h.log⟩⟩
      ·
        have h_12 : Rg 2 15 _ := rg_ne1 h_6 rc_1 c_7 (by decide)
        exact ⟨_, rfl, (rg_w rc_0 (by decide)), ⟨fun _ => h, h.log⟩⟩
set_option maxRecDepth 100000 in
theorem s_X0_shiftPlace_54 {g : gh} {S : sh}  {x1 : Int32} {x2 : Int32} {x3 : Int32} {x4 : Int32} {x5 : Int32} {x6 : Int32} {xs0 : Int32} {D : dt} (hx1 : Rg 0 199 x1) (hx2 : Rg 0 1 x2) (hx3 : Rg 0 15 x3) (hx4 : Rg 0 10 x4) (hx5 : Rg 0 10 x5) (hx6 : Rg 0 1 x6) (hxs0 : Rg 0 10 xs0) (h3_x1 : Rg 0 10 (g.2 3 x1.toNatClampNeg)) (h4_x1 : Rg 0 10 (g.2 4 x1.toNatClampNeg)) (htt : g.1 9 = 0) (h : Inv g S D) : wp (f_X0_shiftPlace_54 S 14 x1 x2 x3 x4 x5 x6 xs0 D) (fun q => Rg 0 1 q.1 ∧ ((q.1 ≠ 0 → Inv g S q.2) ∧ Inv (lgg g) S q.2)) := by
  unfold f_X0_shiftPlace_54
  refine wp_if (fun c_1 => ?_) (fun c_1 => ?_)
  ·
    have h_2 : Rg 0 0 _ := rg_eq1 hx6 rc_0 c_1 (by decide)
    exact s_X0_shiftPlace_68 hx1 hx2 hx3 hx4 (rg_w h_2 (by decide)) hxs0 hx5 h3_x1 h4_x1 htt h
  ·
    have h_3 : Rg 1 1 _ := rg_ne1 hx6 rc_0 c_1 (by decide)
    exact s_X0_shiftPlace_68 hx1 hx2 hx3 hx4 (rg_w h_3 (by decide)) hxs0 hx4 h3_x1 h4_x1 htt h
set_option maxRecDepth 100000 in
theorem s_X0_shiftPlace {g : gh} {S : sh}  {x1 : Int32} {x2 : Int32} {D : dt} (hx1 : Rg 0 199 x1) (hx2 : Rg 0 1 x2) (h3_x1 : Rg 0 10 (g.2 3 x1.toNatClampNeg)) (h4_x1 : Rg 0 10 (g.2 4 x1.toNatClampNeg)) (htt : g.1 9 = 0) (h : Inv g S D) : wp (f_X0_shiftPlace S 14 x1 x2 D) (fun q => Rg 0 1 q.1 ∧ ((q.1 ≠ 0 → Inv g S q.2) ∧ Inv (lgg g) S q.2)) := by
  unfold f_X0_shiftPlace
  refine wp_rq (iR_14_0 h) ?_
  refine wp_pqs (s_X4_code hx1 h) (fun r265 q_r265 => ?_)
  obtain ⟨h_r265, p_r265⟩ := q_r265
  refine wp_rq (iR_14_0 h) ?_
  refine wp_rq (iR_1_1 h) ?_
  refine wp_ix (in_rg hx1 (iA_3 h) (by decide)) ?_
  refine wp_nmI (fun y275 e_y275 => ?_)
  have h_y275 : Rg 0 10 y275 := rg_eq e_y275 (rg_eq (h.p 3 _ rfl) h3_x1)
  refine wp_rq (iR_14_0 h) ?_
  refine wp_rq (iR_1_2 h) ?_
  refine wp_ix (in_rg hx1 (iA_4 h) (by decide)) ?_
  refine wp_nmI (fun y285 e_y285 => ?_)
  have h_y285 : Rg 0 10 y285 := rg_eq e_y285 (rg_eq (h.p 4 _ rfl) h4_x1)
  refine wp_rq (iR_14_4 h) ?_
  refine wp_pqs (s_X5_isNumber (iK_17 h) (rg_w h_y275 (by decide)) h) (fun r291 h_r291 => ?_)
  refine wp_if (fun c_1 => ?_) (fun c_1 => ?_)
  ·
    have h_2 : Rg 0 0 _ := rg_eq1 h_r291 rc_0 c_1 (by decide)
    exact s_X0_shiftPlace_54 hx1 hx2 h_r265 h_y275 h_y285 (rg_w h_2 (by decide)) h_y275 h3_x1 h4_x1 htt h
  ·
    have h_3 : Rg 1 1 _ := rg_ne1 h_r291 rc_0 c_1 (by decide)
    exact s_X0_shiftPlace_54 hx1 hx2 h_r265 h_y275 h_y285 (rg_w h_3 (by decide)) h_y285 h3_x1 h4_x1 htt h
set_option maxRecDepth 100000 in
theorem s_X0_judgeArithmetic_181 {g : gh} {S : sh}  {x1 : Int32} {x5 : Int32} {D : dt} (hx1 : Rg 0 199 x1) (hx5 : Rg 0 1 x5) (h3_x1 : Rg 0 10 (g.2 3 x1.toNatClampNeg)) (h4_x1 : Rg 0 10 (g.2 4 x1.toNatClampNeg)) (h13 : (g.2 2 x1.toNatClampNeg >>> ((4 : Int32) &&& 31) = 13 → Rg 0 64 (g.2 6 x1.toNatClampNeg))) (htt : g.1 9 = 0) (h : Inv g S D) : wp (f_X0_judgeArithmetic_181 S 14 x1 x5 D) (fun q => Rg 0 3 q.1 ∧ ((q.1 = 0 → Inv g S q.2) ∧ Inv (lgg g) S q.2)) := by
  unfold f_X0_judgeArithmetic_181
  refine wp_cqs (s_X0_makeNumber hx1 hx5 h3_x1 h4_x1 (by first | exact h13 | exact (fun ne => absurd rfl ne)) htt h) (fun _ D100 h_D100 => ?_)
  exact ⟨_, rfl, (rg_w rc_0 (by decide)), ⟨fun _ => h_D100, h_D100.log⟩⟩
theorem s_X0_judgeArithmetic_191 {g : gh} {S : sh} {x1 x5 : Int32} {D : dt} (hx1 : Rg 0 199 x1) (hx5 : Rg 0 1 x5) (h3_x1 : Rg 0 10 (g.2 3 x1.toNatClampNeg)) (h4_x1 : Rg 0 10 (g.2 4 x1.toNatClampNeg)) (htt : g.1 9 = 0) (h : Inv g S D) : wp (f_X0_judgeArithmetic_191 S 14 x1 x5 D) (fun q => Rg 0 3 q.1 ∧ ((q.1 = 0 → Inv g S q.2) ∧ Inv (lgg g) S q.2)) := by
  unfold f_X0_judgeArithmetic_191
  exact wp_cqs (s_X0_shiftPlace hx1 hx5 h3_x1 h4_x1 htt h) (fun r D1 p => wp_if (fun _ => ⟨_, rfl, (show Rg 0 3 (3 : Int32) by decide), (show (3 : Int32) = 0 → _ from fun e => absurd e (by decide)), p.2.2⟩) (fun c => ⟨_, rfl, (show Rg 0 3 (0 : Int32) by decide), fun _ => p.2.1 c, p.2.2⟩))
set_option maxRecDepth 100000 in
theorem s_X0_judgeArithmetic_164 {g : gh} {S : sh}  {x1 : Int32} {x4 : Int32} {x5 : Int32} {D : dt} (hx1 : Rg 0 199 x1) (hx4 : Rg 0 10 x4) (hx5 : Rg 0 1 x5) (h3_x1 : Rg 0 10 (g.2 3 x1.toNatClampNeg)) (h4_x1 : Rg 0 10 (g.2 4 x1.toNatClampNeg)) (h13 : (g.2 2 x1.toNatClampNeg >>> ((4 : Int32) &&& 31) = 13 → Rg 0 64 (g.2 6 x1.toNatClampNeg))) (htt : g.1 9 = 0) (h : Inv g S D) : wp (f_X0_judgeArithmetic_164 S 14 x1 x4 x5 D) (fun q => Rg 0 3 q.1 ∧ ((q.1 = 0 → Inv g S q.2) ∧ Inv (lgg g) S q.2)) := by
  unfold f_X0_judgeArithmetic_164
  refine wp_if (fun c_1 => ?_) (fun c_1 => ?_)
  ·
    have h_2 : Rg 0 0 _ := rg_eq1 hx5 rc_0 c_1 (by decide)
    exact s_X0_judgeArithmetic_181 hx1 (rg_w h_2 (by decide)) h3_x1 h4_x1 (by first | exact h13 | exact (fun ne => absurd rfl ne)) htt h
  ·
    have h_3 : Rg 1 1 _ := rg_ne1 hx5 rc_0 c_1 (by decide)
    refine wp_rq (iR_14_4 h) ?_
    refine wp_pqs (s_X5_isNumber (iK_17 h) (rg_w hx4 (by decide)) h) (fun r111 h_r111 => ?_)
    refine wp_if (fun c_4 => ?_) (fun c_4 => ?_)
    ·
      have h_5 : Rg 0 0 _ := rg_eq1 h_r111 rc_0 c_4 (by decide)
      exact s_X0_judgeArithmetic_191 hx1 (rg_w h_3 (by decide)) h3_x1 h4_x1 htt h
    ·
      have h_6 : Rg 1 1 _ := rg_ne1 h_r111 rc_0 c_4 (by decide)
      exact s_X0_judgeArithmetic_181 hx1 (rg_w h_3 (by decide)) h3_x1 h4_x1 (by first | exact h13 | exact (fun ne => absurd rfl ne)) htt h
set_option maxRecDepth 100000 in
theorem s_X0_judgeArithmetic_148 {g : gh} {S : sh}  {x1 : Int32} {x3 : Int32} {x4 : Int32} {x5 : Int32} {x6 : Int32} {D : dt} (hx1 : Rg 0 199 x1) (hx3 : Rg 0 10 x3) (hx4 : Rg 0 10 x4) (hx5 : Rg 0 1 x5) (hx6 : Rg 0 1 x6) (h3_x1 : Rg 0 10 (g.2 3 x1.toNatClampNeg)) (h4_x1 : Rg 0 10 (g.2 4 x1.toNatClampNeg)) (h13 : (g.2 2 x1.toNatClampNeg >>> ((4 : Int32) &&& 31) = 13 → Rg 0 64 (g.2 6 x1.toNatClampNeg))) (htt : g.1 9 = 0) (h : Inv g S D) : wp (f_X0_judgeArithmetic_148 S 14 x1 x3 x4 x5 x6 D) (fun q => Rg 0 3 q.1 ∧ ((q.1 = 0 → Inv g S q.2) ∧ Inv (lgg g) S q.2)) := by
  unfold f_X0_judgeArithmetic_148
  refine wp_if (fun c_1 => ?_) (fun c_1 => ?_)
  ·
    have h_2 : Rg 0 0 _ := rg_eq1 hx6 rc_0 c_1 (by decide)
    refine wp_rq (iR_14_4 h) ?_
    refine wp_pqs (s_X5_isNumber (iK_17 h) (rg_w hx3 (by decide)) h) (fun r119 h_r119 => ?_)
    refine wp_if (fun c_3 => ?_) (fun c_3 => ?_)
    ·
      have h_4 : Rg 0 0 _ := rg_eq1 h_r119 rc_0 c_3 (by decide)
      exact s_X0_judgeArithmetic_191 hx1 hx5 h3_x1 h4_x1 htt h
    ·
      have h_5 : Rg 1 1 _ := rg_ne1 h_r119 rc_0 c_3 (by decide)
      exact s_X0_judgeArithmetic_164 hx1 hx4 hx5 h3_x1 h4_x1 (by first | exact h13 | exact (fun ne => absurd rfl ne)) htt h
  ·
    have h_6 : Rg 1 1 _ := rg_ne1 hx6 rc_0 c_1 (by decide)
    exact s_X0_judgeArithmetic_164 hx1 hx4 hx5 h3_x1 h4_x1 (by first | exact h13 | exact (fun ne => absurd rfl ne)) htt h
set_option maxRecDepth 100000 in
theorem s_X0_judgeArithmetic_102 {g : gh} {S : sh}  {x1 : Int32} {x3 : Int32} {x4 : Int32} {x5 : Int32} {x6 : Int32} {D : dt} (hx1 : Rg 0 199 x1) (hx3 : Rg 0 10 x3) (hx4 : Rg 0 10 x4) (hx5 : Rg 0 1 x5) (hx6 : Rg 0 1 x6) (h3_x1 : Rg 0 10 (g.2 3 x1.toNatClampNeg)) (h4_x1 : Rg 0 10 (g.2 4 x1.toNatClampNeg)) (h13 : (g.2 2 x1.toNatClampNeg >>> ((4 : Int32) &&& 31) = 13 → Rg 0 64 (g.2 6 x1.toNatClampNeg))) (htt : g.1 9 = 0) (h : Inv g S D) : wp (f_X0_judgeArithmetic_102 S 14 x1 x3 x4 x5 x6 D) (fun q => Rg 0 3 q.1 ∧ ((q.1 = 0 → Inv g S q.2) ∧ Inv (lgg g) S q.2)) := by
  unfold f_X0_judgeArithmetic_102
  refine wp_if (fun c_1 => ?_) (fun c_1 => ?_)
  ·
    have h_2 : Rg 0 0 _ := rg_eq1 hx6 rc_0 c_1 (by decide)
    exact s_X0_judgeArithmetic_148 hx1 hx3 hx4 hx5 (rg_w h_2 (by decide)) h3_x1 h4_x1 (by first | exact h13 | exact (fun ne => absurd rfl ne)) htt h
  ·
    have h_3 : Rg 1 1 _ := rg_ne1 hx6 rc_0 c_1 (by decide)
    refine wp_if (fun c_4 => ?_) (fun c_4 => ?_)
    ·
      have h_5 : Rg 0 0 _ := rg_eq1 hx5 rc_0 c_4 (by decide)
      exact s_X0_judgeArithmetic_148 hx1 hx3 hx4 (rg_w h_5 (by decide)) (rg_w h_3 (by decide)) h3_x1 h4_x1 (by first | exact h13 | exact (fun ne => absurd rfl ne)) htt h
    ·
      have h_6 : Rg 1 1 _ := rg_ne1 hx5 rc_0 c_4 (by decide)
      refine wp_rq (iR_14_0 h) ?_
      refine wp_pqs (s_X4_isWide hx1 h) (fun r128 h_r128 => ?_)
      refine wp_if (fun c_7 => ?_) (fun c_7 => ?_)
      ·
        have h_8 : Rg 0 0 _ := rg_eq1 h_r128 rc_0 c_7 (by decide)
        exact s_X0_judgeArithmetic_148 hx1 hx3 hx4 (rg_w h_6 (by decide)) (rg_w h_3 (by decide)) h3_x1 h4_x1 (by first | exact h13 | exact (fun ne => absurd rfl ne)) htt h
      ·
        have h_9 : Rg 1 1 _ := rg_ne1 h_r128 rc_0 c_7 (by decide)
        refine wp_rq (iR_14_0 h) ?_
        refine wp_rq (iR_1_3 h) ?_
        refine wp_ix (in_rg hx1 (iA_5 h) (by decide)) ?_
        refine wp_if (fun c_10 => ?_) (fun c_10 => ?_)
        ·
          have h_11 : Rg 0 0 _ := rg_eq1 (iI_5 h _) rc_0 c_10 (by decide)
          refine wp_rq (iR_14_4 h) ?_
          refine wp_cqs (s_X5_move (rg_w hx3 (by decide)) (rg_w hx4 (by decide)) h) (fun _ D145 h_D145 => ?_)
          exact ⟨_, rfl, (rg_w rc_0 (by decide)), ⟨fun _ => h_D145, h_D145.log⟩⟩
        ·
          exact s_X0_judgeArithmetic_148 hx1 hx3 hx4 (rg_w h_6 (by decide)) (rg_w h_3 (by decide)) h3_x1 h4_x1 (by first | exact h13 | exact (fun ne => absurd rfl ne)) htt h
set_option maxRecDepth 100000 in
theorem s_X0_judgeArithmetic_83 {g : gh} {S : sh}  {x1 : Int32} {x3 : Int32} {x4 : Int32} {x5 : Int32} {x6 : Int32} {D : dt} (hx1 : Rg 0 199 x1) (hx3 : Rg 0 10 x3) (hx4 : Rg 0 10 x4) (hx5 : Rg 0 1 x5) (hx6 : Rg 0 1 x6) (h3_x1 : Rg 0 10 (g.2 3 x1.toNatClampNeg)) (h4_x1 : Rg 0 10 (g.2 4 x1.toNatClampNeg)) (h13 : (g.2 2 x1.toNatClampNeg >>> ((4 : Int32) &&& 31) = 13 → Rg 0 64 (g.2 6 x1.toNatClampNeg))) (htt : g.1 9 = 0) (h : Inv g S D) : wp (f_X0_judgeArithmetic_83 S 14 x1 x3 x4 x5 x6 D) (fun q => Rg 0 3 q.1 ∧ ((q.1 = 0 → Inv g S q.2) ∧ Inv (lgg g) S q.2)) := by
  unfold f_X0_judgeArithmetic_83
  refine wp_if (fun c_1 => ?_) (fun c_1 => ?_)
  ·
    have h_2 : Rg 0 0 _ := rg_eq1 hx5 rc_0 c_1 (by decide)
    exact s_X0_judgeArithmetic_102 hx1 hx3 hx4 (rg_w h_2 (by decide)) hx6 h3_x1 h4_x1 (by first | exact h13 | exact (fun ne => absurd rfl ne)) htt h
  ·
    have h_3 : Rg 1 1 _ := rg_ne1 hx5 rc_0 c_1 (by decide)
    refine wp_rq (iR_14_4 h) ?_
    refine wp_pqs (s_X5_isNone (iK_17 h) (rg_w hx4 (by decide)) h) (fun r152 h_r152 => ?_)
    refine wp_if (fun c_4 => ?_) (fun c_4 => ?_)
    ·
      have h_5 : Rg 0 0 _ := rg_eq1 h_r152 rc_0 c_4 (by decide)
      exact s_X0_judgeArithmetic_102 hx1 hx3 hx4 (rg_w h_3 (by decide)) hx6 h3_x1 h4_x1 (by first | exact h13 | exact (fun ne => absurd rfl ne)) htt h
    ·
      have h_6 : Rg 1 1 _ := rg_ne1 h_r152 rc_0 c_4 (by decide)
      exact ⟨_, rfl, (rg_w rc_2 (by decide)), ⟨fun _ => h, h.log⟩⟩
set_option maxRecDepth 100000 in
theorem s_X0_judgeArithmetic_65 {g : gh} {S : sh}  {x1 : Int32} {x3 : Int32} {x4 : Int32} {x5 : Int32} {xs0 : Int32} {D : dt} (hx1 : Rg 0 199 x1) (hx3 : Rg 0 10 x3) (hx4 : Rg 0 10 x4) (hx5 : Rg 0 1 x5) (hxs0 : Rg 0 1 xs0) (h3_x1 : Rg 0 10 (g.2 3 x1.toNatClampNeg)) (h4_x1 : Rg 0 10 (g.2 4 x1.toNatClampNeg)) (h13 : (g.2 2 x1.toNatClampNeg >>> ((4 : Int32) &&& 31) = 13 → Rg 0 64 (g.2 6 x1.toNatClampNeg))) (htt : g.1 9 = 0) (h : Inv g S D) : wp (f_X0_judgeArithmetic_65 S 14 x1 x3 x4 x5 xs0 D) (fun q => Rg 0 3 q.1 ∧ ((q.1 = 0 → Inv g S q.2) ∧ Inv (lgg g) S q.2)) := by
  unfold f_X0_judgeArithmetic_65
  refine wp_if (fun c_1 => ?_) (fun c_1 => ?_)
  ·
    have h_2 : Rg 0 0 _ := rg_eq1 hxs0 rc_0 c_1 (by decide)
    refine wp_rq (iR_14_4 h) ?_
    refine wp_pqs (s_X5_isNone (iK_17 h) (rg_w hx3 (by decide)) h) (fun r160 h_r160 => ?_)
    refine wp_if (fun c_3 => ?_) (fun c_3 => ?_)
    ·
      have h_4 : Rg 0 0 _ := rg_eq1 h_r160 rc_0 c_3 (by decide)
      exact s_X0_judgeArithmetic_83 hx1 hx3 hx4 hx5 (rg_w h_2 (by decide)) h3_x1 h4_x1 (by first | exact h13 | exact (fun ne => absurd rfl ne)) htt h
    ·
      have h_5 : Rg 1 1 _ := rg_ne1 h_r160 rc_0 c_3 (by decide)
      exact ⟨_, rfl, (rg_w rc_2 (by decide)), ⟨fun _ => h, h.log⟩⟩
  ·
    have h_6 : Rg 1 1 _ := rg_ne1 hxs0 rc_0 c_1 (by decide)
    exact s_X0_judgeArithmetic_83 hx1 hx3 hx4 hx5 (rg_w h_6 (by decide)) h3_x1 h4_x1 (by first | exact h13 | exact (fun ne => absurd rfl ne)) htt h
set_option maxRecDepth 100000 in
theorem s_X0_judgeArithmetic_52 {g : gh} {S : sh}  {x1 : Int32} {x2 : Int32} {x3 : Int32} {x4 : Int32} {xs0 : Int32} {D : dt} (hx1 : Rg 0 199 x1) (hx2 : Rg 0 15 x2) (hx3 : Rg 0 10 x3) (hx4 : Rg 0 10 x4) (hxs0 : Rg 0 1 xs0) (h3_x1 : Rg 0 10 (g.2 3 x1.toNatClampNeg)) (h4_x1 : Rg 0 10 (g.2 4 x1.toNatClampNeg)) (h13 : (g.2 2 x1.toNatClampNeg >>> ((4 : Int32) &&& 31) = 13 → Rg 0 64 (g.2 6 x1.toNatClampNeg))) (htt : g.1 9 = 0) (h : Inv g S D) : wp (f_X0_judgeArithmetic_52 S 14 x1 x2 x3 x4 xs0 D) (fun q => Rg 0 3 q.1 ∧ ((q.1 = 0 → Inv g S q.2) ∧ Inv (lgg g) S q.2)) := by
  unfold f_X0_judgeArithmetic_52
  refine wp_if (fun c_1 => ?_) (fun c_1 => ?_)
  ·
    have h_2 : Rg 11 11 _ := rg_eq1 hx2 rc_11 c_1 (by decide)
    exact s_X0_judgeArithmetic_65 hx1 hx3 hx4 hxs0 (rg_w rc_1 (by decide)) h3_x1 h4_x1 (by first | exact h13 | exact (fun ne => absurd rfl ne)) htt h
  ·
    exact s_X0_judgeArithmetic_65 hx1 hx3 hx4 hxs0 (rg_w rc_0 (by decide)) h3_x1 h4_x1 (by first | exact h13 | exact (fun ne => absurd rfl ne)) htt h
set_option maxRecDepth 100000 in
theorem s_X0_judgeArithmetic_51 {g : gh} {S : sh}  {x1 : Int32} {x2 : Int32} {x3 : Int32} {x4 : Int32} {D : dt} (hx1 : Rg 0 199 x1) (hx2 : Rg 0 15 x2) (hx3 : Rg 0 10 x3) (hx4 : Rg 0 10 x4) (h3_x1 : Rg 0 10 (g.2 3 x1.toNatClampNeg)) (h4_x1 : Rg 0 10 (g.2 4 x1.toNatClampNeg)) (h13 : (g.2 2 x1.toNatClampNeg >>> ((4 : Int32) &&& 31) = 13 → Rg 0 64 (g.2 6 x1.toNatClampNeg))) (htt : g.1 9 = 0) (h : Inv g S D) : wp (f_X0_judgeArithmetic_51 S 14 x1 x2 x3 x4 D) (fun q => Rg 0 3 q.1 ∧ ((q.1 = 0 → Inv g S q.2) ∧ Inv (lgg g) S q.2)) := by
  unfold f_X0_judgeArithmetic_51
  exact s_X0_judgeArithmetic_52 hx1 hx2 hx3 hx4 (rg_w rc_0 (by decide)) h3_x1 h4_x1 (by first | exact h13 | exact (fun ne => absurd rfl ne)) htt h
set_option maxRecDepth 100000 in
theorem s_X0_judgeArithmetic {g : gh} {S : sh}  {x1 : Int32} {D : dt} (hx1 : Rg 0 199 x1) (h3_x1 : Rg 0 10 (g.2 3 x1.toNatClampNeg)) (h4_x1 : Rg 0 10 (g.2 4 x1.toNatClampNeg)) (h13 : (g.2 2 x1.toNatClampNeg >>> ((4 : Int32) &&& 31) = 13 → Rg 0 64 (g.2 6 x1.toNatClampNeg))) (htt : g.1 9 = 0) (h : Inv g S D) : wp (f_X0_judgeArithmetic S 14 x1 D) (fun q => Rg 0 3 q.1 ∧ ((q.1 = 0 → Inv g S q.2) ∧ Inv (lgg g) S q.2)) := by
  unfold f_X0_judgeArithmetic
  refine wp_rq (iR_14_0 h) ?_
  refine wp_pqs (s_X4_code hx1 h) (fun r168 q_r168 => ?_)
  obtain ⟨h_r168, p_r168⟩ := q_r168
  refine wp_rq (iR_14_0 h) ?_
  refine wp_rq (iR_1_1 h) ?_
  refine wp_ix (in_rg hx1 (iA_3 h) (by decide)) ?_
  refine wp_nmI (fun y178 e_y178 => ?_)
  have h_y178 : Rg 0 10 y178 := rg_eq e_y178 (rg_eq (h.p 3 _ rfl) h3_x1)
  refine wp_rq (iR_14_0 h) ?_
  refine wp_rq (iR_1_2 h) ?_
  refine wp_ix (in_rg hx1 (iA_4 h) (by decide)) ?_
  refine wp_nmI (fun y188 e_y188 => ?_)
  have h_y188 : Rg 0 10 y188 := rg_eq e_y188 (rg_eq (h.p 4 _ rfl) h4_x1)
  refine wp_if (fun c_1 => ?_) (fun c_1 => ?_)
  ·
    have h_2 : Rg 13 13 _ := rg_eq1 h_r168 rc_13 c_1 (by decide)
    exact s_X0_judgeArithmetic_51 hx1 (rg_w h_2 (by decide)) h_y178 h_y188 h3_x1 h4_x1 (by first | exact h13 | exact (fun ne => absurd rfl ne)) htt h
  ·
    refine wp_rq (iR_14_0 h) ?_
    refine wp_pqs (s_X4_byRegister hx1 h) (fun r195 h_r195 => ?_)
    refine wp_if (fun c_3 => ?_) (fun c_3 => ?_)
    ·
      have h_4 : Rg 0 0 _ := rg_eq1 h_r195 rc_0 c_3 (by decide)
      exact s_X0_judgeArithmetic_51 hx1 h_r168 h_y178 h_y188 h3_x1 h4_x1 (by first | exact h13 | exact (fun ne => absurd rfl ne)) htt h
    ·
      have h_5 : Rg 1 1 _ := rg_ne1 h_r195 rc_0 c_3 (by decide)
      exact s_X0_judgeArithmetic_52 hx1 h_r168 h_y178 h_y188 (rg_w rc_1 (by decide)) h3_x1 h4_x1 (by first | exact h13 | exact (fun ne => absurd rfl ne)) htt h
set_option maxRecDepth 100000 in
theorem s_X0_given  {x0 : Int32}  : wp (f_X0_given x0) (fun q => Rg 0 4 q) := by
  unfold f_X0_given
  refine wp_if (fun c_1 => ?_) (fun c_1 => ?_)
  ·
    have h_2 : Rg 2 2 _ := rg_eq1 (rg_top _) rc_2 c_1 (by decide)
    exact ⟨_, rfl, (rg_w rc_4 (by decide))⟩
  ·
    refine wp_if (fun c_3 => ?_) (fun c_3 => ?_)
    ·
      have h_4 : Rg 3 3 _ := rg_eq1 (rg_top _) rc_3 c_3 (by decide)
      exact ⟨_, rfl, (rg_w rc_2 (by decide))⟩
    ·
      refine wp_if (fun c_5 => ?_) (fun c_5 => ?_)
      ·
        have h_6 : Rg 4 4 _ := rg_eq1 (rg_top _) rc_4 c_5 (by decide)
        exact ⟨_, rfl, (rg_w rc_2 (by decide))⟩
      ·
        refine wp_if (fun c_7 => ?_) (fun c_7 => ?_)
        ·
          have h_8 : Rg 5 5 _ := rg_eq1 (rg_top _) rc_5 c_7 (by decide)
          exact ⟨_, rfl, (rg_w rc_0 (by decide))⟩
        ·
          refine wp_if (fun c_9 => ?_) (fun c_9 => ?_)
          ·
            have h_10 : Rg 6 6 _ := rg_eq1 (rg_top _) rc_6 c_9 (by decide)
            exact ⟨_, rfl, (rg_w rc_1 (by decide))⟩
          ·
            exact ⟨_, rfl, (rg_w rc_2 (by decide))⟩
set_option maxRecDepth 100000 in
theorem s_X0_judgeTableCall_78 {g : gh} {S : sh} {D : dt}  {o2 : Nat} {x3 : Int32} (ho2 : sK S o2 = 6) (hx3 : Rg 0 1 x3) (htt : g.1 9 = 0) (h : Inv g S D) : wp (f_X0_judgeTableCall_78 S D 14 o2 x3) (fun q => Rg 0 4 q) := by
  unfold f_X0_judgeTableCall_78
  refine wp_pqs (s_X0_canBeRead (rg_w rc_2 (by decide)) (rg_w rc_0 (by decide)) (rg_w (iT1 h ho2) (by decide)) htt h) (fun r52 q_r52 => ?_)
  obtain ⟨h_r52, p_r52⟩ := q_r52
  refine wp_if (fun c_1 => ?_) (fun c_1 => ?_)
  ·
    have h_2 : Rg 0 0 _ := rg_eq1 h_r52 rc_0 c_1 (by decide)
    exact ⟨_, rfl, (rg_w rc_4 (by decide))⟩
  ·
    have h_3 : Rg 1 1 _ := rg_ne1 h_r52 rc_0 c_1 (by decide)
    refine wp_if (fun c_4 => ?_) (fun c_4 => ?_)
    ·
      have h_5 : Rg 0 0 _ := rg_eq1 hx3 rc_0 c_4 (by decide)
      exact ⟨_, rfl, (rg_w rc_0 (by decide))⟩
    ·
      have h_6 : Rg 1 1 _ := rg_ne1 hx3 rc_0 c_4 (by decide)
      refine wp_pqs (s_X0_canBeRead (rg_w rc_3 (by decide)) (rg_w rc_0 (by decide)) (iT2 h ho2) htt h) (fun r56 q_r56 => ?_)
      obtain ⟨h_r56, p_r56⟩ := q_r56
      refine wp_if (fun c_7 => ?_) (fun c_7 => ?_)
      ·
        have h_8 : Rg 0 0 _ := rg_eq1 h_r56 rc_0 c_7 (by decide)
        exact ⟨_, rfl, (rg_w rc_4 (by decide))⟩
      ·
        have h_9 : Rg 1 1 _ := rg_ne1 h_r56 rc_0 c_7 (by decide)
        exact ⟨_, rfl, (rg_w rc_0 (by decide))⟩
set_option maxRecDepth 100000 in
theorem s_X0_judgeTableCall_52 {g : gh} {S : sh} {D : dt}  {o2 : Nat} {xs0 : Int32} (ho2 : sK S o2 = 6) (hxs0 : Rg 0 1 xs0) (htt : g.1 9 = 0) (h : Inv g S D) : wp (f_X0_judgeTableCall_52 S D 14 o2 xs0) (fun q => Rg 0 4 q) := by
  unfold f_X0_judgeTableCall_52
  refine wp_if (fun c_1 => ?_) (fun c_1 => ?_)
  ·
    have h_2 : Rg 0 0 _ := rg_eq1 hxs0 rc_0 c_1 (by decide)
    exact s_X0_judgeTableCall_78 ho2 (rg_w h_2 (by decide)) htt h
  ·
    have h_3 : Rg 1 1 _ := rg_ne1 hxs0 rc_0 c_1 (by decide)
    refine wp_pqs (s_X0_canBeReached (rg_w rc_3 (by decide)) htt h) (fun r60 h_r60 => ?_)
    refine wp_if (fun c_4 => ?_) (fun c_4 => ?_)
    ·
      have h_5 : Rg 0 0 _ := rg_eq1 h_r60 rc_0 c_4 (by decide)
      exact ⟨_, rfl, (rg_w rc_3 (by decide))⟩
    ·
      have h_6 : Rg 1 1 _ := rg_ne1 h_r60 rc_0 c_4 (by decide)
      refine wp_rq (iR_14_4 h) ?_
      refine wp_pqs (s_X5_isNumber (iK_17 h) (rg_w rc_4 (by decide)) h) (fun r67 h_r67 => ?_)
      refine wp_if (fun c_7 => ?_) (fun c_7 => ?_)
      ·
        have h_8 : Rg 0 0 _ := rg_eq1 h_r67 rc_0 c_7 (by decide)
        exact ⟨_, rfl, (rg_w rc_3 (by decide))⟩
      ·
        have h_9 : Rg 1 1 _ := rg_ne1 h_r67 rc_0 c_7 (by decide)
        exact s_X0_judgeTableCall_78 ho2 (rg_w h_3 (by decide)) htt h
set_option maxRecDepth 100000 in
theorem s_X0_judgeTableCall {g : gh} {S : sh} {D : dt}  {x1 : Int32} (htt : g.1 9 = 0) (h : Inv g S D) : wp (f_X0_judgeTableCall S D 14 x1) (fun q => Rg 0 4 q) := by
  unfold f_X0_judgeTableCall
  refine wp_rq (iR_14_1 h) ?_
  refine wp_rq (iR_14_4 h) ?_
  refine wp_pqs (s_X5_tableOf (iK_17 h) (rg_w rc_1 (by decide)) h) (fun r78 h_r78 => ?_)
  refine wp_pqs (s_X2_tableNumbered h) (fun r80 h_r80 => ?_)
  refine wp_oq (fun e_z_1 => ?_) (fun z_1 e_z_1 => ?_)
  ·
    refine wp_rq (iR_14_4 h) ?_
    refine wp_pqs (s_X5_kind (iK_17 h) (rg_w rc_1 (by decide)) h) (fun r88 q_r88 => ?_)
    obtain ⟨h_r88, p_r88⟩ := q_r88
    refine wp_if (fun c_2 => ?_) (fun c_2 => ?_)
    ·
      have h_3 : Rg 4 4 _ := rg_eq1 h_r88 rc_4 c_2 (by decide)
      exact ⟨_, rfl, (rg_w rc_3 (by decide))⟩
    ·
      exact ⟨_, rfl, (rg_w rc_3 (by decide))⟩
  ·
    have k_z_1 := h_r80 _ e_z_1
    refine wp_rq (iR_14_4 h) ?_
    refine wp_pqs (s_X5_kind (iK_17 h) (rg_w rc_1 (by decide)) h) (fun r95 q_r95 => ?_)
    obtain ⟨h_r95, p_r95⟩ := q_r95
    refine wp_if (fun c_4 => ?_) (fun c_4 => ?_)
    ·
      have h_5 : Rg 4 4 _ := rg_eq1 h_r95 rc_4 c_4 (by decide)
      refine wp_pqs (s_X0_canBeReached (rg_w rc_2 (by decide)) htt h) (fun r98 h_r98 => ?_)
      refine wp_if (fun c_6 => ?_) (fun c_6 => ?_)
      ·
        have h_7 : Rg 0 0 _ := rg_eq1 h_r98 rc_0 c_6 (by decide)
        exact ⟨_, rfl, (rg_w rc_3 (by decide))⟩
      ·
        have h_8 : Rg 1 1 _ := rg_ne1 h_r98 rc_0 c_6 (by decide)
        refine wp_if (fun c_9 => ?_) (fun c_9 => ?_)
        ·
          have h_10 : Rg 2 2 _ := rg_eq1 (rg_top _) rc_2 c_9 (by decide)
          exact s_X0_judgeTableCall_52 k_z_1 (rg_w rc_1 (by decide)) htt h
        ·
          exact s_X0_judgeTableCall_52 k_z_1 (rg_w rc_0 (by decide)) htt h
    ·
      exact ⟨_, rfl, (rg_w rc_3 (by decide))⟩
set_option maxRecDepth 100000 in
theorem s_X0_judgeCall_132 {g : gh} {S : sh}  : ∀ (n : Nat) (x6 : Int32) (D : dt), Rg 1 6 x6 → g.1 9 = 0 → 6 - x6.toInt < (n : Int) → Inv g S D → wp (f_X0_judgeCall_132 S n 14 x6 D) (fun q => Rg 0 4 q.1 ∧ Inv g S q.2) := by
  intro n
  induction n with
  | zero =>
    intro x6 D hx6 htt hm h
    exact (ms_0 hx6 (by decide) hm).elim
  | succ n ih =>
    intro x6 D hx6 htt hm h
    rw [f_X0_judgeCall_132.eq_2]
    refine wp_if (fun c_1 => ?_) (fun c_1 => ?_)
    ·
      have h_2 : Rg 6 6 _ := rg_lt2 rc_5 hx6 c_1 (by decide)
      exact ⟨_, rfl, (rg_w rc_0 (by decide)), h⟩
    ·
      have h_3 : Rg 1 5 _ := rg_le1 hx6 rc_5 (nlt32 c_1) (by decide)
      refine wp_rq (iR_14_4 h) ?_
      refine wp_cqs (s_X5_write (iK_17 h) (rg_w h_3 (by decide)) (fun q => absurd q (by decide)) h) (fun _ D62 h_D62 => ?_)
      refine wp_nmI (fun y63 e_y63 => ?_)
      have h_y63 : Rg 2 6 y63 := rg_eq e_y63 (rg_add h_3 rc_1 (by decide) : Rg 2 6 _)
      exact ih _ _ (rg_w h_y63 (by decide)) htt (by rw [e_y63]; exact ms_up h_3 (by decide) hm) h_D62
set_option maxRecDepth 100000 in
theorem s_X0_judgeCall_129 {g : gh} {S : sh}   {D : dt} (htt : g.1 9 = 0) (h : Inv g S D) : wp (f_X0_judgeCall_129 S 14 D) (fun q => Rg 0 4 q.1 ∧ Inv g S q.2) := by
  unfold f_X0_judgeCall_129
  refine wp_nmI (fun y64 e_y64 => ?_)
  have h_y64 : Rg 1 1 y64 := rg_eq e_y64 rc_1
  exact s_X0_judgeCall_132  LF _ _ (rg_w h_y64 (by decide)) htt (ms_in h_y64 (by decide)) h
set_option maxRecDepth 100000 in
theorem s_X0_judgeCall_83 {g : gh} {S : sh}  {x1 : Int32} {x2 : Int32} {x4 : Int32} {xs0 : Int32} {D : dt} (hx1 : Rg 0 199 x1) (hx4 : Rg 0 15 x4) (hxs0 : Rg 0 4 xs0) (h3_x1 : Rg 0 10 (g.2 3 x1.toNatClampNeg)) (h4_x1 : Rg 0 10 (g.2 4 x1.toNatClampNeg)) (htt : g.1 9 = 0) (h : Inv g S D) : wp (f_X0_judgeCall_83 S 14 x1 x2 x4 xs0 D) (fun q => Rg 0 4 q.1 ∧ Inv g S q.2) := by
  unfold f_X0_judgeCall_83
  refine wp_if (fun c_1 => ?_) (fun c_1 => ?_)
  ·
    have h_2 : Rg 0 0 _ := rg_eq1 hxs0 rc_0 c_1 (by decide)
    refine wp_if (fun c_3 => ?_) (fun c_3 => ?_)
    ·
      have h_4 : Rg 1 1 _ := rg_eq1 (rg_top _) rc_1 c_3 (by decide)
      refine wp_rq (iR_14_4 h) ?_
      refine wp_pqs (s_X5_tagOf (rg_w rc_6 (by decide)) hx1) (fun r78 _ => ?_)
      refine wp_cqs (s_X5_write (iK_17 h) (rg_w rc_0 (by decide)) (fun _ => ⟨rfl, Or.inr (by decide)⟩) h) (fun _ D80 h_D80 => ?_)
      exact s_X0_judgeCall_129 htt h_D80
    ·
      refine wp_rq (iR_14_4 h) ?_
      refine wp_cqs (s_X5_writeAny (rg_w rc_0 (by decide)) (rg_w rc_8 (by decide)) h) (fun _ D72 h_D72 => ?_)
      exact s_X0_judgeCall_129 htt h_D72
  ·
    have h_5 : Rg 1 4 _ := rg_ne1 hxs0 rc_0 c_1 (by decide)
    exact ⟨_, rfl, (rg_w h_5 (by decide)), h⟩
set_option maxRecDepth 100000 in
theorem s_X0_judgeCall_74 {g : gh} {S : sh}  {x1 : Int32} {x2 : Int32} {x4 : Int32} {D : dt} (hx1 : Rg 0 199 x1) (hx2 : Rg 5 6 x2) (hx4 : Rg 0 15 x4) (h3_x1 : Rg 0 10 (g.2 3 x1.toNatClampNeg)) (h4_x1 : Rg 0 10 (g.2 4 x1.toNatClampNeg)) (htt : g.1 9 = 0) (h : Inv g S D) : wp (f_X0_judgeCall_74 S 14 x1 x2 x4 D) (fun q => Rg 0 4 q.1 ∧ Inv g S q.2) := by
  unfold f_X0_judgeCall_74
  exact s_X0_judgeCall_83 hx1 hx4 (rg_w rc_0 (by decide)) h3_x1 h4_x1 htt h
set_option maxRecDepth 100000 in
theorem s_X0_judgeCall_53 {g : gh} {S : sh}  {x1 : Int32} {x2 : Int32} {D : dt} (hx1 : Rg 0 199 x1) (h3_x1 : Rg 0 10 (g.2 3 x1.toNatClampNeg)) (h4_x1 : Rg 0 10 (g.2 4 x1.toNatClampNeg)) (htt : g.1 9 = 0) (h : Inv g S D) : wp (f_X0_judgeCall_53 S 14 x1 x2 D) (fun q => Rg 0 4 q.1 ∧ Inv g S q.2) := by
  unfold f_X0_judgeCall_53
  refine wp_rq (iR_14_4 h) ?_
  refine wp_pqs (s_X5_tableOf (iK_17 h) (rg_w rc_1 (by decide)) h) (fun r86 h_r86 => ?_)
  refine wp_if (fun c_1 => ?_) (fun c_1 => ?_)
  ·
    have h_2 : Rg 6 6 _ := rg_eq1 (rg_top _) rc_6 c_1 (by decide)
    exact s_X0_judgeCall_74 hx1 (rg_w h_2 (by decide)) h_r86 h3_x1 h4_x1 htt h
  ·
    refine wp_if (fun c_3 => ?_) (fun c_3 => ?_)
    ·
      have h_4 : Rg 5 5 _ := rg_eq1 (rg_top _) rc_5 c_3 (by decide)
      exact s_X0_judgeCall_74 hx1 (rg_w h_4 (by decide)) h_r86 h3_x1 h4_x1 htt h
    ·
      refine wp_pqs (s_X0_judgeTableCall htt h) (fun r90 h_r90 => ?_)
      exact s_X0_judgeCall_83 hx1 h_r86 h_r90 h3_x1 h4_x1 htt h
set_option maxRecDepth 100000 in
theorem s_X0_judgeCall_8 {g : gh} {S : sh}  : ∀ (n : Nat) (x1 : Int32) (x2 : Int32) (x3 : Int32) (x4 : Int32) (D : dt), Rg 0 199 x1 → Rg 0 4 x3 → Rg 1 5 x4 → Rg 0 10 (g.2 3 x1.toNatClampNeg) → Rg 0 10 (g.2 4 x1.toNatClampNeg) → g.1 9 = 0 → 5 - x4.toInt < (n : Int) → Inv g S D → wp (f_X0_judgeCall_8 S n 14 x1 x2 x3 x4 D) (fun q => Rg 0 4 q.1 ∧ Inv g S q.2) := by
  intro n
  induction n with
  | zero =>
    intro x1 x2 x3 x4 D hx1 hx3 hx4 h3_x1 h4_x1 htt hm h
    exact (ms_0 hx4 (by decide) hm).elim
  | succ n ih =>
    intro x1 x2 x3 x4 D hx1 hx3 hx4 h3_x1 h4_x1 htt hm h
    rw [f_X0_judgeCall_8.eq_2]
    refine wp_if (fun c_1 => ?_) (fun c_1 => ?_)
    ·
      refine wp_if (fun c_2 => ?_) (fun c_2 => ?_)
      ·
        have h_3 : Rg 6 6 _ := rg_eq1 (rg_top _) rc_6 c_2 (by decide)
        refine wp_rq (iR_14_4 h) ?_
        refine wp_pqs (s_X5_isNumber (iK_17 h) (rg_w rc_1 (by decide)) h) (fun r98 h_r98 => ?_)
        refine wp_if (fun c_4 => ?_) (fun c_4 => ?_)
        ·
          have h_5 : Rg 0 0 _ := rg_eq1 h_r98 rc_0 c_4 (by decide)
          exact ⟨_, rfl, (rg_w rc_3 (by decide)), h⟩
        ·
          have h_6 : Rg 1 1 _ := rg_ne1 h_r98 rc_0 c_4 (by decide)
          exact s_X0_judgeCall_53 hx1 h3_x1 h4_x1 htt h
      ·
        exact s_X0_judgeCall_53 hx1 h3_x1 h4_x1 htt h
    ·
      have h_7 : Rg 1 4 _ := rg_le1 hx4 hx3 (nlt32 c_1) (by decide)
      have h_8 : Rg 1 4 _ := rg_le2 hx4 hx3 (nlt32 c_1) (by decide)
      refine wp_rq (iR_14_4 h) ?_
      refine wp_pqs (s_X5_isNone (iK_17 h) (rg_w h_7 (by decide)) h) (fun r105 h_r105 => ?_)
      refine wp_if (fun c_9 => ?_) (fun c_9 => ?_)
      ·
        have h_10 : Rg 0 0 _ := rg_eq1 h_r105 rc_0 c_9 (by decide)
        refine wp_nmI (fun y107 e_y107 => ?_)
        have h_y107 : Rg 2 5 y107 := rg_eq e_y107 (rg_add h_7 rc_1 (by decide) : Rg 2 5 _)
        exact ih _ _ _ _ _ hx1 (rg_w h_8 (by decide)) (rg_w h_y107 (by decide)) h3_x1 h4_x1 htt (by rw [e_y107]; exact ms_up h_7 (by decide) hm) h
      ·
        have h_11 : Rg 1 1 _ := rg_ne1 h_r105 rc_0 c_9 (by decide)
        exact ⟨_, rfl, (rg_w rc_2 (by decide)), h⟩
set_option maxRecDepth 100000 in
theorem s_X0_judgeCall {g : gh} {S : sh}  {x1 : Int32} {x2 : Int32} {D : dt} (hx1 : Rg 0 199 x1) (h3_x1 : Rg 0 10 (g.2 3 x1.toNatClampNeg)) (h4_x1 : Rg 0 10 (g.2 4 x1.toNatClampNeg)) (htt : g.1 9 = 0) (h : Inv g S D) : wp (f_X0_judgeCall S 14 x1 x2 D) (fun q => Rg 0 4 q.1 ∧ Inv g S q.2) := by
  unfold f_X0_judgeCall
  refine wp_pqs (s_X0_given ) (fun r109 h_r109 => ?_)
  refine wp_nmI (fun y110 e_y110 => ?_)
  have h_y110 : Rg 1 1 y110 := rg_eq e_y110 rc_1
  exact s_X0_judgeCall_8  LF _ _ _ _ _ hx1 h_r109 (rg_w h_y110 (by decide)) h3_x1 h4_x1 htt (ms_in h_y110 (by decide)) h
set_option maxRecDepth 100000 in
theorem s_X0_goBothWays {g : gh} {S : sh}  {x1 : Int32} {D : dt} (hx1 : Rg 0 199 x1) (h3_x1 : Rg 0 10 (g.2 3 x1.toNatClampNeg)) (h4_x1 : Rg 0 10 (g.2 4 x1.toNatClampNeg)) (htt : g.1 9 = 0) (hfz : g.1 12 = 0) (h : Inv g S D) : wp (f_X0_goBothWays S 14 x1 D) (fun q => Inv g S q.2) := by
  unfold f_X0_goBothWays
  refine wp_rq (iR_14_5 h) ?_
  refine wp_rq (iR_14_4 h) ?_
  refine wp_cqs (s_X5_copyFrom (iK_22 h) (iK_17 h) htt h) (fun _ D31 h_D31 => ?_)
  refine wp_nmI (fun D32 e_D32 => ?_)
  have h_D32 : Inv g S D32 := by rw [e_D32]; exact inv_i14 h_D31 (Or.inl hfz) (rg_top _)
  refine wp_rq (iR_14_0 h_D32) ?_
  refine wp_rq (iR_1_3 h_D32) ?_
  refine wp_ix (in_rg hx1 (iA_5 h_D32) (by decide)) ?_
  refine wp_nmI (fun D42 e_D42 => ?_)
  have h_D42 : Inv g S D42 := by rw [e_D42]; exact inv_l14 h_D32 (Or.inl hfz)
  exact ⟨_, rfl, h_D42⟩
set_option maxRecDepth 100000 in
theorem s_X0_settleBoth_14 {g : gh} {S : sh}  {x1 : Int32} {x2 : Int32} {xs1 : Int32} {xs2 : Int32} {D : dt} (hx2 : Rg 0 1 x2) (hxs2 : Rg 0 1 xs2) (htt : g.1 9 = 0) (h : Inv g S D) : wp (f_X0_settleBoth_14 S 14 x1 x2 17 xs1 xs2 D) (fun q => Inv g S q.2) := by
  unfold f_X0_settleBoth_14
  refine wp_cqs (s_X5_settle (iK_17 h) hxs2 h) (fun _ D15 h_D15 => ?_)
  refine wp_rq (iR_14_5 h_D15) ?_
  refine wp_cqs (s_X5_settle (iK_22 h_D15) hx2 h_D15) (fun _ D21 h_D21 => ?_)
  exact ⟨_, rfl, h_D21⟩
set_option maxRecDepth 100000 in
theorem s_X0_settleBoth {g : gh} {S : sh}  {x1 : Int32} {x2 : Int32} {D : dt} (hx2 : Rg 0 1 x2) (htt : g.1 9 = 0) (h : Inv g S D) : wp (f_X0_settleBoth S 14 x1 x2 D) (fun q => Inv g S q.2) := by
  unfold f_X0_settleBoth
  refine wp_rq (iR_14_4 h) ?_
  refine wp_if (fun c_1 => ?_) (fun c_1 => ?_)
  ·
    have h_2 : Rg 0 0 _ := rg_eq1 hx2 rc_0 c_1 (by decide)
    exact s_X0_settleBoth_14 (rg_w h_2 (by decide)) (rg_w rc_1 (by decide)) htt h
  ·
    have h_3 : Rg 1 1 _ := rg_ne1 hx2 rc_0 c_1 (by decide)
    exact s_X0_settleBoth_14 (rg_w h_3 (by decide)) (rg_w rc_0 (by decide)) htt h
set_option maxRecDepth 100000 in
theorem s_X0_comparesUnsigned_22    : wp (f_X0_comparesUnsigned_22) (fun q => Rg 0 1 q) := by
  unfold f_X0_comparesUnsigned_22
  exact ⟨_, rfl, (rg_w rc_1 (by decide))⟩
set_option maxRecDepth 100000 in
theorem s_X0_comparesUnsigned  {x0 : Int32} (hx0 : Rg 0 15 x0) : wp (f_X0_comparesUnsigned x0) (fun q => Rg 0 1 q) := by
  unfold f_X0_comparesUnsigned
  refine wp_if (fun c_1 => ?_) (fun c_1 => ?_)
  ·
    have h_2 : Rg 2 2 _ := rg_eq1 hx0 rc_2 c_1 (by decide)
    exact s_X0_comparesUnsigned_22 
  ·
    refine wp_if (fun c_3 => ?_) (fun c_3 => ?_)
    ·
      have h_4 : Rg 3 3 _ := rg_eq1 hx0 rc_3 c_3 (by decide)
      exact s_X0_comparesUnsigned_22 
    ·
      refine wp_if (fun c_5 => ?_) (fun c_5 => ?_)
      ·
        have h_6 : Rg 10 10 _ := rg_eq1 hx0 rc_10 c_5 (by decide)
        exact s_X0_comparesUnsigned_22 
      ·
        refine wp_if (fun c_7 => ?_) (fun c_7 => ?_)
        ·
          have h_8 : Rg 11 11 _ := rg_eq1 hx0 rc_11 c_7 (by decide)
          exact s_X0_comparesUnsigned_22 
        ·
          exact ⟨_, rfl, (rg_w rc_0 (by decide))⟩
set_option maxRecDepth 100000 in
theorem s_X0_opposite  {x0 : Int32} (hx0 : Rg 0 15 x0) : wp (f_X0_opposite x0) (fun q => Rg 1 11 q) := by
  unfold f_X0_opposite
  refine wp_if (fun c_1 => ?_) (fun c_1 => ?_)
  ·
    have h_2 : Rg 1 1 _ := rg_eq1 hx0 rc_1 c_1 (by decide)
    exact ⟨_, rfl, (rg_w rc_5 (by decide))⟩
  ·
    refine wp_if (fun c_3 => ?_) (fun c_3 => ?_)
    ·
      have h_4 : Rg 2 2 _ := rg_eq1 hx0 rc_2 c_3 (by decide)
      exact ⟨_, rfl, (rg_w rc_11 (by decide))⟩
    ·
      refine wp_if (fun c_5 => ?_) (fun c_5 => ?_)
      ·
        have h_6 : Rg 3 3 _ := rg_eq1 hx0 rc_3 c_5 (by decide)
        exact ⟨_, rfl, (rg_w rc_10 (by decide))⟩
      ·
        refine wp_if (fun c_7 => ?_) (fun c_7 => ?_)
        ·
          have h_8 : Rg 4 4 _ := rg_eq1 hx0 rc_4 c_7 (by decide)
          exact ⟨_, rfl, (rg_w rc_2 (by decide))⟩
        ·
          refine wp_if (fun c_9 => ?_) (fun c_9 => ?_)
          ·
            have h_10 : Rg 5 5 _ := rg_eq1 hx0 rc_5 c_9 (by decide)
            exact ⟨_, rfl, (rg_w rc_1 (by decide))⟩
          ·
            refine wp_if (fun c_11 => ?_) (fun c_11 => ?_)
            ·
              have h_12 : Rg 6 6 _ := rg_eq1 hx0 rc_6 c_11 (by decide)
              exact ⟨_, rfl, (rg_w rc_2 (by decide))⟩
            ·
              refine wp_if (fun c_13 => ?_) (fun c_13 => ?_)
              ·
                have h_14 : Rg 7 7 _ := rg_eq1 hx0 rc_7 c_13 (by decide)
                exact ⟨_, rfl, (rg_w rc_2 (by decide))⟩
              ·
                refine wp_if (fun c_15 => ?_) (fun c_15 => ?_)
                ·
                  have h_16 : Rg 8 8 _ := rg_eq1 hx0 rc_8 c_15 (by decide)
                  exact ⟨_, rfl, (rg_w rc_2 (by decide))⟩
                ·
                  refine wp_if (fun c_17 => ?_) (fun c_17 => ?_)
                  ·
                    have h_18 : Rg 9 9 _ := rg_eq1 hx0 rc_9 c_17 (by decide)
                    exact ⟨_, rfl, (rg_w rc_2 (by decide))⟩
                  ·
                    refine wp_if (fun c_19 => ?_) (fun c_19 => ?_)
                    ·
                      have h_20 : Rg 10 10 _ := rg_eq1 hx0 rc_10 c_19 (by decide)
                      exact ⟨_, rfl, (rg_w rc_3 (by decide))⟩
                    ·
                      exact ⟨_, rfl, (rg_w rc_2 (by decide))⟩
set_option maxRecDepth 100000 in
theorem s_X0_narrowBoth {g : gh} {S : sh}  {x1 : Int32} {x2 : Int32} {x3 : Int64} {D : dt} (hx1 : Rg 0 10 x1) (hx2 : Rg 0 15 x2) (htt : g.1 9 = 0) (hfz : g.1 12 = 0) (h : Inv g S D) : wp (f_X0_narrowBoth S 14 x1 x2 x3 D) (fun q => Inv g S q.2) := by
  unfold f_X0_narrowBoth
  refine wp_rq (iR_14_6 h) ?_
  refine wp_rq (iR_14_4 h) ?_
  refine wp_rq (iR_17_2 h) ?_
  refine wp_ix (in_rg hx1 (iA_19 h) (by decide)) ?_
  refine wp_rq (iR_14_4 h) ?_
  refine wp_rq (iR_17_3 h) ?_
  refine wp_ix (in_rg hx1 (iA_20 h) (by decide)) ?_
  refine wp_cqs (s_X6_first h) (fun _ D96 h_D96 => ?_)
  refine wp_rq (iR_14_6 h_D96) ?_
  refine wp_pqs (s_X0_opposite hx2) (fun r102 h_r102 => ?_)
  refine wp_cqs (s_X6_narrow (rg_w h_r102 (by decide)) h_D96) (fun r104 D105 q_r104 => ?_)
  obtain ⟨h_r104, h_D105⟩ := q_r104
  refine wp_ck (rg_01 h_r104 (by decide)) ?_
  refine wp_nmI (fun D106 e_D106 => ?_)
  have h_D106 : Inv g S D106 := by rw [e_D106]; exact inv_i14 h_D105 (Or.inl hfz) (rg_top _)
  refine wp_rq (iR_14_4 h_D106) ?_
  refine wp_rq (iR_14_6 h_D106) ?_
  refine wp_rq (iR_14_6 h_D106) ?_
  refine wp_cqs (s_X5_write (iK_17 h_D106) (rg_w hx1 (by decide)) (fun q => absurd q (by decide)) h_D106) (fun _ D121 h_D121 => ?_)
  refine wp_rq (iR_14_6 h_D121) ?_
  refine wp_cqs (s_X6_narrow hx2 h_D121) (fun r127 D128 q_r127 => ?_)
  obtain ⟨h_r127, h_D128⟩ := q_r127
  refine wp_ck (rg_01 h_r127 (by decide)) ?_
  refine wp_nmI (fun D129 e_D129 => ?_)
  have h_D129 : Inv g S D129 := by rw [e_D129]; exact inv_i14 h_D128 (Or.inl hfz) (rg_top _)
  refine wp_rq (iR_14_5 h_D129) ?_
  refine wp_rq (iR_14_6 h_D129) ?_
  refine wp_rq (iR_14_6 h_D129) ?_
  refine wp_cqs (s_X5_write (iK_22 h_D129) (rg_w hx1 (by decide)) (fun q => absurd q (by decide)) h_D129) (fun _ D144 h_D144 => ?_)
  exact ⟨_, rfl, h_D144⟩
set_option maxRecDepth 100000 in
theorem s_X0_changedAbout  {x0 : Int32} (hx0 : Rg 0 15 x0) : wp (f_X0_changedAbout x0) (fun q => Rg 0 15 q) := by
  unfold f_X0_changedAbout
  refine wp_if (fun c_1 => ?_) (fun c_1 => ?_)
  ·
    have h_2 : Rg 2 2 _ := rg_eq1 hx0 rc_2 c_1 (by decide)
    exact ⟨_, rfl, (rg_w rc_10 (by decide))⟩
  ·
    refine wp_if (fun c_3 => ?_) (fun c_3 => ?_)
    ·
      have h_4 : Rg 3 3 _ := rg_eq1 hx0 rc_3 c_3 (by decide)
      exact ⟨_, rfl, (rg_w rc_11 (by decide))⟩
    ·
      refine wp_if (fun c_5 => ?_) (fun c_5 => ?_)
      ·
        have h_6 : Rg 4 4 _ := rg_eq1 hx0 rc_4 c_5 (by decide)
        exact ⟨_, rfl, (rg_w h_6 (by decide))⟩
      ·
        refine wp_if (fun c_7 => ?_) (fun c_7 => ?_)
        ·
          have h_8 : Rg 5 5 _ := rg_eq1 hx0 rc_5 c_7 (by decide)
          exact ⟨_, rfl, (rg_w h_8 (by decide))⟩
        ·
          refine wp_if (fun c_9 => ?_) (fun c_9 => ?_)
          ·
            have h_10 : Rg 6 6 _ := rg_eq1 hx0 rc_6 c_9 (by decide)
            exact ⟨_, rfl, (rg_w h_10 (by decide))⟩
          ·
            refine wp_if (fun c_11 => ?_) (fun c_11 => ?_)
            ·
              have h_12 : Rg 7 7 _ := rg_eq1 hx0 rc_7 c_11 (by decide)
              exact ⟨_, rfl, (rg_w h_12 (by decide))⟩
            ·
              refine wp_if (fun c_13 => ?_) (fun c_13 => ?_)
              ·
                have h_14 : Rg 8 8 _ := rg_eq1 hx0 rc_8 c_13 (by decide)
                exact ⟨_, rfl, (rg_w h_14 (by decide))⟩
              ·
                refine wp_if (fun c_15 => ?_) (fun c_15 => ?_)
                ·
                  have h_16 : Rg 9 9 _ := rg_eq1 hx0 rc_9 c_15 (by decide)
                  exact ⟨_, rfl, (rg_w h_16 (by decide))⟩
                ·
                  refine wp_if (fun c_17 => ?_) (fun c_17 => ?_)
                  ·
                    have h_18 : Rg 10 10 _ := rg_eq1 hx0 rc_10 c_17 (by decide)
                    exact ⟨_, rfl, (rg_w rc_2 (by decide))⟩
                  ·
                    refine wp_if (fun c_19 => ?_) (fun c_19 => ?_)
                    ·
                      have h_20 : Rg 11 11 _ := rg_eq1 hx0 rc_11 c_19 (by decide)
                      exact ⟨_, rfl, (rg_w rc_3 (by decide))⟩
                    ·
                      exact ⟨_, rfl, hx0⟩
set_option maxRecDepth 100000 in
theorem s_X0_judgeBranch_170 {g : gh} {S : sh}  {xs1 : Int32} {xs2 : Int32} {D : dt} (hxs2 : Rg 0 1 xs2) (htt : g.1 9 = 0) (h : Inv g S D) : wp (f_X0_judgeBranch_170 S 14 xs1 xs2 D) (fun q => Rg 0 3 q.1 ∧ Inv g S q.2) := by
  unfold f_X0_judgeBranch_170
  refine wp_cqs (s_X0_settleBoth hxs2 htt h) (fun _ D169 h_D169 => ?_)
  exact ⟨_, rfl, (rg_w rc_0 (by decide)), h_D169⟩
set_option maxRecDepth 100000 in
theorem s_X0_judgeBranch_281 {g : gh} {S : sh}  {xs1 : Int32} {xs2 : Int32} {xs3 : Int64} {D : dt} (hxs1 : Rg 0 10 xs1) (hxs2 : Rg 0 15 xs2) (htt : g.1 9 = 0) (hfz : g.1 12 = 0) (h : Inv g S D) : wp (f_X0_judgeBranch_281 S 14 xs1 xs2 xs3 D) (fun q => Rg 0 3 q.1 ∧ Inv g S q.2) := by
  unfold f_X0_judgeBranch_281
  refine wp_cqs (s_X0_narrowBoth hxs1 hxs2 htt hfz h) (fun _ D171 h_D171 => ?_)
  exact ⟨_, rfl, (rg_w rc_0 (by decide)), h_D171⟩
set_option maxRecDepth 100000 in
theorem s_X0_judgeBranch_250 {g : gh} {S : sh}  {x1 : Int32} {x2 : Int32} {x3 : Int32} {x4 : Int32} {x5 : Int32} {D : dt} (hx1 : Rg 0 199 x1) (hx2 : Rg 0 15 x2) (hx3 : Rg 0 10 x3) (hx4 : Rg 0 10 x4) (hx5 : Rg 0 1 x5) (h3_x1 : Rg 0 10 (g.2 3 x1.toNatClampNeg)) (h4_x1 : Rg 0 10 (g.2 4 x1.toNatClampNeg)) (htt : g.1 9 = 0) (hfz : g.1 12 = 0) (h : Inv g S D) : wp (f_X0_judgeBranch_250 S 14 x1 x2 x3 x4 x5 D) (fun q => Rg 0 3 q.1 ∧ Inv g S q.2) := by
  unfold f_X0_judgeBranch_250
  refine wp_if (fun c_1 => ?_) (fun c_1 => ?_)
  ·
    have h_2 : Rg 0 0 _ := rg_eq1 hx5 rc_0 c_1 (by decide)
    refine wp_rq (iR_14_0 h) ?_
    refine wp_rq (iR_1_4 h) ?_
    refine wp_ix (in_rg hx1 (iA_6 h) (by decide)) ?_
    exact s_X0_judgeBranch_281 hx3 hx2 htt hfz h
  ·
    have h_3 : Rg 1 1 _ := rg_ne1 hx5 rc_0 c_1 (by decide)
    refine wp_rq (iR_14_4 h) ?_
    refine wp_rq (iR_17_2 h) ?_
    refine wp_ix (in_rg hx4 (iA_19 h) (by decide)) ?_
    exact s_X0_judgeBranch_281 hx3 hx2 htt hfz h
set_option maxRecDepth 100000 in
theorem s_X0_judgeBranch_233 {g : gh} {S : sh}  {x1 : Int32} {x2 : Int32} {x3 : Int32} {x4 : Int32} {x5 : Int32} {D : dt} (hx1 : Rg 0 199 x1) (hx2 : Rg 0 15 x2) (hx3 : Rg 0 10 x3) (hx4 : Rg 0 10 x4) (hx5 : Rg 0 1 x5) (h3_x1 : Rg 0 10 (g.2 3 x1.toNatClampNeg)) (h4_x1 : Rg 0 10 (g.2 4 x1.toNatClampNeg)) (htt : g.1 9 = 0) (hfz : g.1 12 = 0) (h : Inv g S D) : wp (f_X0_judgeBranch_233 S 14 x1 x2 x3 x4 x5 D) (fun q => Rg 0 3 q.1 ∧ Inv g S q.2) := by
  unfold f_X0_judgeBranch_233
  refine wp_if (fun c_1 => ?_) (fun c_1 => ?_)
  ·
    have h_2 : Rg 0 0 _ := rg_eq1 hx5 rc_0 c_1 (by decide)
    exact s_X0_judgeBranch_250 hx1 hx2 hx3 hx4 (rg_w h_2 (by decide)) h3_x1 h4_x1 htt hfz h
  ·
    have h_3 : Rg 1 1 _ := rg_ne1 hx5 rc_0 c_1 (by decide)
    refine wp_rq (iR_14_4 h) ?_
    refine wp_pqs (s_X5_isOne hx4 h) (fun r197 h_r197 => ?_)
    refine wp_if (fun c_4 => ?_) (fun c_4 => ?_)
    ·
      have h_5 : Rg 0 0 _ := rg_eq1 h_r197 rc_0 c_4 (by decide)
      refine wp_rq (iR_14_4 h) ?_
      refine wp_pqs (s_X5_isOne hx3 h) (fun r204 h_r204 => ?_)
      refine wp_if (fun c_6 => ?_) (fun c_6 => ?_)
      ·
        have h_7 : Rg 0 0 _ := rg_eq1 h_r204 rc_0 c_6 (by decide)
        exact ⟨_, rfl, (rg_w rc_0 (by decide)), h⟩
      ·
        have h_8 : Rg 1 1 _ := rg_ne1 h_r204 rc_0 c_6 (by decide)
        refine wp_pqs (s_X0_changedAbout hx2) (fun r207 h_r207 => ?_)
        refine wp_rq (iR_14_4 h) ?_
        refine wp_rq (iR_17_2 h) ?_
        refine wp_ix (in_rg hx3 (iA_19 h) (by decide)) ?_
        refine wp_cqs (s_X0_narrowBoth hx4 h_r207 htt hfz h) (fun _ D218 h_D218 => ?_)
        exact ⟨_, rfl, (rg_w rc_0 (by decide)), h_D218⟩
    ·
      have h_9 : Rg 1 1 _ := rg_ne1 h_r197 rc_0 c_4 (by decide)
      exact s_X0_judgeBranch_250 hx1 hx2 hx3 hx4 (rg_w h_3 (by decide)) h3_x1 h4_x1 htt hfz h
set_option maxRecDepth 100000 in
theorem s_X0_judgeBranch_205 {g : gh} {S : sh}  {x1 : Int32} {x2 : Int32} {x3 : Int32} {x4 : Int32} {x5 : Int32} {x6 : Int32} {D : dt} (hx1 : Rg 0 199 x1) (hx2 : Rg 0 15 x2) (hx3 : Rg 0 10 x3) (hx4 : Rg 0 10 x4) (hx5 : Rg 0 1 x5) (hx6 : Rg 0 1 x6) (h3_x1 : Rg 0 10 (g.2 3 x1.toNatClampNeg)) (h4_x1 : Rg 0 10 (g.2 4 x1.toNatClampNeg)) (htt : g.1 9 = 0) (hfz : g.1 12 = 0) (h : Inv g S D) : wp (f_X0_judgeBranch_205 S 14 x1 x2 x3 x4 x5 x6 D) (fun q => Rg 0 3 q.1 ∧ Inv g S q.2) := by
  unfold f_X0_judgeBranch_205
  refine wp_cqs (s_X0_goBothWays hx1 h3_x1 h4_x1 htt hfz h) (fun _ D220 h_D220 => ?_)
  refine wp_rq (iR_14_0 h_D220) ?_
  refine wp_pqs (s_X4_isWide hx1 h_D220) (fun r226 h_r226 => ?_)
  refine wp_if (fun c_1 => ?_) (fun c_1 => ?_)
  ·
    have h_2 : Rg 0 0 _ := rg_eq1 h_r226 rc_0 c_1 (by decide)
    exact ⟨_, rfl, (rg_w rc_0 (by decide)), h_D220⟩
  ·
    have h_3 : Rg 1 1 _ := rg_ne1 h_r226 rc_0 c_1 (by decide)
    refine wp_if (fun c_4 => ?_) (fun c_4 => ?_)
    ·
      have h_5 : Rg 0 0 _ := rg_eq1 hx6 rc_0 c_4 (by decide)
      refine wp_pqs (s_X0_comparesUnsigned hx2) (fun r230 h_r230 => ?_)
      refine wp_if (fun c_6 => ?_) (fun c_6 => ?_)
      ·
        have h_7 : Rg 0 0 _ := rg_eq1 h_r230 rc_0 c_6 (by decide)
        exact ⟨_, rfl, (rg_w rc_0 (by decide)), h_D220⟩
      ·
        have h_8 : Rg 1 1 _ := rg_ne1 h_r230 rc_0 c_6 (by decide)
        exact s_X0_judgeBranch_233 hx1 hx2 hx3 hx4 hx5 h3_x1 h4_x1 htt hfz h_D220
    ·
      have h_9 : Rg 1 1 _ := rg_ne1 hx6 rc_0 c_4 (by decide)
      exact s_X0_judgeBranch_233 hx1 hx2 hx3 hx4 hx5 h3_x1 h4_x1 htt hfz h_D220
set_option maxRecDepth 100000 in
theorem s_X0_judgeBranch_175 {g : gh} {S : sh}  {x1 : Int32} {x2 : Int32} {x3 : Int32} {x4 : Int32} {x5 : Int32} {x6 : Int32} {D : dt} (hx1 : Rg 0 199 x1) (hx2 : Rg 0 15 x2) (hx3 : Rg 0 10 x3) (hx4 : Rg 0 10 x4) (hx5 : Rg 0 1 x5) (hx6 : Rg 0 1 x6) (h3_x1 : Rg 0 10 (g.2 3 x1.toNatClampNeg)) (h4_x1 : Rg 0 10 (g.2 4 x1.toNatClampNeg)) (htt : g.1 9 = 0) (hfz : g.1 12 = 0) (h : Inv g S D) : wp (f_X0_judgeBranch_175 S 14 x1 x2 x3 x4 x5 x6 D) (fun q => Rg 0 3 q.1 ∧ Inv g S q.2) := by
  unfold f_X0_judgeBranch_175
  refine wp_rq (iR_14_4 h) ?_
  refine wp_pqs (s_X5_isNumber (iK_17 h) (rg_w hx3 (by decide)) h) (fun r237 h_r237 => ?_)
  refine wp_if (fun c_1 => ?_) (fun c_1 => ?_)
  ·
    have h_2 : Rg 0 0 _ := rg_eq1 h_r237 rc_0 c_1 (by decide)
    exact ⟨_, rfl, (rg_w rc_3 (by decide)), h⟩
  ·
    have h_3 : Rg 1 1 _ := rg_ne1 h_r237 rc_0 c_1 (by decide)
    refine wp_if (fun c_4 => ?_) (fun c_4 => ?_)
    ·
      have h_5 : Rg 0 0 _ := rg_eq1 hx5 rc_0 c_4 (by decide)
      exact s_X0_judgeBranch_205 hx1 hx2 hx3 hx4 (rg_w h_5 (by decide)) hx6 h3_x1 h4_x1 htt hfz h
    ·
      have h_6 : Rg 1 1 _ := rg_ne1 hx5 rc_0 c_4 (by decide)
      refine wp_rq (iR_14_4 h) ?_
      refine wp_pqs (s_X5_isNumber (iK_17 h) (rg_w hx4 (by decide)) h) (fun r245 h_r245 => ?_)
      refine wp_if (fun c_7 => ?_) (fun c_7 => ?_)
      ·
        have h_8 : Rg 0 0 _ := rg_eq1 h_r245 rc_0 c_7 (by decide)
        exact ⟨_, rfl, (rg_w rc_3 (by decide)), h⟩
      ·
        have h_9 : Rg 1 1 _ := rg_ne1 h_r245 rc_0 c_7 (by decide)
        exact s_X0_judgeBranch_205 hx1 hx2 hx3 hx4 (rg_w h_6 (by decide)) hx6 h3_x1 h4_x1 htt hfz h
set_option maxRecDepth 100000 in
theorem s_X0_judgeBranch_109 {g : gh} {S : sh}  {x1 : Int32} {x2 : Int32} {x3 : Int32} {x4 : Int32} {x5 : Int32} {x6 : Int32} {xs0 : Int32} {D : dt} (hx1 : Rg 0 199 x1) (hx2 : Rg 0 15 x2) (hx3 : Rg 0 10 x3) (hx4 : Rg 0 10 x4) (hx5 : Rg 0 1 x5) (hx6 : Rg 0 1 x6) (hxs0 : Rg 0 1 xs0) (h3_x1 : Rg 0 10 (g.2 3 x1.toNatClampNeg)) (h4_x1 : Rg 0 10 (g.2 4 x1.toNatClampNeg)) (htt : g.1 9 = 0) (hfz : g.1 12 = 0) (h : Inv g S D) : wp (f_X0_judgeBranch_109 S 14 x1 x2 x3 x4 x5 x6 xs0 D) (fun q => Rg 0 3 q.1 ∧ Inv g S q.2) := by
  unfold f_X0_judgeBranch_109
  refine wp_rq (iR_14_4 h) ?_
  refine wp_pqs (s_X5_kind (iK_17 h) (rg_w hx3 (by decide)) h) (fun r252 q_r252 => ?_)
  obtain ⟨h_r252, p_r252⟩ := q_r252
  refine wp_if (fun c_1 => ?_) (fun c_1 => ?_)
  ·
    have h_2 : Rg 6 6 _ := rg_eq1 h_r252 rc_6 c_1 (by decide)
    refine wp_if (fun c_3 => ?_) (fun c_3 => ?_)
    ·
      have h_4 : Rg 0 0 _ := rg_eq1 hx6 rc_0 c_3 (by decide)
      exact s_X0_judgeBranch_175 hx1 hx2 hx3 hx4 hx5 (rg_w h_4 (by decide)) h3_x1 h4_x1 htt hfz h
    ·
      have h_5 : Rg 1 1 _ := rg_ne1 hx6 rc_0 c_3 (by decide)
      refine wp_if (fun c_6 => ?_) (fun c_6 => ?_)
      ·
        have h_7 : Rg 0 0 _ := rg_eq1 hxs0 rc_0 c_6 (by decide)
        exact s_X0_judgeBranch_175 hx1 hx2 hx3 hx4 hx5 (rg_w h_5 (by decide)) h3_x1 h4_x1 htt hfz h
      ·
        have h_8 : Rg 1 1 _ := rg_ne1 hxs0 rc_0 c_6 (by decide)
        refine wp_rq (iR_14_0 h) ?_
        refine wp_pqs (s_X4_isWide hx1 h) (fun r261 h_r261 => ?_)
        refine wp_if (fun c_9 => ?_) (fun c_9 => ?_)
        ·
          have h_10 : Rg 0 0 _ := rg_eq1 h_r261 rc_0 c_9 (by decide)
          exact s_X0_judgeBranch_175 hx1 hx2 hx3 hx4 hx5 (rg_w h_5 (by decide)) h3_x1 h4_x1 htt hfz h
        ·
          have h_11 : Rg 1 1 _ := rg_ne1 h_r261 rc_0 c_9 (by decide)
          refine wp_cqs (s_X0_goBothWays hx1 h3_x1 h4_x1 htt hfz h) (fun _ D264 h_D264 => ?_)
          refine wp_rq (iR_14_4 h_D264) ?_
          refine wp_rq (iR_17_1 h_D264) ?_
          refine wp_ix (in_rg hx3 (iA_18 h_D264) (by decide)) ?_
          refine wp_if (fun c_12 => ?_) (fun c_12 => ?_)
          ·
            have h_13 : Rg 1 1 _ := rg_eq1 hx2 rc_1 c_12 (by decide)
            exact s_X0_judgeBranch_170 (rg_w rc_1 (by decide)) htt h_D264
          ·
            exact s_X0_judgeBranch_170 (rg_w rc_0 (by decide)) htt h_D264
  ·
    exact s_X0_judgeBranch_175 hx1 hx2 hx3 hx4 hx5 hx6 h3_x1 h4_x1 htt hfz h
set_option maxRecDepth 100000 in
theorem s_X0_judgeBranch_108 {g : gh} {S : sh}  {x1 : Int32} {x2 : Int32} {x3 : Int32} {x4 : Int32} {x5 : Int32} {x6 : Int32} {D : dt} (hx1 : Rg 0 199 x1) (hx2 : Rg 0 15 x2) (hx3 : Rg 0 10 x3) (hx4 : Rg 0 10 x4) (hx5 : Rg 0 1 x5) (hx6 : Rg 0 1 x6) (h3_x1 : Rg 0 10 (g.2 3 x1.toNatClampNeg)) (h4_x1 : Rg 0 10 (g.2 4 x1.toNatClampNeg)) (htt : g.1 9 = 0) (hfz : g.1 12 = 0) (h : Inv g S D) : wp (f_X0_judgeBranch_108 S 14 x1 x2 x3 x4 x5 x6 D) (fun q => Rg 0 3 q.1 ∧ Inv g S q.2) := by
  unfold f_X0_judgeBranch_108
  exact s_X0_judgeBranch_109 hx1 hx2 hx3 hx4 hx5 hx6 (rg_w rc_0 (by decide)) h3_x1 h4_x1 htt hfz h
set_option maxRecDepth 100000 in
theorem s_X0_judgeBranch_85 {g : gh} {S : sh}  {x1 : Int32} {x2 : Int32} {x3 : Int32} {x4 : Int32} {x5 : Int32} {xs0 : Int32} {D : dt} (hx1 : Rg 0 199 x1) (hx2 : Rg 0 15 x2) (hx3 : Rg 0 10 x3) (hx4 : Rg 0 10 x4) (hx5 : Rg 0 1 x5) (hxs0 : Rg 0 1 xs0) (h3_x1 : Rg 0 10 (g.2 3 x1.toNatClampNeg)) (h4_x1 : Rg 0 10 (g.2 4 x1.toNatClampNeg)) (htt : g.1 9 = 0) (hfz : g.1 12 = 0) (h : Inv g S D) : wp (f_X0_judgeBranch_85 S 14 x1 x2 x3 x4 x5 xs0 D) (fun q => Rg 0 3 q.1 ∧ Inv g S q.2) := by
  unfold f_X0_judgeBranch_85
  refine wp_if (fun c_1 => ?_) (fun c_1 => ?_)
  ·
    have h_2 : Rg 0 0 _ := rg_eq1 hx5 rc_0 c_1 (by decide)
    refine wp_rq (iR_14_0 h) ?_
    refine wp_rq (iR_1_4 h) ?_
    refine wp_ix (in_rg hx1 (iA_6 h) (by decide)) ?_
    refine wp_if (fun c_3 => ?_) (fun c_3 => ?_)
    ·
      have h_4 : Rg 0 0 _ := rg_eq1 (rg_top _) rc_0 c_3 (by decide)
      exact s_X0_judgeBranch_109 hx1 hx2 hx3 hx4 (rg_w h_2 (by decide)) hxs0 (rg_w rc_1 (by decide)) h3_x1 h4_x1 htt hfz h
    ·
      exact s_X0_judgeBranch_108 hx1 hx2 hx3 hx4 (rg_w h_2 (by decide)) hxs0 h3_x1 h4_x1 htt hfz h
  ·
    have h_5 : Rg 1 1 _ := rg_ne1 hx5 rc_0 c_1 (by decide)
    exact s_X0_judgeBranch_108 hx1 hx2 hx3 hx4 (rg_w h_5 (by decide)) hxs0 h3_x1 h4_x1 htt hfz h
set_option maxRecDepth 100000 in
theorem s_X0_judgeBranch_80 {g : gh} {S : sh}  {x1 : Int32} {x2 : Int32} {x3 : Int32} {x4 : Int32} {x5 : Int32} {D : dt} (hx1 : Rg 0 199 x1) (hx2 : Rg 1 5 x2) (hx3 : Rg 0 10 x3) (hx4 : Rg 0 10 x4) (hx5 : Rg 0 1 x5) (h3_x1 : Rg 0 10 (g.2 3 x1.toNatClampNeg)) (h4_x1 : Rg 0 10 (g.2 4 x1.toNatClampNeg)) (htt : g.1 9 = 0) (hfz : g.1 12 = 0) (h : Inv g S D) : wp (f_X0_judgeBranch_80 S 14 x1 x2 x3 x4 x5 D) (fun q => Rg 0 3 q.1 ∧ Inv g S q.2) := by
  unfold f_X0_judgeBranch_80
  exact s_X0_judgeBranch_85 hx1 (rg_w hx2 (by decide)) hx3 hx4 hx5 (rg_w rc_1 (by decide)) h3_x1 h4_x1 htt hfz h
set_option maxRecDepth 100000 in
theorem s_X0_judgeBranch_70 {g : gh} {S : sh}  {x1 : Int32} {x2 : Int32} {x3 : Int32} {x4 : Int32} {x5 : Int32} {D : dt} (hx1 : Rg 0 199 x1) (hx2 : Rg 0 15 x2) (hx3 : Rg 0 10 x3) (hx4 : Rg 0 10 x4) (hx5 : Rg 0 1 x5) (h3_x1 : Rg 0 10 (g.2 3 x1.toNatClampNeg)) (h4_x1 : Rg 0 10 (g.2 4 x1.toNatClampNeg)) (htt : g.1 9 = 0) (hfz : g.1 12 = 0) (h : Inv g S D) : wp (f_X0_judgeBranch_70 S 14 x1 x2 x3 x4 x5 D) (fun q => Rg 0 3 q.1 ∧ Inv g S q.2) := by
  unfold f_X0_judgeBranch_70
  refine wp_if (fun c_1 => ?_) (fun c_1 => ?_)
  ·
    have h_2 : Rg 1 1 _ := rg_eq1 hx2 rc_1 c_1 (by decide)
    exact s_X0_judgeBranch_80 hx1 (rg_w h_2 (by decide)) hx3 hx4 hx5 h3_x1 h4_x1 htt hfz h
  ·
    refine wp_if (fun c_3 => ?_) (fun c_3 => ?_)
    ·
      have h_4 : Rg 5 5 _ := rg_eq1 hx2 rc_5 c_3 (by decide)
      exact s_X0_judgeBranch_80 hx1 (rg_w h_4 (by decide)) hx3 hx4 hx5 h3_x1 h4_x1 htt hfz h
    ·
      exact s_X0_judgeBranch_85 hx1 hx2 hx3 hx4 hx5 (rg_w rc_0 (by decide)) h3_x1 h4_x1 htt hfz h
set_option maxRecDepth 100000 in
theorem s_X0_judgeBranch {g : gh} {S : sh}  {x1 : Int32} {D : dt} (hx1 : Rg 0 199 x1) (h3_x1 : Rg 0 10 (g.2 3 x1.toNatClampNeg)) (h4_x1 : Rg 0 10 (g.2 4 x1.toNatClampNeg)) (htt : g.1 9 = 0) (hfz : g.1 12 = 0) (h : Inv g S D) : wp (f_X0_judgeBranch S 14 x1 D) (fun q => Rg 0 3 q.1 ∧ Inv g S q.2) := by
  unfold f_X0_judgeBranch
  refine wp_rq (iR_14_0 h) ?_
  refine wp_pqs (s_X4_code hx1 h) (fun r293 q_r293 => ?_)
  obtain ⟨h_r293, p_r293⟩ := q_r293
  refine wp_rq (iR_14_0 h) ?_
  refine wp_rq (iR_1_1 h) ?_
  refine wp_ix (in_rg hx1 (iA_3 h) (by decide)) ?_
  refine wp_nmI (fun y303 e_y303 => ?_)
  have h_y303 : Rg 0 10 y303 := rg_eq e_y303 (rg_eq (h.p 3 _ rfl) h3_x1)
  refine wp_rq (iR_14_0 h) ?_
  refine wp_rq (iR_1_2 h) ?_
  refine wp_ix (in_rg hx1 (iA_4 h) (by decide)) ?_
  refine wp_nmI (fun y313 e_y313 => ?_)
  have h_y313 : Rg 0 10 y313 := rg_eq e_y313 (rg_eq (h.p 4 _ rfl) h4_x1)
  refine wp_rq (iR_14_0 h) ?_
  refine wp_pqs (s_X4_byRegister hx1 h) (fun r319 h_r319 => ?_)
  refine wp_rq (iR_14_4 h) ?_
  refine wp_pqs (s_X5_isNone (iK_17 h) (rg_w h_y303 (by decide)) h) (fun r325 h_r325 => ?_)
  refine wp_if (fun c_1 => ?_) (fun c_1 => ?_)
  ·
    have h_2 : Rg 0 0 _ := rg_eq1 h_r325 rc_0 c_1 (by decide)
    refine wp_if (fun c_3 => ?_) (fun c_3 => ?_)
    ·
      have h_4 : Rg 0 0 _ := rg_eq1 h_r319 rc_0 c_3 (by decide)
      exact s_X0_judgeBranch_70 hx1 h_r293 h_y303 h_y313 (rg_w h_4 (by decide)) h3_x1 h4_x1 htt hfz h
    ·
      have h_5 : Rg 1 1 _ := rg_ne1 h_r319 rc_0 c_3 (by decide)
      refine wp_rq (iR_14_4 h) ?_
      refine wp_pqs (s_X5_isNone (iK_17 h) (rg_w h_y313 (by decide)) h) (fun r333 h_r333 => ?_)
      refine wp_if (fun c_6 => ?_) (fun c_6 => ?_)
      ·
        have h_7 : Rg 0 0 _ := rg_eq1 h_r333 rc_0 c_6 (by decide)
        exact s_X0_judgeBranch_70 hx1 h_r293 h_y303 h_y313 (rg_w h_5 (by decide)) h3_x1 h4_x1 htt hfz h
      ·
        have h_8 : Rg 1 1 _ := rg_ne1 h_r333 rc_0 c_6 (by decide)
        exact ⟨_, rfl, (rg_w rc_2 (by decide)), h⟩
  ·
    have h_9 : Rg 1 1 _ := rg_ne1 h_r325 rc_0 c_1 (by decide)
    exact ⟨_, rfl, (rg_w rc_2 (by decide)), h⟩
