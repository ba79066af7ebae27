def S00 : sh := (0, 0, fun _ => 0, fun _ => 0)
def D00 : dt := (fun _ _ => 0, fun _ _ => 0, fun _ _ => none)
set_option maxHeartbeats 4000000 in
set_option maxRecDepth 100000 in
/-- the law's mirror answers 1 within the room: then the law does -/
theorem start_of {p : Program} {e : Env} {s : State} {m : MethodId} {below : List Frame} {meth : Method} {c : Code} (l : Launch) {b L : Nat} {xs : Nat → Int32} {S' : sh} {D' : dt} (C0 : lw_At p s m meth c b L xs) (h : f_law xs L S00 D00 = some (1, S', D')) (ho : sN S' ≤ 600000 ∧ sZ S' ≤ 7302250) : W p l e room_1 s m #[Value.ref b] below meth c s.heap [] 0 0 (lw_Z below #[Value.ref b] s) (entryFrame m ([Value.ref b] : List Value).toArray 4) := by
  obtain ⟨hx, hb, hr, hml, hown, hts, hX, hbl, hlocks, hgv⟩ := id C0
  have htb : ∀ w ∈ tb0, w.before #[Value.ref b] s = true := fun w hw => hts w (List.mem_filter.mp hw).1
  have hC : Cx RL cL_law 4 ret p s m #[Value.ref b] meth c := ⟨hx, hb, hml, hown, htb, hr, hlocks⟩
  have hbA : ¬ (fun q : Nat => s.heap.size ≤ q) b := Nat.not_le.mpr hbl
  obtain ⟨c0, i0, hK0⟩ := u_known (C := RX0) (T := TX0) (N := 12) (n := 12) htb kc_0.2.2.1 (htb _ lk_251)
  obtain ⟨c1, i1, hK1⟩ := u_known (C := RX1) (T := TX1) (N := 8) (n := 8) htb kc_1.2.2.1 (htb _ lk_214)
  obtain ⟨c2, i2, hK2⟩ := u_known (C := RX2) (T := TX2) (N := 8) (n := 8) htb kc_2.2.2.1 (htb _ lk_174)
  obtain ⟨c3, i3, hK3⟩ := u_known (C := RX4) (T := TX4) (N := 6) (n := 6) htb kc_3.2.2.1 (htb _ lk_136)
  obtain ⟨c4, i4, hK4⟩ := u_known (C := RX5) (T := TX5) (N := 6) (n := 6) htb kc_4.2.2.1 (htb _ lk_258)
  obtain ⟨c5, i5, hK5⟩ := u_known (C := RX6) (T := TX6) (N := 7) (n := 7) htb kc_5.2.2.1 (htb _ lk_288)
  obtain ⟨c6, i6, hK6⟩ := u_known (C := RX7) (T := TX7) (N := 7) (n := 7) htb kc_6.2.2.1 (htb _ lk_397)
  obtain ⟨c7, i7, hK7⟩ := u_known (C := RX8) (T := TX8) (N := 4) (n := 4) htb kc_7.2.2.1 (htb _ lk_128)
  obtain ⟨c8, i8, hK8⟩ := u_known (C := RX9) (T := TX9) (N := 54) (n := 54) htb kc_8.2.2.1 (htb _ lk_1066)
  obtain ⟨dC, dI, hKc⟩ : ∃ (dC : Nat → ClassId) (dI : Nat → Nat → Nat), ∀ (k : Nat) (q : vw_C), vwCl[k]? = some q → u_Kn s q.1 q.2.1 q.2.2 (dC k) (dI k) := by
    refine ⟨fun k => if k = 0 then c0 else if k = 1 then c1 else if k = 2 then c2 else if k = 3 then c3 else if k = 4 then c4 else if k = 5 then c5 else if k = 6 then c6 else if k = 7 then c7 else c8, fun k => if k = 0 then i0 else if k = 1 then i1 else if k = 2 then i2 else if k = 3 then i3 else if k = 4 then i4 else if k = 5 then i5 else if k = 6 then i6 else if k = 7 then i7 else i8, ?_⟩
    intro k q hq
    match k, hq with
    | 0, hq => cases hq; exact hK0
    | 1, hq => cases hq; exact hK1
    | 2, hq => cases hq; exact hK2
    | 3, hq => cases hq; exact hK3
    | 4, hq => cases hq; exact hK4
    | 5, hq => cases hq; exact hK5
    | 6, hq => cases hq; exact hK6
    | 7, hq => cases hq; exact hK7
    | 8, hq => cases hq; exact hK8
    | k + 9, hq => simp [vwCl] at hq
  obtain ⟨a100, k100, m100, f100, g100, j100⟩ := Cond.arrayClass_spec (htb _ lk_172)
  obtain ⟨a101, k101, m101, f101, g101, j101⟩ := Cond.arrayClass_spec (htb _ lk_249)
  obtain ⟨a102, k102, m102, f102, g102, j102⟩ := Cond.arrayClass_spec (htb _ lk_212)
  obtain ⟨a103, k103, m103, f103, g103, j103⟩ := Cond.arrayClass_spec (htb _ lk_286)
  have v204 := hts (Cond.arrayOver (.object "JudgedCode$Scene")) (List.mem_of_getElem? (i := 257) (by decide +kernel))
  obtain ⟨m204, a204, k204, u204, w204, g204, j204, f204⟩ := Cond.arrayOver_spec v204
  have v206 := hts (Cond.arrayOver (.object "JudgedCode$Table")) (List.mem_of_getElem? (i := 180) (by decide +kernel))
  obtain ⟨m206, a206, k206, u206, w206, g206, j206, f206⟩ := Cond.arrayOver_spec v206
  obtain ⟨cA, e100, e101, e102, e103, e204, e206⟩ : ∃ cA : Nat → ClassId, cA 100 = a100 ∧ cA 101 = a101 ∧ cA 102 = a102 ∧ cA 103 = a103 ∧ cA 204 = a204 ∧ cA 206 = a206 := ⟨fun k => if k = 100 then a100 else if k = 101 then a101 else if k = 102 then a102 else if k = 103 then a103 else if k = 204 then a204 else a206, rfl, rfl, rfl, rfl, rfl, rfl⟩
  have hK : va_K (dC, dI) vwCl (tysOf cA) s := by
    refine ⟨hKc, fun k q hq => ?_⟩
    match k, hq with
    | 0, hq => cases hq; exact ⟨by rw [e100]; exact fun n z => ⟨fun k h => (by cases h), k100, g100, m100, j100⟩, by rw [e100]; exact f100⟩
    | 1, hq => cases hq; exact ⟨by rw [e101]; exact fun n z => ⟨fun k h => (by cases h), k101, g101, m101, j101⟩, by rw [e101]; exact f101⟩
    | 2, hq => cases hq; exact ⟨by rw [e102]; exact fun n z => ⟨fun k h => (by cases h), k102, g102, m102, j102⟩, by rw [e102]; exact f102⟩
    | 3, hq => cases hq; exact ⟨by rw [e103]; exact fun n z => ⟨fun k h => (by cases h), k103, g103, m103, j103⟩, by rw [e103]; exact f103⟩
    | 4, hq => cases hq; exact ⟨by rw [e204]; exact fun n z => ⟨fun k h => (by cases h), k204, g204, m204, j204⟩, by rw [e204]; exact ⟨k204, m204, g204, j204, u204, f204⟩⟩
    | 5, hq => cases hq; exact ⟨by rw [e206]; exact fun n z => ⟨fun k h => (by cases h), k206, g206, m206, j206⟩, by rw [e206]; exact ⟨k206, m206, g206, j206, u206, f206⟩⟩
    | k + 6, hq => simp [tysOf] at hq
  have hXw : Xw s := ⟨va_Nw.of rfl (hts (.methodLinkNest "JudgedCode" 9 ⟨"JudgedCode$Program", "<init>", "()V"⟩ "JudgedCode") (List.mem_of_getElem? (i := 137) (by decide +kernel))), va_Nw.of rfl (hts (.methodLinkNest "JudgedCode" 18 ⟨"JudgedCode$Memory", "<init>", "()V"⟩ "JudgedCode") (List.mem_of_getElem? (i := 175) (by decide +kernel))), va_Nw.of rfl (hts (.methodLinkNest "JudgedCode$Judge" 21 ⟨"JudgedCode$Scene", "<init>", "()V"⟩ "JudgedCode") (List.mem_of_getElem? (i := 259) (by decide +kernel))), va_Nw.of rfl (hts (.methodLinkNest "JudgedCode$Judge" 31 ⟨"JudgedCode$Span", "<init>", "()V"⟩ "JudgedCode") (List.mem_of_getElem? (i := 289) (by decide +kernel))), va_AO.of v206, va_AO.of v204⟩
  have hw : Wd (dC, dI) cA S00 D00 (fun _ => 0) (fun q => s.heap.size ≤ q) s s.heap [] := ⟨fun k q h => by simp [cls, S00, sN] at h, hK, ⟨fun i j p q h => by simp [cls, S00, sN] at h, fun k q h => by simp [cls, S00, sN] at h⟩, va_S.rf, fun _ h => h, fun k j o hk => absurd hk (Nat.not_lt_zero _), hXw⟩
  have hl := lv_entry ([.ref b]) (n := 4) (Nat.le_of_ble_eq_true rfl)
  rw [lg_entry_eq]
  exact w_law_0 hC hX hbl hbA (S0 := S00) (ad0 := fun _ => 0) ⟨Nat.le_trans (Nat.sub_le _ _) ho.1, Nat.le_trans (Nat.sub_le _ _) ho.2⟩ S00 D00 (fun _ => 0) _ _ _ 0 0 hw (Al.rf _ _) hl h
