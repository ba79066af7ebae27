theorem l_shr (a s : Int64) (k : Nat) (hs : (s.toBitVec.smod 64).toNat = k) : (a >>> s).toInt = a.toInt >>> k := by
  show (a.toBitVec.sshiftRight (s.toBitVec.smod 64).toNat).toInt = _
  rw [hs, BitVec.toInt_sshiftRight]
  rfl
theorem rR {D : dt} {o j a b : Nat} {x v : Option Nat} (hn : ¬ (a = o ∧ b = j)) (h : gR D a b = v) : gR (pR D o j x) a b = v := by rw [gR_pR, if_neg hn]; exact h
theorem rR1 {D : dt} {o j : Nat} {x : Option Nat} : gR (pR D o j x) o j = x := by rw [gR_pR, if_pos ⟨rfl, rfl⟩]
theorem iI1 {D : dt} {o j : Nat} {x : Int32} : gI (pI D o j x) o j = x := by rw [gI_pI, if_pos ⟨rfl, rfl⟩]
def onStk (a : Int64) : Prop := 8589934080 ≤ a.toInt ∧ a.toInt ≤ 8589934591
set_option maxHeartbeats 8000000 in
theorem c_octet (a : Int64) : wp (f_X8_octet SM 0 a DM) (fun q => ((onStk a → q.1 = 0) ∧ (¬ onStk a → q.1 = -1)) ∧ Ag q.2) := by
  have k35 : (34359738368 : Int64).toInt = 34359738368 := by decide
  have kS : (8589934080 : Int64).toInt = 8589934080 := by decide
  have kC : (4294967296 : Int64).toInt = 4294967296 := by decide
  have k0 : (0 : Int64).toInt = 0 := by decide
  have k511 : ((512 : Int32) - 1).toInt64.toInt = 511 := by decide
  have km1 : ((0 : Int32) - 1).toInt64.toInt = -1 := by decide
  have a1 := i64_lo a
  have a2 := i64_hi a
  have b1 := i64_lo (a - 8589934080)
  have b2 := i64_hi (a - 8589934080)
  unfold f_X8_octet
  refine wp_rq r0_1 (wp_cq ?_)
  unfold f_X2_find
  refine wp_if (fun h => wp_nm (wp_if (fun h2 => ?_) (fun h2 => ?_))) (fun h => ?_)
  · -- below the stack
    have h2' := Int64.lt_iff_toInt_lt.mp ((lg_cmp_lt _ _).mp h2)
    have hn : ¬ onStk a := fun q => by
      unfold onStk at q
      rcases i64_sub a 8589934080 with e | e | e <;> rw [e, kS, k0] at h2' <;> omega
    refine wp_if (fun _ => wp_rq r7_0 (wp_cq ?_)) (fun q => absurd rfl q)
    unfold f_X2_findIn
    rw [i7_1]
    refine wp_if (fun _ => wp_some ?_) (fun h3 => wp_if (fun h4 => ?_) (fun _ => wp_some ?_))
    · exact wp_if (fun _ => wp_some (wp_if (fun _ => wp_some ⟨⟨fun q => absurd q hn, fun _ => rfl⟩, Ag.rf⟩) (fun q => absurd rfl q))) (fun q => absurd rfl q)
    · have h3' : ¬ (a - 4294967296).toInt < (0 : Int64).toInt := fun z => h3 ((lg_cmp_lt _ _).mpr (Int64.lt_iff_toInt_lt.mpr z))
      have h4' := Int64.le_iff_toInt_le.mp ((lg_cmp_le _ _).mp h4)
      rw [km1] at h4'
      omega
    · exact wp_if (fun _ => wp_some (wp_if (fun _ => wp_some ⟨⟨fun q => absurd q hn, fun _ => rfl⟩, Ag.rf⟩) (fun q => absurd rfl q))) (fun q => absurd rfl q)
  · have h1' := Int64.lt_iff_toInt_lt.mp ((lg_cmp_lt _ _).mp h)
    have h2' : ¬ (a - 8589934080).toInt < (0 : Int64).toInt := fun z => h2 ((lg_cmp_lt _ _).mpr (Int64.lt_iff_toInt_lt.mpr z))
    refine wp_rq r7_2 (wp_cq ?_)
    unfold f_X2_findIn
    refine wp_if (fun q => absurd q h2) (fun _ => wp_if (fun h4 => ?_) (fun h4 => ?_))
    · have h4' := Int64.le_iff_toInt_le.mp ((lg_cmp_le _ _).mp h4)
      rw [k511] at h4'
      have hs : onStk a := by
        unfold onStk
        rcases i64_sub a 8589934080 with e | e | e <;> rw [e, kS] at h4' h2' <;> omega
      have hy : (a - 8589934080).toInt = a.toInt - 8589934080 := by
        rcases i64_sub a 8589934080 with e | e | e <;> rw [e, kS] at h4' h2' ⊢ <;> omega
      have hy32 : (a - 8589934080).toInt32.toInt = a.toInt - 8589934080 := by
        rw [Int64.toInt_toInt32, hy]
        unfold onStk at hs
        unfold Int.bmod
        simp only
        split <;> omega
      refine wp_nm (wp_nm (wp_some (wp_ck (Or.inr rfl) (wp_some (wp_if (fun q => absurd (show (1 : Int32) = 0 from q) (by decide)) (fun _ => wp_rq (rI (rR (by decide) r0_1)) (wp_pq ?_)))))))
      unfold f_X2_foundNumber
      refine wp_nm (wp_nm ?_)
      show wp (f_X2_foundNumber_7 SM _ (19998 + 1 + 1) 7 0 (1 - 1)) _
      rw [f_X2_foundNumber_7.eq_2]
      refine wp_if (fun q => absurd q (by decide)) (fun _ => wp_rq (rI rR1) (wp_ix ?_ (wp_nm (wp_nm ?_))))
      · rw [l_9, vp_in_iff, iI1, show ((1 : Int32) - 1) = 0 from rfl, Int32.add_zero, hy32]
        unfold onStk at hs
        omega
      · rw [f_X2_foundNumber_7.eq_2]
        refine wp_if (fun _ => wp_some (wp_some ⟨⟨fun _ => ?_, fun q => absurd hs q⟩, ?_⟩)) (fun q => absurd (by decide) q)
        · rw [gI_pI, if_neg (fun z => absurd z.1 (by decide)), gI_pR, z_9]
          rfl
        · exact (Ag.rf.pR (by decide)).pI (by decide)
    · have h4' : ¬ (a - 8589934080).toInt ≤ 511 := fun z => h4 ((lg_cmp_le _ _).mpr (Int64.le_iff_toInt_le.mpr (by rw [k511]; exact z)))
      have hn : ¬ onStk a := fun q => by
        unfold onStk at q
        rcases i64_sub a 8589934080 with e | e | e <;> rw [e, kS] at h4' <;> omega
      exact wp_some (wp_ck (Or.inl rfl) (wp_some (wp_if (fun _ => wp_some ⟨⟨fun q => absurd q hn, fun _ => rfl⟩, Ag.rf⟩) (fun q => absurd rfl q))))
  · have h1' : ¬ a.toInt < (34359738368 : Int64).toInt := fun z => h ((lg_cmp_lt _ _).mpr (Int64.lt_iff_toInt_lt.mpr z))
    have hn : ¬ onStk a := fun q => by
      unfold onStk at q
      omega
    refine wp_cq ?_
    unfold f_X2_findValue
    rw [i7_4]
    refine wp_nm (wp_if (fun _ => ?_) (fun q => absurd ?_ q))
    · unfold f_X2_findValue_28
      exact wp_oq (fun _ => wp_nm (wp_nm (wp_some (wp_ck (Or.inl rfl) (wp_some (wp_if (fun _ => wp_some ⟨⟨fun q => absurd q hn, fun _ => rfl⟩, Ag.rf⟩) (fun q => absurd rfl q))))))) (fun x q => by cases q)
    · rw [lg_cmp_ge]
      have hp : 0 ≤ (a - 34359738368).toInt := by
        rcases i64_sub a 34359738368 with e | e | e <;> rw [e, k35] <;> have b1 := i64_lo (a - 34359738368) <;> have b2 := i64_hi (a - 34359738368) <;> rw [e, k35] at b1 b2 <;> omega
      refine Int64.le_iff_toInt_le.mpr ?_
      show (0 : Int32).toInt64.toInt ≤ (j_lshr (a - 34359738368) 24).toInt
      have e1 : (0 : Int32).toInt64.toInt = 0 := by decide
      rw [e1]
      unfold j_lshr
      rw [show ((24 : Int32).toInt64 &&& 63) = 24 from rfl]
      rw [l_shr (a - 34359738368) 24 24 (by decide), Int.shiftRight_eq_div_pow]
      exact Int.ediv_nonneg hp (by decide)
set_option maxHeartbeats 8000000 in
theorem m_octet (a : Int64) {D : dt} (hD : Ag D) : wp (f_X9_octet SM D 28 a) (fun r => (onStk a → r = 0) ∧ (¬ onStk a → r = -1)) := by
  have k35 : (34359738368 : Int64).toInt = 34359738368 := by decide
  have kS : (8589934080 : Int64).toInt = 8589934080 := by decide
  have kT : (8589934591 : Int64).toInt = 8589934591 := by decide
  have kU : (8589934592 : Int64).toInt = 8589934592 := by decide
  have a1 := i64_lo a
  have a2 := i64_hi a
  have hc : f_X9_in a 4294967296 (4294967296 + (0 : Int32).toInt64 - 1) = some 0 := by
    rw [s_in, if_neg]
    intro q
    have h1 := Int64.le_iff_toInt_le.mp q.1
    have h2 := Int64.le_iff_toInt_le.mp q.2
    have e1 : (4294967296 : Int64).toInt = 4294967296 := by decide
    have e2 : ((4294967296 : Int64) + (0 : Int32).toInt64 - 1).toInt = 4294967295 := by decide
    omega
  unfold f_X9_octet f_X9_isThere
  rw [hD.i i28_7, hc]
  refine wp_pq (wp_pq (wp_some (wp_if (fun _ => ?_) (fun q => absurd rfl q))))
  rw [s_in]
  by_cases hs : onStk a
  · have hs' := hs
    unfold onStk at hs'
    rw [if_pos ⟨Int64.le_iff_toInt_le.mpr (by omega), Int64.le_iff_toInt_le.mpr (by omega)⟩]
    refine wp_pq (wp_some (wp_if (fun q => absurd q (by decide)) (fun _ => wp_if (fun q => absurd q ?_) (fun _ => wp_some (wp_if (fun q => absurd q (by decide)) (fun _ => wp_pq ?_))))))
    · rw [lg_cmp_gt]
      intro z
      have z' := Int64.lt_iff_toInt_lt.mp z
      have e : (a + (1 : Int32).toInt64).toInt = a.toInt + 1 := by
        rw [Int64.toInt_add]
        have e1 : (1 : Int32).toInt64.toInt = 1 := by decide
        rw [e1]
        unfold Int.bmod
        simp only
        split <;> omega
      rw [e, kU] at z'
      omega
    · unfold f_X9_octetAt
      refine wp_if (fun _ => wp_if (fun q => ?_) (fun _ => wp_rq (hD.r r28_8) (wp_ix ?_ (wp_some (wp_some ⟨fun _ => ?_, fun q => absurd hs q⟩))))) (fun q => absurd ((lg_cmp_ge _ _).mpr (Int64.le_iff_toInt_le.mpr (by omega))) q)
      · have := Int64.le_iff_toInt_le.mp ((lg_cmp_ge _ _).mp q)
        omega
      · rw [l_35, vp_in_iff, Int32.toInt_add, Int64.toInt_toInt32]
        have e5 : (512 : Int32).toInt = 512 := by decide
        have es : (a - 8589934592).toInt = a.toInt - 8589934592 := by
          rcases i64_sub a 8589934592 with e | e | e
          · rw [e, kU]
          · have b1 := i64_lo (a - 8589934592); have b2 := i64_hi (a - 8589934592); rw [e, kU] at b1 b2; omega
          · have b1 := i64_lo (a - 8589934592); have b2 := i64_hi (a - 8589934592); rw [e, kU] at b1 b2; omega
        rw [es, e5]
        have e6 : (a.toInt - 8589934592).bmod (2 ^ 32) = a.toInt - 8589934592 := by
          unfold Int.bmod
          simp only
          split <;> omega
        rw [e6]
        have e7 : (a.toInt - 8589934592 + 512).bmod (2 ^ 32) = a.toInt - 8589934592 + 512 := by
          unfold Int.bmod
          simp only
          split <;> omega
        rw [e7]
        omega
      · rw [(hD 35 _ (by decide) (by decide)).1, z_35]
  · rw [if_neg]
    · refine wp_pq (wp_some (wp_if (fun _ => wp_pq ?_) (fun q => absurd rfl q)))
      have ht : f_X9_tableOf SM D 28 a = some (-1) := by
        unfold f_X9_tableOf nm
        dsimp only
        rw [hD.i i28_9]
        by_cases h1 : lg_cmp a 34359738368 < 0
        · rw [if_pos h1]
        · rw [if_neg h1, if_pos]
          rw [lg_cmp_ge]
          have h1' : ¬ a.toInt < (34359738368 : Int64).toInt := fun z => h1 ((lg_cmp_lt _ _).mpr (Int64.lt_iff_toInt_lt.mpr z))
          have hp : 0 ≤ (a - 34359738368).toInt := by
            rcases i64_sub a 34359738368 with e | e | e <;> rw [e, k35] <;> have b1 := i64_lo (a - 34359738368) <;> have b2 := i64_hi (a - 34359738368) <;> rw [e, k35] at b1 b2 <;> omega
          refine Int64.le_iff_toInt_le.mpr ?_
          have e1 : (0 : Int32).toInt64.toInt = 0 := by decide
          rw [e1]
          unfold j_lshr
          rw [show ((24 : Int32).toInt64 &&& 63) = 24 from rfl, l_shr (a - 34359738368) 24 24 (by decide), Int.shiftRight_eq_div_pow]
          exact Int.ediv_nonneg hp (by decide)
      rw [ht]
      exact wp_some (wp_if (fun q => absurd q (by decide)) (fun _ => wp_some (wp_if (fun _ => wp_some ⟨fun q => absurd q hs, fun _ => rfl⟩) (fun q => absurd rfl q))))
    · intro q
      have h1 := Int64.le_iff_toInt_le.mp q.1
      have h2 := Int64.le_iff_toInt_le.mp q.2
      exact hs ⟨by omega, by omega⟩
