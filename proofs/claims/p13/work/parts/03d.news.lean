def Ext (S S' : sh) : Prop := sN S ≤ sN S' ∧ sZ S ≤ sZ S' ∧ ∀ k, k < sN S → sK S' k = sK S k ∧ sA S' k = sA S k
theorem Ext.rf (S : sh) : Ext S S := ⟨Nat.le_refl _, Nat.le_refl _, fun _ _ => ⟨rfl, rfl⟩⟩
theorem Ext.tr {S S1 S2 : sh} (h : Ext S S1) (h1 : Ext S1 S2) : Ext S S2 := ⟨Nat.le_trans h.1 h1.1, Nat.le_trans h.2.1 h1.2.1, fun k hk => ⟨(h1.2.2 k (Nat.lt_of_lt_of_le hk h.1)).1.trans (h.2.2 k hk).1, (h1.2.2 k (Nat.lt_of_lt_of_le hk h.1)).2.trans (h.2.2 k hk).2⟩⟩
theorem Ext.aS (S : sh) (κ n z : Nat) : Ext S (aS S κ n z) := ⟨by rw [sN_aS]; omega, by rw [sZ_aS]; omega, fun k hk => ⟨by rw [sK_aS, if_neg (by omega)], by rw [sA_aS, if_neg (by omega)]⟩⟩
theorem Is.up {S S' : sh} {ad ad' : Nat → Nat} {k a κ : Nat} (h : Is S ad k a κ) (he : Ext S S') (ha : ∀ k, k < sN S → ad' k = ad k) : Is S' ad' k a κ := ⟨Nat.lt_of_lt_of_le h.1 he.1, by rw [(he.2.2 k h.1).1]; exact h.2.1, by rw [ha k h.1]; exact h.2.2⟩
theorem up_lt {ad : Nat → Nat} {n q : Nat} : ∀ k, k < n → va_up ad n q k = ad k := fun k hk => by simp [va_up, Nat.ne_of_lt hk]
theorem map_up {ad : Nat → Nat} {n q : Nat} {r : Option Nat} (h : ∀ o, r = some o → o < n) : r.map (va_up ad n q) = r.map ad := by
  cases r with
  | none => rfl
  | some o => simp [up_lt o (h o rfl)]
theorem ent_up {cA : Nat → ClassId} {S : sh} {D : dt} {ad : Nat → Nat} {κ len z q k : Nat} (hT : WT S D) (hk : k < sN S) : ent cA (aS S κ len z) (aD S D) (va_up ad (sN S) q) k = ent cA S D ad k := by
  have e0 : ¬ k = sN S := Nat.ne_of_lt hk
  have eI : ∀ j, gI (aD S D) k j = gI D k j := fun j => by rw [gI_aD, if_neg e0]
  have eL : ∀ j, gL (aD S D) k j = gL D k j := fun j => by rw [gL_aD, if_neg e0]
  have eR : ∀ j, gR (aD S D) k j = gR D k j := fun j => by rw [gR_aD, if_neg e0]
  have eK : sK (aS S κ len z) k = sK S k := by rw [sK_aS, if_neg e0]
  have eA : sA (aS S κ len z) k = sA S k := by rw [sA_aS, if_neg e0]
  have eM : ∀ j, (gR D k j).map (va_up ad (sN S) q) = (gR D k j).map ad := fun j => map_up (fun o ho => (hT k j o hk ho).1)
  have hf : ∀ ci, flds ci (aD S D) (va_up ad (sN S) q) k = flds ci D ad k := fun ci => by
    unfold flds
    congr 1
    funext j t
    unfold fv
    split
    · rw [eI]
    · rw [eL]
    · rw [eR, eM]
  unfold ent
  rw [eK, eA, hf]
  simp only [eI, eL, eR, eM]
theorem cls_push {cA : Nat → ClassId} {S : sh} {D : dt} {ad : Nat → Nat} {κ len z q : Nat} {e : va_E} (hT : WT S D) (he : ent cA (aS S κ len z) (aD S D) (va_up ad (sN S) q) (sN S) = e) : cls cA S D ad ++ [(q, e)] = cls cA (aS S κ len z) (aD S D) (va_up ad (sN S) q) := by
  apply List.ext_getElem?
  intro i
  by_cases hl : i < sN S
  · rw [List.getElem?_append_left (by rw [cls_len]; exact hl), cls_at hl, cls_at (by rw [sN_aS]; omega), ent_up hT hl, up_lt i hl]
  · by_cases h2 : i = sN S
    · subst h2
      rw [List.getElem?_append_right (by rw [cls_len]; exact Nat.le_refl _), cls_len, Nat.sub_self, cls_at (by rw [sN_aS]; omega), he]
      simp [va_up]
    · rw [List.getElem?_eq_none (by rw [List.length_append, cls_len]; simp; omega), List.getElem?_eq_none (by rw [cls_len, sN_aS]; omega)]
theorem WT.up {S : sh} {D : dt} (h : WT S D) (κ len z : Nat) : WT (aS S κ len z) (aD S D) := by
  intro k j o hk ho
  rw [gR_aD] at ho
  rw [sN_aS] at hk ⊢
  split at ho
  · cases ho
  · next e0 =>
    obtain ⟨h1, h2⟩ := h k j o (by omega) ho
    refine ⟨by omega, ?_⟩
    rw [sK_aS, sK_aS, if_neg (by omega), if_neg e0]
    exact h2
def fdef (t : Nat) : Value := match t with
  | 0 => .int 0
  | 1 => .long 0
  | _ => .null
theorem fv_new (t : Nat) (S : sh) (D : dt) (ad : Nat → Nat) (j : Nat) : fv t (aD S D) ad (sN S) j = fdef t := by
  match t with
  | 0 => show Value.int _ = Value.int 0; rw [gI_aD, if_pos rfl]
  | 1 => show Value.long _ = Value.long 0; rw [gL_aD, if_pos rfl]
  | t + 2 => show va_rf _ = Value.null; rw [gR_aD, if_pos rfl]; rfl
section NEWS
variable {p : Program} {l : Launch} {e : Env} {R : Room} {s : State} {m : MethodId} {args : Array Value} {below : List Frame} {meth : Method} {c : Code} {H : Heap} {locs : List Loc} {cells slots : Nat} {Q : State → Prop}
variable {cc : ByteArray} {pc nL : Nat} {ret : Option FieldType} {ls : Array Slot} {rest : List Value} {own : String} {G : va_G} {cA : Nat → ClassId} {S : sh} {D : dt} {ad : Nat → Nat} {A : Nat → Prop}
variable {ci N index : Nat} {C : String} {T : u_T} {ty : Nat → FieldType}
theorem r_new (hC : Cx own cc nL ret p s m args meth c) (hw : Wd G cA S D ad A s H locs) (hk : Kc ci C T N ty) (hdf : ∀ j, j < N → defaultValue (ty j) = fdef ((fty ci).getD j 0)) (hcl : Cond.classLink own index C ∈ tb0) (hinst : Cond.instantiable C N ∈ tb0) (hini : Cond.initialized C ∈ tb0) (hcells : cells + 1 ≤ R.cells) (hslots : slots + N ≤ R.slots) (hdg : decode cc pc = .ok (.new index, 3))
    (kk : ∀ (q : Nat) (H : Heap), Wd G cA (aS S ci 0 N) (aD S D) (va_up ad (sN S) q) A s H locs → Is (aS S ci 0 N) (va_up ad (sN S) q) (sN S) q ci → W p l e R s m args below meth c H locs (cells + 1) (slots + N) Q (F0 m (pc + 3) ls (.ref q :: rest))) : W p l e R s m args below meth c H locs cells slots Q (F0 m pc ls rest) := by
  refine va_new (ci := ci) (fs := flds ci (aD S D) ad (sN S)) hC.1 hC.2.1 hC.2.2.2.2.1 hk.2.2.1 ty hk.2.2.2.1 hC.2.2.2.1 (hC.2.2.2.2.1 _ hcl) (hC.2.2.2.2.1 _ hinst) (hC.2.2.2.2.1 _ hini) hw.2.1 hw.1 hw.2.2.1 hw.2.2.2.1 hw.2.2.2.2.1 hk.1 ?_ hcells hslots hdg (fun q H1 h1 h2 h3 => ?_)
  · intro j hj
    have hl : j < (fty ci).length := by rw [hk.2.2.2.2.2]; exact hj
    rw [hdf j hj]
    unfold vp_V
    rw [List.getD_eq_getElem?_getD, List.getD_eq_getElem?_getD, flds_get (t := (fty ci)[j]) (List.getElem?_eq_getElem hl), List.getElem?_eq_getElem hl, Option.getD_some, Option.getD_some, fv_new]
  · have hsK : sK (aS S ci 0 N) (sN S) = ci := by rw [sK_aS, if_pos rfl]
    have he : ent cA (aS S ci 0 N) (aD S D) (va_up ad (sN S) q) (sN S) = .inr (ci, flds ci (aD S D) ad (sN S)) := by
      rw [ent_c hsK hk.2.1]
      congr 2
      unfold flds
      congr 1
      funext j t
      rw [fv_new, fv_new]
    rw [cls_push hw.2.2.2.2.2.1 he] at h1 h2
    exact kk q H1 ⟨h1, hw.2.1, h2, h3, hw.2.2.2.2.1, hw.2.2.2.2.2.1.up _ _ _, hw.2.2.2.2.2.2⟩ ⟨by rw [sN_aS]; omega, hsK, by simp [va_up]⟩
/-- a new array of a primitive type; t0: its class' place among tysOf -/
theorem r_newa (hC : Cx own cc nL ret p s m args meth c) (hw : Wd G cA S D ad A s H locs) {atype : ArrayType} {fty0 : FieldType} (hty : newarray.typeOf atype = fty0) (harr : Cond.arrayClass fty0 ∈ tb0) (κ t0 : Nat) (ht : (tysOf cA)[t0]? = some (cA κ, fty0)) (hRA : ∀ c1 c2, va_RA s c1 fty0 → va_RA s c2 fty0 → c1 = c2)
    {n : Int32} {a0 : vp_A} (hn : ¬ n < 0) (ha : ∀ c1 : ClassId, vp_cell c1 a0 = arrV c1 n.toNatClampNeg (fun _ => defaultValue fty0)) (hent : ∀ q, ent cA (aS S κ n.toNatClampNeg n.toNatClampNeg) (aD S D) (va_up ad (sN S) q) (sN S) = .inl (cA κ, a0)) (hbytes : n.toNatClampNeg * componentBytes fty0 ≤ 536870912) (hcells : cells + 1 ≤ R.cells) (hslots : slots + n.toNatClampNeg ≤ R.slots) (hdg : decode cc pc = .ok (.newarray atype, 2))
    (kk : ∀ (q : Nat) (H : Heap), Wd G cA (aS S κ n.toNatClampNeg n.toNatClampNeg) (aD S D) (va_up ad (sN S) q) A s H locs → Is (aS S κ n.toNatClampNeg n.toNatClampNeg) (va_up ad (sN S) q) (sN S) q κ → W p l e R s m args below meth c H locs (cells + 1) (slots + n.toNatClampNeg) Q (F0 m (pc + 2) ls (.ref q :: rest))) : W p l e R s m args below meth c H locs cells slots Q (F0 m pc ls (.int n :: rest)) := by
  refine va_newa hC.1 hC.2.1 (atype := atype) (by rw [hty]; exact hC.2.2.2.2.1 _ harr) hty hw.2.1 hw.1 hw.2.2.1 hw.2.2.2.1 hw.2.2.2.2.1 ha hn rfl hbytes hcells hslots hdg (fun q c1 H1 h0 h1 h2 h3 => ?_)
  have hc1 : c1 = cA κ := hRA _ _ (h0.2 (tysOf cA).length (c1, fty0) (by simp)).2 (hw.2.1.2 t0 _ ht).2
  subst hc1
  rw [cls_push hw.2.2.2.2.2.1 (hent q)] at h1 h2
  exact kk q H1 ⟨h1, hw.2.1, h2, h3, hw.2.2.2.2.1, hw.2.2.2.2.2.1.up _ _ _, hw.2.2.2.2.2.2⟩ ⟨by rw [sN_aS]; omega, by rw [sK_aS, if_pos rfl], by simp [va_up]⟩
theorem r_newI (hC : Cx own cc nL ret p s m args meth c) (hw : Wd G cA S D ad A s H locs) (harr : Cond.arrayClass .int ∈ tb0)
    {n : Int32} {N' : Nat} (hn : ¬ n < 0) (hN : n.toNatClampNeg = N') (hbytes : N' * 4 ≤ 536870912) (hcells : cells + 1 ≤ R.cells) (hslots : slots + N' ≤ R.slots) (hdg : decode cc pc = .ok (.newarray .int, 2))
    (kk : ∀ (q : Nat) (H : Heap), Wd G cA (aS S 100 N' N') (aD S D) (va_up ad (sN S) q) A s H locs → Is (aS S 100 N' N') (va_up ad (sN S) q) (sN S) q 100 → W p l e R s m args below meth c H locs (cells + 1) (slots + N') Q (F0 m (pc + 2) ls (.ref q :: rest))) : W p l e R s m args below meth c H locs cells slots Q (F0 m pc ls (.int n :: rest)) := by
  subst hN
  exact r_newa (atype := .int) (fty0 := .int) (a0 := (n.toNatClampNeg, .inl (fun _ => 0))) hC hw rfl harr 100 0 rfl (fun c1 c2 h1 h2 => Option.some.inj (Eq.trans (Eq.symm (show s.vm.findClass _ = some c1 from h1)) (show s.vm.findClass _ = some c2 from h2))) hn (fun _ => rfl) (fun q => by
    rw [ent_i (κ := 100) (by rw [sK_aS, if_pos rfl]) (by decide) (by decide) (by decide), sA_aS, if_pos rfl]
    simp [gI_aD]) hbytes hcells hslots hdg kk
theorem r_newL (hC : Cx own cc nL ret p s m args meth c) (hw : Wd G cA S D ad A s H locs) (harr : Cond.arrayClass .long ∈ tb0)
    {n : Int32} {N' : Nat} (hn : ¬ n < 0) (hN : n.toNatClampNeg = N') (hbytes : N' * 8 ≤ 536870912) (hcells : cells + 1 ≤ R.cells) (hslots : slots + N' ≤ R.slots) (hdg : decode cc pc = .ok (.newarray .long, 2))
    (kk : ∀ (q : Nat) (H : Heap), Wd G cA (aS S 101 N' N') (aD S D) (va_up ad (sN S) q) A s H locs → Is (aS S 101 N' N') (va_up ad (sN S) q) (sN S) q 101 → W p l e R s m args below meth c H locs (cells + 1) (slots + N') Q (F0 m (pc + 2) ls (.ref q :: rest))) : W p l e R s m args below meth c H locs cells slots Q (F0 m pc ls (.int n :: rest)) := by
  subst hN
  exact r_newa (atype := .long) (fty0 := .long) (a0 := (n.toNatClampNeg, .inr (.inl (fun _ => 0)))) hC hw rfl harr 101 1 rfl (fun c1 c2 h1 h2 => Option.some.inj (Eq.trans (Eq.symm (show s.vm.findClass _ = some c1 from h1)) (show s.vm.findClass _ = some c2 from h2))) hn (fun _ => rfl) (fun q => by
    rw [ent_l (by rw [sK_aS, if_pos rfl]), sA_aS, if_pos rfl]
    simp [gL_aD]) hbytes hcells hslots hdg kk
theorem r_newB (hC : Cx own cc nL ret p s m args meth c) (hw : Wd G cA S D ad A s H locs) (harr : Cond.arrayClass .byte ∈ tb0)
    {n : Int32} {N' : Nat} (hn : ¬ n < 0) (hN : n.toNatClampNeg = N') (hbytes : N' * 1 ≤ 536870912) (hcells : cells + 1 ≤ R.cells) (hslots : slots + N' ≤ R.slots) (hdg : decode cc pc = .ok (.newarray .byte, 2))
    (kk : ∀ (q : Nat) (H : Heap), Wd G cA (aS S 102 N' N') (aD S D) (va_up ad (sN S) q) A s H locs → Is (aS S 102 N' N') (va_up ad (sN S) q) (sN S) q 102 → W p l e R s m args below meth c H locs (cells + 1) (slots + N') Q (F0 m (pc + 2) ls (.ref q :: rest))) : W p l e R s m args below meth c H locs cells slots Q (F0 m pc ls (.int n :: rest)) := by
  subst hN
  exact r_newa (atype := .byte) (fty0 := .byte) (a0 := (n.toNatClampNeg, .inl (fun _ => 0))) hC hw rfl harr 102 2 rfl (fun c1 c2 h1 h2 => Option.some.inj (Eq.trans (Eq.symm (show s.vm.findClass _ = some c1 from h1)) (show s.vm.findClass _ = some c2 from h2))) hn (fun _ => rfl) (fun q => by
    rw [ent_i (κ := 102) (by rw [sK_aS, if_pos rfl]) (by decide) (by decide) (by decide), sA_aS, if_pos rfl]
    simp [gI_aD]) hbytes hcells hslots hdg kk
theorem r_newZ (hC : Cx own cc nL ret p s m args meth c) (hw : Wd G cA S D ad A s H locs) (harr : Cond.arrayClass .boolean ∈ tb0)
    {n : Int32} {N' : Nat} (hn : ¬ n < 0) (hN : n.toNatClampNeg = N') (hbytes : N' * 1 ≤ 536870912) (hcells : cells + 1 ≤ R.cells) (hslots : slots + N' ≤ R.slots) (hdg : decode cc pc = .ok (.newarray .boolean, 2))
    (kk : ∀ (q : Nat) (H : Heap), Wd G cA (aS S 103 N' N') (aD S D) (va_up ad (sN S) q) A s H locs → Is (aS S 103 N' N') (va_up ad (sN S) q) (sN S) q 103 → W p l e R s m args below meth c H locs (cells + 1) (slots + N') Q (F0 m (pc + 2) ls (.ref q :: rest))) : W p l e R s m args below meth c H locs cells slots Q (F0 m pc ls (.int n :: rest)) := by
  subst hN
  exact r_newa (atype := .boolean) (fty0 := .boolean) (a0 := (n.toNatClampNeg, .inl (fun _ => 0))) hC hw rfl harr 103 3 rfl (fun c1 c2 h1 h2 => Option.some.inj (Eq.trans (Eq.symm (show s.vm.findClass _ = some c1 from h1)) (show s.vm.findClass _ = some c2 from h2))) hn (fun _ => rfl) (fun q => by
    rw [ent_i (κ := 103) (by rw [sK_aS, if_pos rfl]) (by decide) (by decide) (by decide), sA_aS, if_pos rfl]
    simp [gI_aD]) hbytes hcells hslots hdg kk
/-- a new array over a class: κ = 200 + the class' number; t0 its class' place among tysOf -/
theorem r_newR (hC : Cx own cc nL ret p s m args meth c) (hw : Wd G cA S D ad A s H locs) {C : String} (hcl : Cond.classLink own index C ∈ tb0) (hover : va_AO C s) (κ t0 : Nat) (hκ : 200 ≤ κ) (ht : (tysOf cA)[t0]? = some (cA κ, .object C))
    {n : Int32} {N' : Nat} (hn : ¬ n < 0) (hN : n.toNatClampNeg = N') (hbytes : N' * 4 ≤ 536870912) (hcells : cells + 1 ≤ R.cells) (hslots : slots + N' ≤ R.slots) (hdg : decode cc pc = .ok (.anewarray index, 3))
    (kk : ∀ (q : Nat) (H : Heap), Wd G cA (aS S κ N' N') (aD S D) (va_up ad (sN S) q) A s H locs → Is (aS S κ N' N') (va_up ad (sN S) q) (sN S) q κ → W p l e R s m args below meth c H locs (cells + 1) (slots + N') Q (F0 m (pc + 3) ls (.ref q :: rest))) : W p l e R s m args below meth c H locs cells slots Q (F0 m pc ls (.int n :: rest)) := by
  refine va_newq hC.1 hC.2.1 hC.2.2.2.1 (hC.2.2.2.2.1 _ hcl) hover hw.2.1 hw.1 hw.2.2.1 hw.2.2.2.1 hw.2.2.2.2.1 hn hN hbytes hcells hslots hdg (fun q c1 H1 h0 h1 h2 h3 => ?_)
  have hc1 : c1 = cA κ := by
    obtain ⟨_, _, _, _, _, g1⟩ := (h0.2 (tysOf cA).length (c1, .object C) (by simp)).2
    obtain ⟨_, _, _, _, _, g2⟩ := (hw.2.1.2 t0 _ ht).2
    exact Option.some.inj (g1.symm.trans g2)
  subst hc1
  have hent : ent cA (aS S κ N' N') (aD S D) (va_up ad (sN S) q) (sN S) = .inl (cA κ, N', .inr (.inr (.inr (.inr (fun _ => none))))) := by
    rw [ent_r (κ := κ) (by rw [sK_aS, if_pos rfl]) hκ, sA_aS, if_pos rfl]
    simp [gR_aD]
  rw [cls_push hw.2.2.2.2.2.1 hent] at h1 h2
  exact kk q H1 ⟨h1, hw.2.1, h2, h3, hw.2.2.2.2.1, hw.2.2.2.2.2.1.up _ _ _, hw.2.2.2.2.2.2⟩ ⟨by rw [sN_aS]; omega, by rw [sK_aS, if_pos rfl], by simp [va_up]⟩
end NEWS
