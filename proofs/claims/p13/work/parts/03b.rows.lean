/-- what every row of a method's walk needs: the machine, the method's bytes, its locals, its class, the tables' words, what it returns, no lock -/
def Cx (own : String) (cc : ByteArray) (nL : Nat) (ret : Option FieldType) (p : Program) (s : State) (m : MethodId) (args : Array Value) (meth : Method) (c : Code) : Prop :=
  p.tables.exec = Jvm.exec ∧ c.code = cc ∧ c.maxLocals = nL ∧ s.vm.findClass own = some m.cls ∧ (∀ w ∈ tb0, w.before args s = true) ∧ meth.sig.returnType = ret ∧ meth.locks = false
/-- a class of the world: its place in the list, its fields, their types -/
def Kc (ci : Nat) (C : String) (T : u_T) (N : Nat) (ty : Nat → FieldType) : Prop :=
  vwCl[ci]? = some (C, T, N) ∧ ci < 100 ∧ (∀ w ∈ u_ws C T N, w ∈ tb0) ∧ (∀ k, k < N → parseFieldDescriptor (T k).2.2.1 = some (ty k)) ∧ (∀ a, a < N → ∀ b, b < N → a ≠ b → (T a).2.1 ≠ (T b).2.1) ∧ (fty ci).length = N
section ROWS
variable {p : Program} {l : Launch} {e : Env} {R : Room} {s : State} {m : MethodId} {args : Array Value} {below : List Frame} {meth : Method} {c : Code} {H : Heap} {locs : List Loc} {cells slots : Nat} {Q : State → Prop}
variable {cc : ByteArray} {pc nL : Nat} {ret : Option FieldType} {ls : Array Slot} {rest : List Value} {own : String} {G : va_G} {cA : Nat → ClassId} {S : sh} {D : dt} {ad : Nat → Nat} {A : Nat → Prop}
variable {ci N k a j index : Nat} {C : String} {T : u_T} {ty : Nat → FieldType}
theorem Kc.lt (hk : Kc ci C T N ty) {t : Nat} (hf : (fty ci)[j]? = some t) : j < N := by
  have := (List.getElem?_eq_some_iff.mp hf).1
  rw [hk.2.2.2.2.2] at this
  exact this
theorem Wd.obj (hw : Wd G cA S D ad A s H locs) (hk : Kc ci C T N ty) (hi : Is S ad k a ci) : (cls cA S D ad)[k]? = some (a, .inr (ci, flds ci D ad k)) := by
  obtain ⟨h1, h2, h3⟩ := hi
  rw [cls_at h1, h3, ent_c h2 hk.2.1]
theorem Wd.recv (hw : Wd G cA S D ad A s H locs) (hk : Kc ci C T N ty) (hi : Is S ad k a ci) : ∃ cell : Cell, H[a]? = some cell ∧ cell.vm.isStatics = false ∧ s.vm.findClass C = some cell.cls :=
  va_recv hw.2.1 hw.1 hk.1 (hw.obj hk hi)
/-- getfield -/
theorem r_get (hC : Cx own cc nL ret p s m args meth c) (hw : Wd G cA S D ad A s H locs) (hk : Kc ci C T N ty) (hi : Is S ad k a ci) (j : Nat) {t : Nat} (hf : (fty ci)[j]? = some t) (hlink : Cond.fieldLink own index (T j).1 (T j).2.1 (T j).2.2.1 ∈ tb0) (hdg : decode cc pc = .ok (.getfield index, 3))
    (kk : W p l e R s m args below meth c H locs cells slots Q (F0 m (pc + 3) ls (fv t D ad k j :: rest))) : W p l e R s m args below meth c H locs cells slots Q (F0 m pc ls (.ref a :: rest)) :=
  va_get hC.1 hC.2.1 hC.2.2.2.2.1 hk.2.2.1 hC.2.2.2.1 hw.2.1 hw.1 k (hw.obj hk hi) hk.1 j (hk.lt hf) (hC.2.2.2.2.1 _ hlink) (fun _ h => h) (flds_get hf) hdg kk
/-- a reference read: null, or an object of the field's kind -/
theorem r_getR (hC : Cx own cc nL ret p s m args meth c) (hw : Wd G cA S D ad A s H locs) (hk : Kc ci C T N ty) (hi : Is S ad k a ci) (j : Nat) (hf : (fty ci)[j]? = some 2) (hlink : Cond.fieldLink own index (T j).1 (T j).2.1 (T j).2.2.1 ∈ tb0) (hdg : decode cc pc = .ok (.getfield index, 3)) {κ : Nat} (hκ : rk ci j = κ)
    {o : Nat} (ho : gR D k j = some o) (kk : ∀ b, Is S ad o b κ → W p l e R s m args below meth c H locs cells slots Q (F0 m (pc + 3) ls (.ref b :: rest))) : W p l e R s m args below meth c H locs cells slots Q (F0 m pc ls (.ref a :: rest)) := by
  refine r_get hC hw hk hi j hf hlink hdg ?_
  have e1 : fv 2 D ad k j = .ref (ad o) := by show va_rf ((gR D k j).map ad) = _; rw [ho]; rfl
  rw [e1]
  obtain ⟨h1, h2⟩ := hw.2.2.2.2.2.1 k j o hi.1 ho
  exact kk _ ⟨h1, by rw [h2, hi.2.1, hκ], rfl⟩
theorem r_getN (hC : Cx own cc nL ret p s m args meth c) (hw : Wd G cA S D ad A s H locs) (hk : Kc ci C T N ty) (hi : Is S ad k a ci) (j : Nat) (hf : (fty ci)[j]? = some 2) (hlink : Cond.fieldLink own index (T j).1 (T j).2.1 (T j).2.2.1 ∈ tb0) (hdg : decode cc pc = .ok (.getfield index, 3))
    (ho : gR D k j = none) (kk : W p l e R s m args below meth c H locs cells slots Q (F0 m (pc + 3) ls (.null :: rest))) : W p l e R s m args below meth c H locs cells slots Q (F0 m pc ls (.ref a :: rest)) := by
  refine r_get hC hw hk hi j hf hlink hdg ?_
  have e1 : fv 2 D ad k j = .null := by show va_rf ((gR D k j).map ad) = _; rw [ho]; rfl
  rw [e1]
  exact kk
theorem Wd.put (hw : Wd G cA S D ad A s H locs) (hk : Kc ci C T N ty) (hi : Is S ad k a ci) {t : Nat} {v : Value} {D' : dt} (hf : (fty ci)[j]? = some t) (hv : fv t D' ad k j = v) (ho : ∀ t' j', j' ≠ j → fv t' D' ad k j' = fv t' D ad k j') (he : ∀ k', k' ≠ k → ent cA S D' ad k' = ent cA S D ad k') : (cls cA S D ad).set k (a, .inr (ci, (flds ci D ad k).set j v)) = cls cA S D' ad := by
  obtain ⟨h1, h2, h3⟩ := hi
  rw [← h3]
  exact cls_set h1 (by rw [ent_c h2 hk.2.1, flds_set hf hv ho]) he
theorem pI_ne (D : dt) (ad : Nat → Nat) (k j : Nat) (x : Int32) : ∀ t' j', j' ≠ j → fv t' (pI D k j x) ad k j' = fv t' D ad k j' := fun t' j' h => fv_ne (by rw [gI_pI, if_neg (fun q => h q.2)]) rfl rfl
theorem pL_ne (D : dt) (ad : Nat → Nat) (k j : Nat) (x : Int64) : ∀ t' j', j' ≠ j → fv t' (pL D k j x) ad k j' = fv t' D ad k j' := fun t' j' h => fv_ne rfl (by rw [gL_pL, if_neg (fun q => h q.2)]) rfl
theorem pR_ne (D : dt) (ad : Nat → Nat) (k j : Nat) (x : Option Nat) : ∀ t' j', j' ≠ j → fv t' (pR D k j x) ad k j' = fv t' D ad k j' := fun t' j' h => fv_ne rfl rfl (by rw [gR_pR, if_neg (fun q => h q.2)])
theorem pI_en (cA : Nat → ClassId) (S : sh) (D : dt) (ad : Nat → Nat) (k j : Nat) (x : Int32) : ∀ k', k' ≠ k → ent cA S (pI D k j x) ad k' = ent cA S D ad k' := fun k' h => ent_ne (fun i => by rw [gI_pI, if_neg (fun q => h q.1)]) (fun _ => rfl) (fun _ => rfl)
theorem pL_en (cA : Nat → ClassId) (S : sh) (D : dt) (ad : Nat → Nat) (k j : Nat) (x : Int64) : ∀ k', k' ≠ k → ent cA S (pL D k j x) ad k' = ent cA S D ad k' := fun k' h => ent_ne (fun _ => rfl) (fun i => by rw [gL_pL, if_neg (fun q => h q.1)]) (fun _ => rfl)
theorem pR_en (cA : Nat → ClassId) (S : sh) (D : dt) (ad : Nat → Nat) (k j : Nat) (x : Option Nat) : ∀ k', k' ≠ k → ent cA S (pR D k j x) ad k' = ent cA S D ad k' := fun k' h => ent_ne (fun _ => rfl) (fun _ => rfl) (fun i => by rw [gR_pR, if_neg (fun q => h q.1)])
theorem WT.pI {S : sh} {D : dt} (h : WT S D) (k j : Nat) (x : Int32) : WT S (pI D k j x) := h
theorem WT.pL {S : sh} {D : dt} (h : WT S D) (k j : Nat) (x : Int64) : WT S (pL D k j x) := h
theorem WT.qI {S : sh} {D : dt} (h : WT S D) (k : Nat) (g : Nat → Int32) : WT S (qI D k g) := h
theorem WT.qL {S : sh} {D : dt} (h : WT S D) (k : Nat) (g : Nat → Int64) : WT S (qL D k g) := h
theorem WT.pR {S : sh} {D : dt} (h : WT S D) {k j : Nat} {x : Option Nat} (hx : ∀ o, x = some o → o < sN S ∧ sK S o = rk (sK S k) j) : WT S (pR D k j x) := by
  intro k' j' o hk' ho
  rw [gR_pR] at ho
  split at ho
  · next q => obtain ⟨rfl, rfl⟩ := q; exact hx o ho
  · exact h k' j' o hk' ho
theorem fv_pI (D : dt) (ad : Nat → Nat) (k j : Nat) (x : Int32) : fv 0 (pI D k j x) ad k j = .int x := by show Value.int _ = _; rw [gI_pI, if_pos ⟨rfl, rfl⟩]
theorem fv_pL (D : dt) (ad : Nat → Nat) (k j : Nat) (x : Int64) : fv 1 (pL D k j x) ad k j = .long x := by show Value.long _ = _; rw [gL_pL, if_pos ⟨rfl, rfl⟩]
theorem fv_pR (D : dt) (ad : Nat → Nat) (k j : Nat) (x : Option Nat) : fv 2 (pR D k j x) ad k j = va_rf (x.map ad) := by show va_rf _ = _; rw [gR_pR, if_pos ⟨rfl, rfl⟩]
/-- putfield: a new value of data D' -/
theorem r_put (hC : Cx own cc nL ret p s m args meth c) (hw : Wd G cA S D ad A s H locs) (hk : Kc ci C T N ty) (hi : Is S ad k a ci) (j : Nat) {t : Nat} {v : Value} {D' : dt} (hf : (fty ci)[j]? = some t) (hv : fv t D' ad k j = v) (ho : ∀ t' j', j' ≠ j → fv t' D' ad k j' = fv t' D ad k j') (he : ∀ k', k' ≠ k → ent cA S D' ad k' = ent cA S D ad k') (hwt : WT S D')
    (hlink : Cond.fieldLink own index (T j).1 (T j).2.1 (T j).2.2.1 ∈ tb0) (hfin : (T j).2.2.2 = false) (hn : narrow (ty j) v = v) (hfit : fits (ty j) v = true) (hdg : decode cc pc = .ok (.putfield index, 3))
    (kk : ∀ (H : Heap) (locs : List Loc), Wd G cA S D' ad A s H locs → W p l e R s m args below meth c H locs cells slots Q (F0 m (pc + 3) ls rest)) : W p l e R s m args below meth c H locs cells slots Q (F0 m pc ls (v :: .ref a :: rest)) := by
  have hj := hk.lt hf
  refine va_put hC.1 hC.2.1 hC.2.2.2.2.1 hk.2.2.1 ty hk.2.2.2.1 hk.2.2.2.2.1 hC.2.2.2.1 hw.2.1 hw.1 hw.2.2.1 hw.2.2.2.1 k (hw.obj hk hi) hk.1 j hj (hC.2.2.2.2.1 _ hlink) (fun _ h => h) hfin (hk.2.2.2.1 j hj) hn hfit (by rw [flds_len]; exact (List.getElem?_eq_some_iff.mp hf).1) hdg (fun H1 locs1 h1 h2 h3 => ?_)
  rw [hw.put hk hi hf hv ho he] at h1 h2
  exact kk H1 locs1 ⟨h1, hw.2.1, h2, h3, hw.2.2.2.2.1, hwt, hw.2.2.2.2.2.2⟩
/-- putfield of a final field, in the constructor -/
theorem r_putF (hC : Cx own cc nL ret p s m args meth c) (hin : meth.name = "<init>") (hw : Wd G cA S D ad A s H locs) (hk : Kc ci C T N ty) (hi : Is S ad k a ci) (j : Nat) {t : Nat} {v : Value} {D' : dt} (hf : (fty ci)[j]? = some t) (hv : fv t D' ad k j = v) (ho : ∀ t' j', j' ≠ j → fv t' D' ad k j' = fv t' D ad k j') (he : ∀ k', k' ≠ k → ent cA S D' ad k' = ent cA S D ad k') (hwt : WT S D')
    (hlink : Cond.fieldLink own index (T j).1 (T j).2.1 (T j).2.2.1 ∈ tb0) (hfin : (T j).2.2.2 = true) (hdecl : (T j).1 = own) (hn : narrow (ty j) v = v) (hfit : fits (ty j) v = true) (hdg : decode cc pc = .ok (.putfield index, 3))
    (kk : ∀ (H : Heap) (locs : List Loc), Wd G cA S D' ad A s H locs → W p l e R s m args below meth c H locs cells slots Q (F0 m (pc + 3) ls rest)) : W p l e R s m args below meth c H locs cells slots Q (F0 m pc ls (v :: .ref a :: rest)) := by
  have hj := hk.lt hf
  refine va_putF hC.1 hC.2.1 hC.2.2.2.2.1 hk.2.2.1 ty hk.2.2.2.1 hk.2.2.2.2.1 hC.2.2.2.1 hw.2.1 hw.1 hw.2.2.1 hw.2.2.2.1 k (hw.obj hk hi) hk.1 j hj (hC.2.2.2.2.1 _ hlink) (fun _ h => h) hfin hin hdecl (hk.2.2.2.1 j hj) hn hfit (by rw [flds_len]; exact (List.getElem?_eq_some_iff.mp hf).1) hdg (fun H1 locs1 h1 h2 h3 => ?_)
  rw [hw.put hk hi hf hv ho he] at h1 h2
  exact kk H1 locs1 ⟨h1, hw.2.1, h2, h3, hw.2.2.2.2.1, hwt, hw.2.2.2.2.2.2⟩
-- arrays
theorem Wd.ai (hw : Wd G cA S D ad A s H locs) {κ : Nat} (hi : Is S ad k a κ) (h1 : ¬ κ < 100) (h2 : ¬ κ = 101) (h3 : ¬ 200 ≤ κ) : (cls cA S D ad)[k]? = some (a, .inl (cA κ, sA S k, .inl (fun i => gI D k i))) := by
  obtain ⟨g1, g2, g3⟩ := hi
  rw [cls_at g1, g3, ent_i g2 h1 h2 h3]
theorem Wd.al (hw : Wd G cA S D ad A s H locs) (hi : Is S ad k a 101) : (cls cA S D ad)[k]? = some (a, .inl (cA 101, sA S k, .inr (.inl (fun i => gL D k i)))) := by
  obtain ⟨g1, g2, g3⟩ := hi
  rw [cls_at g1, g3, ent_l g2]
theorem Wd.ar (hw : Wd G cA S D ad A s H locs) {κ : Nat} (hi : Is S ad k a κ) (h3 : 200 ≤ κ) : (cls cA S D ad)[k]? = some (a, .inl (cA κ, sA S k, .inr (.inr (.inr (.inr (fun i => (gR D k i).map ad)))))) := by
  obtain ⟨g1, g2, g3⟩ := hi
  rw [cls_at g1, g3, ent_r g2 h3]
theorem r_iald (hC : Cx own cc nL ret p s m args meth c) (hw : Wd G cA S D ad A s H locs) (hi : Is S ad k a 100) {i : Int32} (hin : vp_in i (sA S k)) (hdg : decode cc pc = .ok (.iaload, 1))
    (kk : W p l e R s m args below meth c H locs cells slots Q (F0 m (pc + 1) ls (.int (gI D k i.toNatClampNeg) :: rest))) : W p l e R s m args below meth c H locs cells slots Q (F0 m pc ls (.int i :: .ref a :: rest)) :=
  va_iald hC.1 hC.2.1 hw.2.1 hw.1 k 0 (hw.ai hi (by decide) (by decide) (by decide)) rfl hin hdg kk
theorem r_lald (hC : Cx own cc nL ret p s m args meth c) (hw : Wd G cA S D ad A s H locs) (hi : Is S ad k a 101) {i : Int32} (hin : vp_in i (sA S k)) (hdg : decode cc pc = .ok (.laload, 1))
    (kk : W p l e R s m args below meth c H locs cells slots Q (F0 m (pc + 1) ls (.long (gL D k i.toNatClampNeg) :: rest))) : W p l e R s m args below meth c H locs cells slots Q (F0 m pc ls (.int i :: .ref a :: rest)) :=
  va_lald hC.1 hC.2.1 hw.2.1 hw.1 k 1 (hw.al hi) rfl hin hdg kk
theorem r_bald (hC : Cx own cc nL ret p s m args meth c) (hw : Wd G cA S D ad A s H locs) (hi : Is S ad k a 102) {i : Int32} (hin : vp_in i (sA S k)) (hdg : decode cc pc = .ok (.baload, 1))
    (kk : W p l e R s m args below meth c H locs cells slots Q (F0 m (pc + 1) ls (.int (gI D k i.toNatClampNeg) :: rest))) : W p l e R s m args below meth c H locs cells slots Q (F0 m pc ls (.int i :: .ref a :: rest)) :=
  va_bald hC.1 hC.2.1 hw.2.1 hw.1 k 2 (hw.ai hi (by decide) (by decide) (by decide)) rfl hin hdg kk
theorem r_zald (hC : Cx own cc nL ret p s m args meth c) (hw : Wd G cA S D ad A s H locs) (hi : Is S ad k a 103) {i : Int32} (hin : vp_in i (sA S k)) (hdg : decode cc pc = .ok (.baload, 1))
    (kk : W p l e R s m args below meth c H locs cells slots Q (F0 m (pc + 1) ls (.int (gI D k i.toNatClampNeg) :: rest))) : W p l e R s m args below meth c H locs cells slots Q (F0 m pc ls (.int i :: .ref a :: rest)) :=
  va_zald hC.1 hC.2.1 hw.2.1 hw.1 k 3 (hw.ai hi (by decide) (by decide) (by decide)) rfl hin hdg kk
/-- an element that is null, or an object of kind κ; t0: the array class' place among tysOf -/
theorem r_aald (hC : Cx own cc nL ret p s m args meth c) (hw : Wd G cA S D ad A s H locs) {κ : Nat} (hi : Is S ad k a κ) (h3 : 200 ≤ κ) (t0 : Nat) {C : String} (ht : (tysOf cA)[t0]? = some (cA κ, .object C)) {i : Int32} (hin : vp_in i (sA S k)) (hdg : decode cc pc = .ok (.aaload, 1)) {κ' : Nat} (hκ : ∀ j, rk κ j = κ')
    {o : Nat} (ho : gR D k i.toNatClampNeg = some o) (kk : ∀ b, Is S ad o b κ' → W p l e R s m args below meth c H locs cells slots Q (F0 m (pc + 1) ls (.ref b :: rest))) : W p l e R s m args below meth c H locs cells slots Q (F0 m pc ls (.int i :: .ref a :: rest)) := by
  refine va_aldq hC.1 hC.2.1 hw.2.1 hw.1 k t0 (hw.ar hi h3) ht hin hdg ?_
  rw [ho]
  obtain ⟨h1, h2⟩ := hw.2.2.2.2.2.1 k _ o hi.1 ho
  exact kk _ ⟨h1, by rw [h2, hi.2.1, hκ], rfl⟩
theorem r_aaldN (hC : Cx own cc nL ret p s m args meth c) (hw : Wd G cA S D ad A s H locs) {κ : Nat} (hi : Is S ad k a κ) (h3 : 200 ≤ κ) (t0 : Nat) {C : String} (ht : (tysOf cA)[t0]? = some (cA κ, .object C)) {i : Int32} (hin : vp_in i (sA S k)) (hdg : decode cc pc = .ok (.aaload, 1))
    (ho : gR D k i.toNatClampNeg = none) (kk : W p l e R s m args below meth c H locs cells slots Q (F0 m (pc + 1) ls (.null :: rest))) : W p l e R s m args below meth c H locs cells slots Q (F0 m pc ls (.int i :: .ref a :: rest)) := by
  refine va_aldq hC.1 hC.2.1 hw.2.1 hw.1 k t0 (hw.ar hi h3) ht hin hdg ?_
  rw [ho]
  exact kk
theorem upd_gI {D : dt} {k i : Nat} {x : Int32} : (upd (fun i => gI D k i) i x) = fun q => gI (pI D k i x) k q := by
  funext q
  rw [gI_pI]
  by_cases h : q = i
  · subst h; simp [upd]
  · simp [upd, h]
theorem updL_gL {D : dt} {k i : Nat} {x : Int64} : (vp_updL (fun i => gL D k i) i x) = fun q => gL (pL D k i x) k q := by
  funext q
  rw [gL_pL]
  by_cases h : q = i
  · subst h; simp [vp_updL]
  · simp [vp_updL, h]
theorem Wd.sti (hw : Wd G cA S D ad A s H locs) {κ : Nat} (hi : Is S ad k a κ) (h1 : ¬ κ < 100) (h2 : ¬ κ = 101) (h3 : ¬ 200 ≤ κ) {i : Nat} {x : Int32} : (cls cA S D ad).set k (a, .inl (cA κ, sA S k, .inl (upd (fun i => gI D k i) i x))) = cls cA S (pI D k i x) ad := by
  obtain ⟨g1, g2, g3⟩ := hi
  rw [← g3]
  exact cls_set g1 (by rw [ent_i g2 h1 h2 h3, upd_gI]) (pI_en cA S D ad k i x)
theorem r_iast (hC : Cx own cc nL ret p s m args meth c) (hw : Wd G cA S D ad A s H locs) (hi : Is S ad k a 100) {i x : Int32} (hin : vp_in i (sA S k)) (hdg : decode cc pc = .ok (.iastore, 1))
    (kk : ∀ (H : Heap) (locs : List Loc), Wd G cA S (pI D k i.toNatClampNeg x) ad A s H locs → W p l e R s m args below meth c H locs cells slots Q (F0 m (pc + 1) ls rest)) : W p l e R s m args below meth c H locs cells slots Q (F0 m pc ls (.int x :: .int i :: .ref a :: rest)) := by
  refine va_iast hC.1 hC.2.1 hw.2.1 hw.1 hw.2.2.1 hw.2.2.2.1 k 0 (hw.ai hi (by decide) (by decide) (by decide)) rfl hin hdg (fun H1 locs1 h1 h2 h3 => ?_)
  rw [hw.sti hi (by decide) (by decide) (by decide)] at h1 h2
  exact kk H1 locs1 ⟨h1, hw.2.1, h2, h3, hw.2.2.2.2.1, hw.2.2.2.2.2.1.pI k _ x, hw.2.2.2.2.2.2⟩
theorem r_bast (hC : Cx own cc nL ret p s m args meth c) (hw : Wd G cA S D ad A s H locs) (hi : Is S ad k a 102) {i x : Int32} (hin : vp_in i (sA S k)) (hdg : decode cc pc = .ok (.bastore, 1))
    (kk : ∀ (H : Heap) (locs : List Loc), Wd G cA S (pI D k i.toNatClampNeg (vp_nar .byte x)) ad A s H locs → W p l e R s m args below meth c H locs cells slots Q (F0 m (pc + 1) ls rest)) : W p l e R s m args below meth c H locs cells slots Q (F0 m pc ls (.int x :: .int i :: .ref a :: rest)) := by
  refine va_bast hC.1 hC.2.1 hw.2.1 hw.1 hw.2.2.1 hw.2.2.2.1 k 2 (hw.ai hi (by decide) (by decide) (by decide)) rfl hin hdg (fun H1 locs1 h1 h2 h3 => ?_)
  rw [hw.sti hi (by decide) (by decide) (by decide)] at h1 h2
  exact kk H1 locs1 ⟨h1, hw.2.1, h2, h3, hw.2.2.2.2.1, hw.2.2.2.2.2.1.pI k _ _, hw.2.2.2.2.2.2⟩
theorem r_zast (hC : Cx own cc nL ret p s m args meth c) (hw : Wd G cA S D ad A s H locs) (hi : Is S ad k a 103) {i x : Int32} (hin : vp_in i (sA S k)) (hdg : decode cc pc = .ok (.bastore, 1))
    (kk : ∀ (H : Heap) (locs : List Loc), Wd G cA S (pI D k i.toNatClampNeg (vp_nar .boolean x)) ad A s H locs → W p l e R s m args below meth c H locs cells slots Q (F0 m (pc + 1) ls rest)) : W p l e R s m args below meth c H locs cells slots Q (F0 m pc ls (.int x :: .int i :: .ref a :: rest)) := by
  refine va_zast hC.1 hC.2.1 hw.2.1 hw.1 hw.2.2.1 hw.2.2.2.1 k 3 (hw.ai hi (by decide) (by decide) (by decide)) rfl hin hdg (fun H1 locs1 h1 h2 h3 => ?_)
  rw [hw.sti hi (by decide) (by decide) (by decide)] at h1 h2
  exact kk H1 locs1 ⟨h1, hw.2.1, h2, h3, hw.2.2.2.2.1, hw.2.2.2.2.2.1.pI k _ _, hw.2.2.2.2.2.2⟩
theorem r_last (hC : Cx own cc nL ret p s m args meth c) (hw : Wd G cA S D ad A s H locs) (hi : Is S ad k a 101) {i : Int32} {x : Int64} (hin : vp_in i (sA S k)) (hdg : decode cc pc = .ok (.lastore, 1))
    (kk : ∀ (H : Heap) (locs : List Loc), Wd G cA S (pL D k i.toNatClampNeg x) ad A s H locs → W p l e R s m args below meth c H locs cells slots Q (F0 m (pc + 1) ls rest)) : W p l e R s m args below meth c H locs cells slots Q (F0 m pc ls (.long x :: .int i :: .ref a :: rest)) := by
  refine va_last hC.1 hC.2.1 hw.2.1 hw.1 hw.2.2.1 hw.2.2.2.1 k 1 (hw.al hi) rfl hin hdg (fun H1 locs1 h1 h2 h3 => ?_)
  have e1 : (cls cA S D ad).set k (a, .inl (cA 101, sA S k, .inr (.inl (vp_updL (fun i => gL D k i) i.toNatClampNeg x)))) = cls cA S (pL D k i.toNatClampNeg x) ad := by
    obtain ⟨g1, g2, g3⟩ := hi
    rw [← g3]
    exact cls_set g1 (by rw [ent_l g2, updL_gL]) (pL_en cA S D ad k _ x)
  rw [e1] at h1 h2
  exact kk H1 locs1 ⟨h1, hw.2.1, h2, h3, hw.2.2.2.2.1, hw.2.2.2.2.2.1.pL k _ x, hw.2.2.2.2.2.2⟩
theorem r_aast (hC : Cx own cc nL ret p s m args meth c) (hw : Wd G cA S D ad A s H locs) {κ : Nat} (hi : Is S ad k a κ) (h3 : 200 ≤ κ) (t0 : Nat) {C : String} {T : u_T} {N : Nat} {ty : Nat → FieldType} {κ' o b : Nat} (hk : Kc κ' C T N ty) (ht : (tysOf cA)[t0]? = some (cA κ, .object C)) (ho : Is S ad o b κ') (hκ : ∀ j, rk κ j = κ') {i : Int32} (hin : vp_in i (sA S k)) (hdg : decode cc pc = .ok (.aastore, 1))
    (kk : ∀ (H : Heap) (locs : List Loc), Wd G cA S (pR D k i.toNatClampNeg (some o)) ad A s H locs → W p l e R s m args below meth c H locs cells slots Q (F0 m (pc + 1) ls rest)) : W p l e R s m args below meth c H locs cells slots Q (F0 m pc ls (.ref b :: .int i :: .ref a :: rest)) := by
  refine va_astq hC.1 hC.2.1 hw.2.1 hw.1 hw.2.2.1 hw.2.2.2.1 k t0 o κ' (r := (C, T, N)) (hw.ar hi h3) ht (hw.obj hk ho) hk.1 hin hdg (fun H1 locs1 h1 h2 h4 => ?_)
  have e1 : (cls cA S D ad).set k (a, .inl (cA κ, sA S k, .inr (.inr (.inr (.inr (va_up (fun i => (gR D k i).map ad) i.toNatClampNeg (some b))))))) = cls cA S (pR D k i.toNatClampNeg (some o)) ad := by
    obtain ⟨g1, g2, g3⟩ := hi
    rw [← g3]
    refine cls_set g1 ?_ (pR_en cA S D ad k _ _)
    rw [ent_r g2 h3]
    congr 7
    funext q
    rw [gR_pR]
    by_cases h : q = i.toNatClampNeg
    · subst h; simp [va_up, ho.2.2]
    · simp [va_up, h]
  rw [e1] at h1 h2
  exact kk H1 locs1 ⟨h1, hw.2.1, h2, h4, hw.2.2.2.2.1, hw.2.2.2.2.2.1.pR (fun x hx => by cases hx; exact ⟨ho.1, by rw [ho.2.1, hi.2.1, hκ]⟩), hw.2.2.2.2.2.2⟩
/-- an array's length -/
theorem r_alen (hC : Cx own cc nL ret p s m args meth c) (hw : Wd G cA S D ad A s H locs) {κ : Nat} (hi : Is S ad k a κ) (h1 : ¬ κ < 100) (t0 : Nat) {fty0 : FieldType} (ht : (tysOf cA)[t0]? = some (cA κ, fty0)) (hdg : decode cc pc = .ok (.arraylength, 1))
    (kk : W p l e R s m args below meth c H locs cells slots Q (F0 m (pc + 1) ls (.int (Int32.ofNat (sA S k)) :: rest))) : W p l e R s m args below meth c H locs cells slots Q (F0 m pc ls (.ref a :: rest)) := by
  by_cases h2 : κ = 101
  · subst h2
    exact va_alen hC.1 hC.2.1 hw.2.1 hw.1 k t0 (hw.al hi) ht rfl hdg kk
  · by_cases h3 : 200 ≤ κ
    · exact va_alen hC.1 hC.2.1 hw.2.1 hw.1 k t0 (hw.ar hi h3) ht rfl hdg kk
    · exact va_alen hC.1 hC.2.1 hw.2.1 hw.1 k t0 (hw.ai hi h1 h2 h3) ht rfl hdg kk
end ROWS
