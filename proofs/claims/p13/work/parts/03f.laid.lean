theorem cp_nat : Cond.native arraycopyName ∈ tb0 := tb_in (i := 489) (by decide +kernel) (by decide +kernel)
theorem cp_sta : Cond.static arraycopyName ∈ tb0 := tb_in (i := 488) (by decide +kernel) (by decide +kernel)
theorem cp_ini : Cond.initialized "java/lang/System" ∈ tb0 := tb_in (i := 124) (by decide +kernel) (by decide +kernel)
theorem cd_obj : Cond.code objectInit ⟨#[0xb1]⟩ 1 none ∈ tb0 := tb_in (i := 134) (by decide +kernel) (by decide +kernel)
theorem ms_ini : Cond.initialized "java/lang/Math" ∈ tb0 := tb_in (i := 126) (by decide +kernel) (by decide +kernel)
theorem ms_min_i : Cond.static Lib.Math.min.name ∈ tb0 := tb_in (i := 1054) (by decide +kernel) (by decide +kernel)
theorem mc_min_i : Cond.code Lib.Math.min.name Lib.Math.min.code 2 (some .int) ∈ tb0 := tb_in (i := 1055) (by decide +kernel) (by decide +kernel)
theorem ms_max_l : Cond.static Lib.MathLoose.max_long.x ∈ tb0 := tb_in (i := 857) (by decide +kernel) (by decide +kernel)
theorem mc_max_l : Cond.code Lib.MathLoose.max_long.x Lib.MathLoose.max_long.code 4 (some .long) ∈ tb0 := tb_in (i := 858) (by decide +kernel) (by decide +kernel)
theorem ms_min_l : Cond.static Lib.MathLoose.min_long.x ∈ tb0 := tb_in (i := 854) (by decide +kernel) (by decide +kernel)
theorem mc_min_l : Cond.code Lib.MathLoose.min_long.x Lib.MathLoose.min_long.code 4 (some .long) ∈ tb0 := tb_in (i := 855) (by decide +kernel) (by decide +kernel)
theorem ms_abs_l : Cond.static Lib.MathLoose.abs_long.x ∈ tb0 := tb_in (i := 765) (by decide +kernel) (by decide +kernel)
theorem mc_abs_l : Cond.code Lib.MathLoose.abs_long.x Lib.MathLoose.abs_long.code 2 (some .long) ∈ tb0 := tb_in (i := 766) (by decide +kernel) (by decide +kernel)
/-! the laying program's own words -/
def LF : Nat := 20000
def j_iushr (x y : Int32) : Int32 := (x.toUInt32 >>> (y.toUInt32 &&& Int32.toUInt32 31)).toInt32
def j_lushr (x : Int64) (y : Int32) : Int64 := (x.toUInt64 >>> (y.toInt64.toUInt64 &&& Int64.toUInt64 63)).toInt64
def j_lshl (x : Int64) (y : Int32) : Int64 := x <<< (y.toInt64 &&& 63)
def j_lshr (x : Int64) (y : Int32) : Int64 := x >>> (y.toInt64 &&& 63)
def oq {β : Type} (o : Option Nat) (a : Option β) (k : Nat → Option β) : Option β := match o with
  | none => a
  | some x => k x
def pq {α γ : Type} (f : Option α) (k : α → Option γ) : Option γ := match f with
  | none => none
  | some x => k x
def c3 {α γ : Type} (f : Option (α × sh × dt)) (k : α → sh → dt → Option γ) : Option γ := match f with
  | none => none
  | some q => k q.1 q.2.1 q.2.2
theorem oq_i {β : Type} {o : Option Nat} {a : Option β} {k : Nat → Option β} {r : β} (h : oq o a k = some r) : (o = none ∧ a = some r) ∨ ∃ x, o = some x ∧ k x = some r := by
  cases o with
  | none => exact Or.inl ⟨rfl, h⟩
  | some x => exact Or.inr ⟨x, rfl, h⟩
theorem oqN {β : Type} {a : Option β} {k : Nat → Option β} {r : β} (h : oq none a k = some r) : a = some r := h
theorem oqS {β : Type} {a : Option β} {k : Nat → Option β} {x : Nat} {r : β} (h : oq (some x) a k = some r) : k x = some r := h
theorem pq_i {α γ : Type} {f : Option α} {k : α → Option γ} {r : γ} (h : pq f k = some r) : ∃ x, f = some x ∧ k x = some r := by
  cases f with
  | none => cases h
  | some q => exact ⟨q, rfl, h⟩
theorem c3_i {α γ : Type} {f : Option (α × sh × dt)} {k : α → sh → dt → Option γ} {r : γ} (h : c3 f k = some r) : ∃ x S D, f = some (x, S, D) ∧ k x S D = some r := by
  cases f with
  | none => cases h
  | some q => exact ⟨q.1, q.2.1, q.2.2, rfl, h⟩
theorem i_yes {c : Prop} [Decidable c] {α : Type} {a b r : α} (hc : c) (h : (if c then a else b) = r) : a = r := (if_pos hc).symm.trans h
theorem i_no {c : Prop} [Decidable c] {α : Type} {a b r : α} (hc : ¬ c) (h : (if c then a else b) = r) : b = r := (if_neg hc).symm.trans h
theorem nar_z {x : Int32} (h : x = 0 ∨ x = 1) : narrow .boolean (.int x) = .int x := by rcases h with rfl | rfl <;> rfl
theorem fit_z {x : Int32} (h : x = 0 ∨ x = 1) : fits .boolean (.int x) = true := by rcases h with rfl | rfl <;> rfl
abbrev cpy_ok (sp dp n : Int32) (n0 n1 : Nat) : Prop := ¬ sp < 0 ∧ ¬ dp < 0 ∧ ¬ n < 0 ∧ sp.toNatClampNeg + n.toNatClampNeg ≤ n0 ∧ dp.toNatClampNeg + n.toNatClampNeg ≤ n1
section ROWF
variable {p : Program} {l : Launch} {e : Env} {R : Room} {s : State} {m : MethodId} {args : Array Value} {below : List Frame} {meth : Method} {c : Code} {H : Heap} {locs : List Loc} {cells slots : Nat} {Q : State → Prop}
variable {cc : ByteArray} {pc nL : Nat} {ret : Option FieldType} {ls : Array Slot} {rest : List Value} {own : String} {G : va_G} {cA : Nat → ClassId} {S : sh} {D : dt} {ad : Nat → Nat} {A : Nat → Prop}
variable {ci N k a index : Nat} {C : String} {T : u_T} {ty : Nat → FieldType}
theorem r_gI (hC : Cx own cc nL ret p s m args meth c) (hw : Wd G cA S D ad A s H locs) (hk : Kc ci C T N ty) (hi : Is S ad k a ci) (j : Nat) (hf : (fty ci)[j]? = some 0) (hlink : Cond.fieldLink own index (T j).1 (T j).2.1 (T j).2.2.1 ∈ tb0) (hdg : decode cc pc = .ok (.getfield index, 3))
    (kk : W p l e R s m args below meth c H locs cells slots Q (F0 m (pc + 3) ls (.int (gI D k j) :: rest))) : W p l e R s m args below meth c H locs cells slots Q (F0 m pc ls (.ref a :: rest)) := r_get hC hw hk hi j hf hlink hdg kk
theorem r_gL (hC : Cx own cc nL ret p s m args meth c) (hw : Wd G cA S D ad A s H locs) (hk : Kc ci C T N ty) (hi : Is S ad k a ci) (j : Nat) (hf : (fty ci)[j]? = some 1) (hlink : Cond.fieldLink own index (T j).1 (T j).2.1 (T j).2.2.1 ∈ tb0) (hdg : decode cc pc = .ok (.getfield index, 3))
    (kk : W p l e R s m args below meth c H locs cells slots Q (F0 m (pc + 3) ls (.long (gL D k j) :: rest))) : W p l e R s m args below meth c H locs cells slots Q (F0 m pc ls (.ref a :: rest)) := r_get hC hw hk hi j hf hlink hdg kk
theorem r_pI (hC : Cx own cc nL ret p s m args meth c) (hw : Wd G cA S D ad A s H locs) (hk : Kc ci C T N ty) (hi : Is S ad k a ci) (j : Nat) {x : Int32} (hf : (fty ci)[j]? = some 0) (hlink : Cond.fieldLink own index (T j).1 (T j).2.1 (T j).2.2.1 ∈ tb0) (hfin : (T j).2.2.2 = false) (hn : narrow (ty j) (.int x) = .int x) (hfit : fits (ty j) (.int x) = true) (hdg : decode cc pc = .ok (.putfield index, 3))
    (kk : ∀ D1, D1 = pI D k j x → ∀ (H : Heap) (locs : List Loc), Wd G cA S D1 ad A s H locs → W p l e R s m args below meth c H locs cells slots Q (F0 m (pc + 3) ls rest)) : W p l e R s m args below meth c H locs cells slots Q (F0 m pc ls (.int x :: .ref a :: rest)) :=
  r_put hC hw hk hi j hf (fv_pI D ad k j x) (pI_ne D ad k j x) (pI_en cA S D ad k j x) (hw.2.2.2.2.2.1.pI k j x) hlink hfin hn hfit hdg (kk _ rfl)
theorem r_pL (hC : Cx own cc nL ret p s m args meth c) (hw : Wd G cA S D ad A s H locs) (hk : Kc ci C T N ty) (hi : Is S ad k a ci) (j : Nat) {x : Int64} (hf : (fty ci)[j]? = some 1) (hlink : Cond.fieldLink own index (T j).1 (T j).2.1 (T j).2.2.1 ∈ tb0) (hfin : (T j).2.2.2 = false) (hn : narrow (ty j) (.long x) = .long x) (hfit : fits (ty j) (.long x) = true) (hdg : decode cc pc = .ok (.putfield index, 3))
    (kk : ∀ D1, D1 = pL D k j x → ∀ (H : Heap) (locs : List Loc), Wd G cA S D1 ad A s H locs → W p l e R s m args below meth c H locs cells slots Q (F0 m (pc + 3) ls rest)) : W p l e R s m args below meth c H locs cells slots Q (F0 m pc ls (.long x :: .ref a :: rest)) :=
  r_put hC hw hk hi j hf (fv_pL D ad k j x) (pL_ne D ad k j x) (pL_en cA S D ad k j x) (hw.2.2.2.2.2.1.pL k j x) hlink hfin hn hfit hdg (kk _ rfl)
theorem r_pR (hC : Cx own cc nL ret p s m args meth c) (hw : Wd G cA S D ad A s H locs) (hk : Kc ci C T N ty) (hi : Is S ad k a ci) (j : Nat) {o b κ : Nat} (hf : (fty ci)[j]? = some 2) (hlink : Cond.fieldLink own index (T j).1 (T j).2.1 (T j).2.2.1 ∈ tb0) (hfin : (T j).2.2.2 = false) (hn : narrow (ty j) (.ref b) = .ref b) (hfit : fits (ty j) (.ref b) = true) (hκ : rk ci j = κ) (ho : Is S ad o b κ) (hdg : decode cc pc = .ok (.putfield index, 3))
    (kk : ∀ D1, D1 = pR D k j (some o) → ∀ (H : Heap) (locs : List Loc), Wd G cA S D1 ad A s H locs → W p l e R s m args below meth c H locs cells slots Q (F0 m (pc + 3) ls rest)) : W p l e R s m args below meth c H locs cells slots Q (F0 m pc ls (.ref b :: .ref a :: rest)) :=
  r_put hC hw hk hi j hf ((fv_pR D ad k j (some o)).trans (by show Value.ref (ad o) = _; rw [ho.2.2])) (pR_ne D ad k j _) (pR_en cA S D ad k j _) (hw.2.2.2.2.2.1.pR (fun x hx => by cases hx; exact ⟨ho.1, by rw [ho.2.1, hi.2.1, hκ]⟩)) hlink hfin hn hfit hdg (kk _ rfl)
theorem r_pIF (hC : Cx own cc nL ret p s m args meth c) (hin : meth.name = "<init>") (hw : Wd G cA S D ad A s H locs) (hk : Kc ci C T N ty) (hi : Is S ad k a ci) (j : Nat) {x : Int32} (hf : (fty ci)[j]? = some 0) (hlink : Cond.fieldLink own index (T j).1 (T j).2.1 (T j).2.2.1 ∈ tb0) (hfin : (T j).2.2.2 = true) (hdecl : (T j).1 = own) (hn : narrow (ty j) (.int x) = .int x) (hfit : fits (ty j) (.int x) = true) (hdg : decode cc pc = .ok (.putfield index, 3))
    (kk : ∀ D1, D1 = pI D k j x → ∀ (H : Heap) (locs : List Loc), Wd G cA S D1 ad A s H locs → W p l e R s m args below meth c H locs cells slots Q (F0 m (pc + 3) ls rest)) : W p l e R s m args below meth c H locs cells slots Q (F0 m pc ls (.int x :: .ref a :: rest)) :=
  r_putF hC hin hw hk hi j hf (fv_pI D ad k j x) (pI_ne D ad k j x) (pI_en cA S D ad k j x) (hw.2.2.2.2.2.1.pI k j x) hlink hfin hdecl hn hfit hdg (kk _ rfl)
theorem r_pRF (hC : Cx own cc nL ret p s m args meth c) (hin : meth.name = "<init>") (hw : Wd G cA S D ad A s H locs) (hk : Kc ci C T N ty) (hi : Is S ad k a ci) (j : Nat) {o b κ : Nat} (hf : (fty ci)[j]? = some 2) (hlink : Cond.fieldLink own index (T j).1 (T j).2.1 (T j).2.2.1 ∈ tb0) (hfin : (T j).2.2.2 = true) (hdecl : (T j).1 = own) (hn : narrow (ty j) (.ref b) = .ref b) (hfit : fits (ty j) (.ref b) = true) (hκ : rk ci j = κ) (ho : Is S ad o b κ) (hdg : decode cc pc = .ok (.putfield index, 3))
    (kk : ∀ D1, D1 = pR D k j (some o) → ∀ (H : Heap) (locs : List Loc), Wd G cA S D1 ad A s H locs → W p l e R s m args below meth c H locs cells slots Q (F0 m (pc + 3) ls rest)) : W p l e R s m args below meth c H locs cells slots Q (F0 m pc ls (.ref b :: .ref a :: rest)) :=
  r_putF hC hin hw hk hi j hf ((fv_pR D ad k j (some o)).trans (by show Value.ref (ad o) = _; rw [ho.2.2])) (pR_ne D ad k j _) (pR_en cA S D ad k j _) (hw.2.2.2.2.2.1.pR (fun x hx => by cases hx; exact ⟨ho.1, by rw [ho.2.1, hi.2.1, hκ]⟩)) hlink hfin hdecl hn hfit hdg (kk _ rfl)
theorem r_ias (hC : Cx own cc nL ret p s m args meth c) (hw : Wd G cA S D ad A s H locs) (hi : Is S ad k a 100) {i x : Int32} (hin : vp_in i (sA S k)) (hdg : decode cc pc = .ok (.iastore, 1))
    (kk : ∀ D1, D1 = pI D k i.toNatClampNeg x → ∀ (H : Heap) (locs : List Loc), Wd G cA S D1 ad A s H locs → W p l e R s m args below meth c H locs cells slots Q (F0 m (pc + 1) ls rest)) : W p l e R s m args below meth c H locs cells slots Q (F0 m pc ls (.int x :: .int i :: .ref a :: rest)) := r_iast hC hw hi hin hdg (kk _ rfl)
theorem r_bas (hC : Cx own cc nL ret p s m args meth c) (hw : Wd G cA S D ad A s H locs) (hi : Is S ad k a 102) {i x : Int32} (hin : vp_in i (sA S k)) (hdg : decode cc pc = .ok (.bastore, 1))
    (kk : ∀ D1, D1 = pI D k i.toNatClampNeg (vp_nar .byte x) → ∀ (H : Heap) (locs : List Loc), Wd G cA S D1 ad A s H locs → W p l e R s m args below meth c H locs cells slots Q (F0 m (pc + 1) ls rest)) : W p l e R s m args below meth c H locs cells slots Q (F0 m pc ls (.int x :: .int i :: .ref a :: rest)) := r_bast hC hw hi hin hdg (kk _ rfl)
theorem r_zas (hC : Cx own cc nL ret p s m args meth c) (hw : Wd G cA S D ad A s H locs) (hi : Is S ad k a 103) {i x : Int32} (hin : vp_in i (sA S k)) (hdg : decode cc pc = .ok (.bastore, 1))
    (kk : ∀ D1, D1 = pI D k i.toNatClampNeg (vp_nar .boolean x) → ∀ (H : Heap) (locs : List Loc), Wd G cA S D1 ad A s H locs → W p l e R s m args below meth c H locs cells slots Q (F0 m (pc + 1) ls rest)) : W p l e R s m args below meth c H locs cells slots Q (F0 m pc ls (.int x :: .int i :: .ref a :: rest)) := r_zast hC hw hi hin hdg (kk _ rfl)
theorem r_las (hC : Cx own cc nL ret p s m args meth c) (hw : Wd G cA S D ad A s H locs) (hi : Is S ad k a 101) {i : Int32} {x : Int64} (hin : vp_in i (sA S k)) (hdg : decode cc pc = .ok (.lastore, 1))
    (kk : ∀ D1, D1 = pL D k i.toNatClampNeg x → ∀ (H : Heap) (locs : List Loc), Wd G cA S D1 ad A s H locs → W p l e R s m args below meth c H locs cells slots Q (F0 m (pc + 1) ls rest)) : W p l e R s m args below meth c H locs cells slots Q (F0 m pc ls (.long x :: .int i :: .ref a :: rest)) := r_last hC hw hi hin hdg (kk _ rfl)
theorem r_aas (hC : Cx own cc nL ret p s m args meth c) (hw : Wd G cA S D ad A s H locs) {κ : Nat} (hi : Is S ad k a κ) (h3 : 200 ≤ κ) (t0 : Nat) {κ' o b : Nat} (hk : Kc κ' C T N ty) (ht : (tysOf cA)[t0]? = some (cA κ, .object C)) (ho : Is S ad o b κ') (hκ : ∀ j, rk κ j = κ') {i : Int32} (hin : vp_in i (sA S k)) (hdg : decode cc pc = .ok (.aastore, 1))
    (kk : ∀ D1, D1 = pR D k i.toNatClampNeg (some o) → ∀ (H : Heap) (locs : List Loc), Wd G cA S D1 ad A s H locs → W p l e R s m args below meth c H locs cells slots Q (F0 m (pc + 1) ls rest)) : W p l e R s m args below meth c H locs cells slots Q (F0 m pc ls (.ref b :: .int i :: .ref a :: rest)) := r_aast hC hw hi h3 t0 hk ht ho hκ hin hdg (kk _ rfl)
theorem r_aasN (hC : Cx own cc nL ret p s m args meth c) (hw : Wd G cA S D ad A s H locs) {κ : Nat} (hi : Is S ad k a κ) (h3 : 200 ≤ κ) (t0 : Nat) (ht : (tysOf cA)[t0]? = some (cA κ, .object C)) {i : Int32} (hin : vp_in i (sA S k)) (hdg : decode cc pc = .ok (.aastore, 1))
    (kk : ∀ D1, D1 = pR D k i.toNatClampNeg none → ∀ (H : Heap) (locs : List Loc), Wd G cA S D1 ad A s H locs → W p l e R s m args below meth c H locs cells slots Q (F0 m (pc + 1) ls rest)) : W p l e R s m args below meth c H locs cells slots Q (F0 m pc ls (.null :: .int i :: .ref a :: rest)) := by
  refine va_astqN hC.1 hC.2.1 hw.2.1 hw.1 hw.2.2.1 hw.2.2.2.1 k t0 (hw.ar hi h3) ht hin hdg (fun H1 locs1 h1 h2 h4 => ?_)
  have e1 : (cls cA S D ad).set k (a, .inl (cA κ, sA S k, .inr (.inr (.inr (.inr (va_up (fun i => (gR D k i).map ad) i.toNatClampNeg none)))))) = cls cA S (pR D k i.toNatClampNeg none) ad := by
    obtain ⟨g1, g2, g3⟩ := hi
    rw [← g3]
    refine cls_set g1 ?_ (pR_en cA S D ad k _ _)
    rw [ent_r g2 h3]
    congr 7
    funext q
    rw [gR_pR]
    by_cases h : q = i.toNatClampNeg
    · subst h; simp [va_up]
    · simp [va_up, h]
  rw [e1] at h1 h2
  exact kk _ rfl H1 locs1 ⟨h1, hw.2.1, h2, h4, hw.2.2.2.2.1, hw.2.2.2.2.2.1.pR (fun x hx => by cases hx), hw.2.2.2.2.2.2⟩
/-- where a maker stands: S0, ad0 at its entry -/
def Al (S0 : sh) (ad0 : Nat → Nat) (S : sh) (ad : Nat → Nat) (cells slots : Nat) : Prop := cells + sN S0 = sN S ∧ slots + sZ S0 = sZ S ∧ ∀ k, k < sN S0 → ad k = ad0 k
theorem Al.rf (S : sh) (ad : Nat → Nat) : Al S ad S ad 0 0 := ⟨Nat.zero_add _, Nat.zero_add _, fun _ _ => rfl⟩
theorem Al.new {S0 S : sh} {ad0 ad : Nat → Nat} {cells slots : Nat} (h : Al S0 ad0 S ad cells slots) (κ n z q : Nat) : Al S0 ad0 (aS S κ n z) (va_up ad (sN S) q) (cells + 1) (slots + z) := by
  obtain ⟨h1, h2, h3⟩ := h
  refine ⟨by rw [sN_aS]; omega, by rw [sZ_aS]; omega, fun k hk => ?_⟩
  rw [up_lt k (by omega)]
  exact h3 k hk
theorem Al.call {S0 S S1 : sh} {ad0 ad ad1 : Nat → Nat} {cells slots : Nat} (h : Al S0 ad0 S ad cells slots) (hE : Ext S S1) (ha : ∀ k, k < sN S → ad1 k = ad k) : Al S0 ad0 S1 ad1 (cells + (sN S1 - sN S)) (slots + (sZ S1 - sZ S)) := by
  obtain ⟨h1, h2, h3⟩ := h
  have e1 := hE.1
  have e2 := hE.2.1
  exact ⟨by omega, by omega, fun k hk => (ha k (by omega)).trans (h3 k hk)⟩
theorem Al.room {S0 S S' : sh} {ad0 ad : Nat → Nat} {κ n z : Nat} (h : Al S0 ad0 S ad cells slots) (ho : R.cells = sN S' - sN S0 ∧ R.slots = sZ S' - sZ S0) (hE : Ext (aS S κ n z) S') : cells + 1 ≤ R.cells ∧ slots + z ≤ R.slots := by
  obtain ⟨h1, h2, -⟩ := h
  have e1 := hE.1
  have e2 := hE.2.1
  rw [sN_aS] at e1
  rw [sZ_aS] at e2
  omega
theorem Al.roomC {S0 S S1 S' : sh} {ad0 ad : Nat → Nat} (h : Al S0 ad0 S ad cells slots) (ho : R.cells = sN S' - sN S0 ∧ R.slots = sZ S' - sZ S0) (hE : Ext S S1) (hE2 : Ext S1 S') : cells + (sN S1 - sN S) ≤ R.cells ∧ slots + (sZ S1 - sZ S) ≤ R.slots := by
  obtain ⟨h1, h2, -⟩ := h
  have e1 := hE.1
  have e2 := hE.2.1
  have e3 := hE2.1
  have e4 := hE2.2.1
  omega
theorem Al.le {S0 S S' : sh} {ad0 ad : Nat → Nat} (h : Al S0 ad0 S ad cells slots) (ho : R.cells = sN S' - sN S0 ∧ R.slots = sZ S' - sZ S0) (hE : Ext S S') : cells ≤ R.cells ∧ slots ≤ R.slots := by
  obtain ⟨h1, h2, -⟩ := h
  have e1 := hE.1
  have e2 := hE.2.1
  omega
theorem r_vretA {S0 : sh} {ad0 : Nat → Nat} (hC : Cx own cc nL none p s m args meth c) (hw : Wd G cA S D ad A s H locs) (hc : Al S0 ad0 S ad cells slots) (hdg : decode cc pc = .ok (.return_, 1)) : W p l e R s m args below meth c H locs cells slots (MQ below (Qa (fun _ => none) (fun ad' => (∀ k, k < sN S0 → ad' k = ad0 k) ∧ True) (fun ad' => wpost G cA S D ad' A) A) args s (sN S - sN S0) (sZ S - sZ S0) A) (F0 m pc ls []) := by
  obtain ⟨h1, h2, h3⟩ := hc
  rw [show sN S - sN S0 = cells by omega, show sZ S - sZ S0 = slots by omega]
  exact W.vret hC.1 hC.2.1 hC.2.2.2.2.2.1 (fun t ht hW => ⟨ad, rfl, ⟨h3, trivial⟩, ⟨by rw [ht]; exact hw.1, va_K.moved hW.alike hw.2.1, hw.2.2.1, hw.2.2.2.2.2.1⟩, hw.2.2.2.1.F ht⟩) hw.2.2.2.1.2.2 hdg hC.2.2.2.2.2.2
theorem r_iretA {S0 : sh} {ad0 : Nat → Nat} {v : Int32} (hC : Cx own cc nL (some .int) p s m args meth c) (hw : Wd G cA S D ad A s H locs) (hc : Al S0 ad0 S ad cells slots) (hdg : decode cc pc = .ok (.ireturn, 1)) : W p l e R s m args below meth c H locs cells slots (MQ below (Qa (fun _ => (some (.int v))) (fun ad' => (∀ k, k < sN S0 → ad' k = ad0 k) ∧ True) (fun ad' => wpost G cA S D ad' A) A) args s (sN S - sN S0) (sZ S - sZ S0) A) (F0 m pc ls [.int v]) := by
  obtain ⟨h1, h2, h3⟩ := hc
  rw [show sN S - sN S0 = cells by omega, show sZ S - sZ S0 = slots by omega]
  exact W.iret hC.1 hC.2.1 hC.2.2.2.2.2.1 (fun t ht hW => ⟨ad, rfl, ⟨h3, trivial⟩, ⟨by rw [ht]; exact hw.1, va_K.moved hW.alike hw.2.1, hw.2.2.1, hw.2.2.2.2.2.1⟩, hw.2.2.2.1.F ht⟩) hw.2.2.2.1.2.2 hdg hC.2.2.2.2.2.2
theorem q_set {D' : dt} (hw : Wd G cA S D ad A s H locs) {κ : Nat} {x : vp_A} (hi : Is S ad k a κ) (he : ent cA S D' ad k = .inl (cA κ, x)) (ho : ∀ k', k' ≠ k → ent cA S D' ad k' = ent cA S D ad k') : (cls cA S D ad).set k (a, .inl (cA κ, x)) = cls cA S D' ad := by
  obtain ⟨g1, g2, g3⟩ := hi
  rw [← g3]
  exact cls_set g1 he ho
theorem r_cpyI {k0 a0 : Nat} (hC : Cx own cc nL ret p s m args meth c) (hw : Wd G cA S D ad A s H locs) (hi0 : Is S ad k0 a0 100) (hi : Is S ad k a 100) {sp dp n : Int32} (hz : cpy_ok sp dp n (sA S k0) (sA S k)) (hml : c.maxLocals = ls.size) (hlink : Cond.methodLink own index arraycopyName ∈ tb0) (hframes : 1 ≤ R.frames) (hlocals : (rest.map fun v => v.category).sum + (nativeFrameWords "java/lang/System" "arraycopy" 5 + 11) ≤ R.locals) (hdg : decode cc pc = .ok (.invokestatic index, 3))
    (kk : ∀ D1, D1 = qI D k (va_cpy (fun i => gI D k0 i) (fun i => gI D k i) sp.toNatClampNeg dp.toNatClampNeg n.toNatClampNeg) → ∀ (H : Heap) (locs : List Loc), Wd G cA S D1 ad A s H locs → W p l e R s m args below meth c H locs cells slots Q (F0 m (pc + 3) ls rest)) : W p l e R s m args below meth c H locs cells slots Q (F0 m pc ls (.int n :: .int dp :: .ref a :: .int sp :: .ref a0 :: rest)) := by
  refine va_copyi (ty := .int) hC.1 hC.2.1 hml hC.2.2.2.1 (hC.2.2.2.2.1 _ hlink) (hC.2.2.2.2.1 _ cp_nat) (hC.2.2.2.2.1 _ cp_sta) (hC.2.2.2.2.1 _ cp_ini) hw.2.1 hw.1 hw.2.2.1 hw.2.2.2.1 k0 k 0 0 (hw.ai hi0 (by decide) (by decide) (by decide)) (hw.ai hi (by decide) (by decide) (by decide)) rfl rfl rfl hz.1 hz.2.1 hz.2.2.1 hz.2.2.2.1 hz.2.2.2.2 (fun _ _ => rfl) hframes hlocals hdg (fun H1 locs1 h1 h2 h3 => ?_)
  rw [q_set (D' := qI D k (va_cpy (fun i => gI D k0 i) (fun i => gI D k i) sp.toNatClampNeg dp.toNatClampNeg n.toNatClampNeg)) hw hi (by rw [ent_i hi.2.1 (by decide) (by decide) (by decide)]; simp [gI_qI]) (fun k' h => ent_ne (fun j => by rw [gI_qI, if_neg h]) (fun _ => rfl) (fun _ => rfl))] at h1 h2
  exact kk _ rfl H1 locs1 ⟨h1, hw.2.1, h2, h3, hw.2.2.2.2.1, hw.2.2.2.2.2.1.qI k _, hw.2.2.2.2.2.2⟩
theorem r_cpyL {k0 a0 : Nat} (hC : Cx own cc nL ret p s m args meth c) (hw : Wd G cA S D ad A s H locs) (hi0 : Is S ad k0 a0 101) (hi : Is S ad k a 101) {sp dp n : Int32} (hz : cpy_ok sp dp n (sA S k0) (sA S k)) (hml : c.maxLocals = ls.size) (hlink : Cond.methodLink own index arraycopyName ∈ tb0) (hframes : 1 ≤ R.frames) (hlocals : (rest.map fun v => v.category).sum + (nativeFrameWords "java/lang/System" "arraycopy" 5 + 11) ≤ R.locals) (hdg : decode cc pc = .ok (.invokestatic index, 3))
    (kk : ∀ D1, D1 = qL D k (va_cpy (fun i => gL D k0 i) (fun i => gL D k i) sp.toNatClampNeg dp.toNatClampNeg n.toNatClampNeg) → ∀ (H : Heap) (locs : List Loc), Wd G cA S D1 ad A s H locs → W p l e R s m args below meth c H locs cells slots Q (F0 m (pc + 3) ls rest)) : W p l e R s m args below meth c H locs cells slots Q (F0 m pc ls (.int n :: .int dp :: .ref a :: .int sp :: .ref a0 :: rest)) := by
  refine va_copyl (ty := .long) hC.1 hC.2.1 hml hC.2.2.2.1 (hC.2.2.2.2.1 _ hlink) (hC.2.2.2.2.1 _ cp_nat) (hC.2.2.2.2.1 _ cp_sta) (hC.2.2.2.2.1 _ cp_ini) hw.2.1 hw.1 hw.2.2.1 hw.2.2.2.1 k0 k 1 1 (hw.al hi0) (hw.al hi) rfl rfl rfl hz.1 hz.2.1 hz.2.2.1 hz.2.2.2.1 hz.2.2.2.2 (fun _ _ => rfl) hframes hlocals hdg (fun H1 locs1 h1 h2 h3 => ?_)
  rw [q_set (κ := 101) (D' := qL D k (va_cpy (fun i => gL D k0 i) (fun i => gL D k i) sp.toNatClampNeg dp.toNatClampNeg n.toNatClampNeg)) hw hi (by rw [ent_l hi.2.1]; simp [gL_qL]) (fun k' h => ent_ne (fun _ => rfl) (fun j => by rw [gL_qL, if_neg h]) (fun _ => rfl))] at h1 h2
  exact kk _ rfl H1 locs1 ⟨h1, hw.2.1, h2, h3, hw.2.2.2.2.1, hw.2.2.2.2.2.1.qL k _, hw.2.2.2.2.2.2⟩
end ROWF
