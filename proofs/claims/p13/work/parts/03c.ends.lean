def wpre (G : va_G) (cA : Nat → ClassId) (S : sh) (D : dt) (ad : Nat → Nat) (sz : Nat) (U : State) : Prop := U.heap.size = sz ∧ va_P G vwCl (cls cA S D ad) U.heap ∧ va_K G vwCl (tysOf cA) U ∧ va_D (fun _ => True) (cls cA S D ad) ∧ WT S D ∧ Xw U
def wpost (G : va_G) (cA : Nat → ClassId) (S : sh) (D : dt) (ad : Nat → Nat) (A : Nat → Prop) (t : State) : Prop := va_P G vwCl (cls cA S D ad) t.heap ∧ va_K G vwCl (tysOf cA) t ∧ va_D A (cls cA S D ad) ∧ WT S D
/-- a method's end: what it returns, what holds of it, the world behind it, the frame -/
def Qn (v : Option Value) (P : Prop) (B : State → Prop) (A : Nat → Prop) : Array Value → State → Outcome → State → Prop := fun _ st oc t => oc = .returned v ∧ P ∧ B t ∧ va_F A st t
def Qa (v : (Nat → Nat) → Option Value) (P : (Nat → Nat) → Prop) (B : (Nat → Nat) → State → Prop) (A : Nat → Prop) : Array Value → State → Outcome → State → Prop := fun _ st oc t => ∃ ad', oc = .returned (v ad') ∧ P ad' ∧ B ad' t ∧ va_F A st t
/-- the contract of a method that makes nothing -/
def Co (l : Launch) (y : MethodName) (ws : List Cond) (f lo : Nat) (av : List Value) (G : va_G) (cA : Nat → ClassId) (S : sh) (D : dt) (ad : Nat → Nat) (sz : Nat) (v : Option Value) (P : Prop) (D' : dt) : Prop :=
  Met l y ws { frames := f, cells := 0, slots := 0, locals := lo } (va_Pc av (wpre G cA S D ad sz)) (Qn v P (wpost G cA S D' ad (va_A (cls cA S D ad) sz)) (va_A (cls cA S D ad) sz)) 0 0 (va_A (cls cA S D ad) sz)
/-- the contract of a method that makes cells: the addresses of the new ones come behind it -/
def CoA (l : Launch) (y : MethodName) (ws : List Cond) (f lo : Nat) (av : List Value) (G : va_G) (cA : Nat → ClassId) (S : sh) (D : dt) (ad : Nat → Nat) (sz : Nat) (v : (Nat → Nat) → Option Value) (P : Prop) (S' : sh) (D' : dt) : Prop :=
  Met l y ws { frames := f, cells := sN S' - sN S, slots := sZ S' - sZ S, locals := lo } (va_Pc av (wpre G cA S D ad sz)) (Qa v (fun ad' => (∀ k, k < sN S → ad' k = ad k) ∧ P) (fun ad' => wpost G cA S' D' ad' (va_A (cls cA S D ad) sz)) (va_A (cls cA S D ad) sz)) (sN S' - sN S) (sZ S' - sZ S) (va_A (cls cA S D ad) sz)
theorem wpre_blind (av : List Value) (G : va_G) (cA : Nat → ClassId) (S : sh) (D : dt) (ad : Nat → Nat) (sz : Nat) : FrameBlind (va_Pc av (wpre G cA S D ad sz)) := fun a U g mk q => by
  obtain ⟨q0, q1, qP, qK, qD, qT, qX⟩ := q
  exact ⟨q0, q1, qP, va_K.moved (u := U) (U := U.calling g mk a) (Vm.Alike.refl U.vm) qK, qD, qT, Xw.same rfl qX⟩
theorem Wd.pre {G : va_G} {cA : Nat → ClassId} {S : sh} {D : dt} {ad : Nat → Nat} {A : Nat → Prop} {s : State} {H : Heap} {locs : List Loc} (hw : Wd G cA S D ad A s H locs) (av : List Value) : ∀ U : State, U.heap = H → s.WarmedH U.vm → va_Pc av (wpre G cA S D ad H.size) av.toArray U := fun U hU hW =>
  ⟨rfl, by rw [hU], by rw [hU]; exact hw.1, va_K.moved hW.alike hw.2.1, hw.2.2.1.weaken (fun _ _ _ _ => trivial), hw.2.2.2.2.2.1, Xw.warm hW hw.2.2.2.2.2.2⟩
theorem Wd.free {G : va_G} {cA : Nat → ClassId} {S : sh} {D : dt} {ad : Nat → Nat} {A : Nat → Prop} {s : State} {H : Heap} {locs : List Loc} (hw : Wd G cA S D ad A s H locs) : ∀ q, va_A (cls cA S D ad) H.size q → A q := by
  intro q h
  rcases h with ⟨k, e, h⟩ | h
  · exact hw.2.2.1.2 k _ h
  · exact hw.2.2.2.2.1 q (Nat.le_trans hw.2.2.2.1.1 h)
/-- the world at a method's entry -/
theorem Wd.entry {G : va_G} {cA : Nat → ClassId} {S : sh} {D : dt} {ad : Nat → Nat} {s : State} (hP : va_P G vwCl (cls cA S D ad) s.heap) (hK : va_K G vwCl (tysOf cA) s) (hD : va_D (fun _ => True) (cls cA S D ad)) (hT : WT S D) (hX : Xw s) : Wd G cA S D ad (va_A (cls cA S D ad) s.heap.size) s s.heap [] :=
  ⟨hP, hK, hD.self, va_S.rf, fun _ h => Or.inr h, hT, hX⟩
section CALLS
variable {p : Program} {l : Launch} {e : Env} {R : Room} {s : State} {m : MethodId} {args : Array Value} {below : List Frame} {meth : Method} {c : Code} {H : Heap} {locs : List Loc} {cells slots : Nat} {Q : State → Prop}
variable {cc : ByteArray} {pc nL : Nat} {ret : Option FieldType} {ls : Array Slot} {rest : List Value} {own : String} {G : va_G} {cA : Nat → ClassId} {S : sh} {D : dt} {ad : Nat → Nat} {A : Nat → Prop}
theorem r_back {st0 : List Value} {a : Array Value} {v : Option Value} {P : Prop} {D' : dt} {mc ms : Nat} (hw : Wd G cA S D ad A s H locs)
    (hr : va_Run p l e R s m args below meth c H locs cells slots mc ms (F0 m pc ls st0) rest (Qn v P (wpost G cA S D' ad (va_A (cls cA S D ad) H.size)) (va_A (cls cA S D ad) H.size) a) (va_A (cls cA S D ad) H.size))
    (kk : P → ∀ (H : Heap) (locs : List Loc), Wd G cA S D' ad A s H locs → W p l e R s m args below meth c H locs (cells + mc) (slots + ms) Q (F0 m (pc + 3) ls (v.toList ++ rest))) : W p l e R s m args below meth c H locs cells slots Q (F0 m pc ls st0) := by
  intro T hT X
  obtain ⟨v', st₀, t, T', L, h0, X', hL, e1, e2, ⟨hv, hP, ⟨b1, b2, b3, b4⟩, hz, hk⟩, st⟩ := hr T hT X
  cases hv
  rw [h0] at hz hk
  have hS := hw.2.2.2.1
  have hF := hw.free
  obtain ⟨t2, a1, b1⟩ := kk hP T'.heap (locs ++ L) ⟨by rw [e1]; exact b1, va_K.moved (by rw [← e2]; exact X'.warmed.alike.symm) b2, b3.weaken (fun _ q _ h => hF q.1 h),
    ⟨Nat.le_trans hS.1 (by rw [e1]; exact hz), fun q h1 h2 => by rw [e1, hk q (Nat.lt_of_lt_of_le h1 hS.1) (fun z => h2 (hF q z))]; exact hS.2.1 q h1 h2, fun q hq => by
      rcases List.mem_append.mp hq with h | h
      · exact hS.2.2 q h
      · exact hF _ (hL q h)⟩, hw.2.2.2.2.1, b4, hw.2.2.2.2.2.2⟩ T' rfl X'
  exact ⟨t2, st t2 a1, b1⟩
theorem r_backA {st0 : List Value} {a : Array Value} {v : (Nat → Nat) → Option Value} {P : (Nat → Nat) → Prop} {S' : sh} {D' : dt} {mc ms : Nat} (hw : Wd G cA S D ad A s H locs)
    (hr : va_Run p l e R s m args below meth c H locs cells slots mc ms (F0 m pc ls st0) rest (Qa v P (fun ad' => wpost G cA S' D' ad' (va_A (cls cA S D ad) H.size)) (va_A (cls cA S D ad) H.size) a) (va_A (cls cA S D ad) H.size))
    (kk : ∀ ad', P ad' → ∀ (H : Heap) (locs : List Loc), Wd G cA S' D' ad' A s H locs → W p l e R s m args below meth c H locs (cells + mc) (slots + ms) Q (F0 m (pc + 3) ls ((v ad').toList ++ rest))) : W p l e R s m args below meth c H locs cells slots Q (F0 m pc ls st0) := by
  intro T hT X
  obtain ⟨v', st₀, t, T', L, h0, X', hL, e1, e2, ⟨ad', hv, hP, ⟨b1, b2, b3, b4⟩, hz, hk⟩, st⟩ := hr T hT X
  cases hv
  rw [h0] at hz hk
  have hS := hw.2.2.2.1
  have hF := hw.free
  obtain ⟨t2, a1, b1⟩ := kk ad' hP T'.heap (locs ++ L) ⟨by rw [e1]; exact b1, va_K.moved (by rw [← e2]; exact X'.warmed.alike.symm) b2, b3.weaken (fun _ q _ h => hF q.1 h),
    ⟨Nat.le_trans hS.1 (by rw [e1]; exact hz), fun q h1 h2 => by rw [e1, hk q (Nat.lt_of_lt_of_le h1 hS.1) (fun z => h2 (hF q z))]; exact hS.2.1 q h1 h2, fun q hq => by
      rcases List.mem_append.mp hq with h | h
      · exact hS.2.2 q h
      · exact hF _ (hL q h)⟩, hw.2.2.2.2.1, b4, hw.2.2.2.2.2.2⟩ T' rfl X'
  exact ⟨t2, st t2 a1, b1⟩
-- returns
theorem r_iret {v : Int32} {D' : dt} (hC : Cx own cc nL (some .int) p s m args meth c) (hw : Wd G cA S D' ad A s H locs) (hdg : decode cc pc = .ok (.ireturn, 1)) : W p l e R s m args below meth c H locs cells slots (MQ below (Qn (some (.int v)) True (wpost G cA S D' ad A) A) args s cells slots A) (F0 m pc ls [.int v]) :=
  W.iret hC.1 hC.2.1 hC.2.2.2.2.2.1 (fun t ht hW => ⟨rfl, trivial, ⟨by rw [ht]; exact hw.1, va_K.moved hW.alike hw.2.1, hw.2.2.1, hw.2.2.2.2.2.1⟩, hw.2.2.2.1.F ht⟩) hw.2.2.2.1.2.2 hdg hC.2.2.2.2.2.2
theorem r_zret {v : Int32} {D' : dt} (hC : Cx own cc nL (some .boolean) p s m args meth c) (hw : Wd G cA S D' ad A s H locs) (hv : v = 0 ∨ v = 1) (hdg : decode cc pc = .ok (.ireturn, 1)) : W p l e R s m args below meth c H locs cells slots (MQ below (Qn (some (.int v)) True (wpost G cA S D' ad A) A) args s cells slots A) (F0 m pc ls [.int v]) :=
  W.zret hC.1 hC.2.1 hC.2.2.2.2.2.1 (by rcases hv with rfl | rfl <;> rfl) (fun t ht hW => ⟨rfl, trivial, ⟨by rw [ht]; exact hw.1, va_K.moved hW.alike hw.2.1, hw.2.2.1, hw.2.2.2.2.2.1⟩, hw.2.2.2.1.F ht⟩) hw.2.2.2.1.2.2 hdg hC.2.2.2.2.2.2
theorem r_lret {v : Int64} {D' : dt} (hC : Cx own cc nL (some .long) p s m args meth c) (hw : Wd G cA S D' ad A s H locs) (hdg : decode cc pc = .ok (.lreturn, 1)) : W p l e R s m args below meth c H locs cells slots (MQ below (Qn (some (.long v)) True (wpost G cA S D' ad A) A) args s cells slots A) (F0 m pc ls [.long v]) :=
  W.lret hC.1 hC.2.1 hC.2.2.2.2.2.1 (fun t ht hW => ⟨rfl, trivial, ⟨by rw [ht]; exact hw.1, va_K.moved hW.alike hw.2.1, hw.2.2.1, hw.2.2.2.2.2.1⟩, hw.2.2.2.1.F ht⟩) hw.2.2.2.1.2.2 hdg hC.2.2.2.2.2.2
theorem r_vret {D' : dt} (hC : Cx own cc nL none p s m args meth c) (hw : Wd G cA S D' ad A s H locs) (hdg : decode cc pc = .ok (.return_, 1)) : W p l e R s m args below meth c H locs cells slots (MQ below (Qn none True (wpost G cA S D' ad A) A) args s cells slots A) (F0 m pc ls []) :=
  W.vret hC.1 hC.2.1 hC.2.2.2.2.2.1 (fun t ht hW => ⟨rfl, trivial, ⟨by rw [ht]; exact hw.1, va_K.moved hW.alike hw.2.1, hw.2.2.1, hw.2.2.2.2.2.1⟩, hw.2.2.2.1.F ht⟩) hw.2.2.2.1.2.2 hdg hC.2.2.2.2.2.2
theorem r_aret {rt : FieldType} (hrt : (∃ n, rt = .object n) ∨ ∃ t, rt = .array t) {D' : dt} {o b κ : Nat} (hC : Cx own cc nL (some rt) p s m args meth c) (hw : Wd G cA S D' ad A s H locs) (hi : Is S ad o b κ) (hdg : decode cc pc = .ok (.areturn, 1)) : W p l e R s m args below meth c H locs cells slots (MQ below (Qn (some (va_rf ((some o).map ad))) (∀ x, (some o) = some x → x < sN S ∧ sK S x = κ) (wpost G cA S D' ad A) A) args s cells slots A) (F0 m pc ls [.ref b]) := by
  obtain ⟨h1, h2, h3⟩ := hi
  subst h3
  exact W.aret hC.1 hC.2.1 hC.2.2.2.2.2.1 hrt (Or.inr ⟨_, rfl⟩) (fun t ht hW => ⟨rfl, (fun x hx => by cases hx; exact ⟨h1, h2⟩), ⟨by rw [ht]; exact hw.1, va_K.moved hW.alike hw.2.1, hw.2.2.1, hw.2.2.2.2.2.1⟩, hw.2.2.2.1.F ht⟩) hw.2.2.2.1.2.2 hdg hC.2.2.2.2.2.2
theorem r_nret {rt : FieldType} (hrt : (∃ n, rt = .object n) ∨ ∃ t, rt = .array t) {D' : dt} {κ : Nat} (hC : Cx own cc nL (some rt) p s m args meth c) (hw : Wd G cA S D' ad A s H locs) (hdg : decode cc pc = .ok (.areturn, 1)) : W p l e R s m args below meth c H locs cells slots (MQ below (Qn (some (va_rf ((none : Option Nat).map ad))) (∀ x, (none : Option Nat) = some x → x < sN S ∧ sK S x = κ) (wpost G cA S D' ad A) A) args s cells slots A) (F0 m pc ls [.null]) :=
  W.aret hC.1 hC.2.1 hC.2.2.2.2.2.1 hrt (Or.inl rfl) (fun t ht hW => ⟨rfl, (fun x hx => by cases hx), ⟨by rw [ht]; exact hw.1, va_K.moved hW.alike hw.2.1, hw.2.2.1, hw.2.2.2.2.2.1⟩, hw.2.2.2.1.F ht⟩) hw.2.2.2.1.2.2 hdg hC.2.2.2.2.2.2
end CALLS
