/-- a method whose class has rows of its own in the machine, where she has none -/
theorem Met.ofWF {l : Launch} {y : MethodName} {ws ws' : List Cond} {rm : Room} {Pc : Array Value → State → Prop} {Qc : Array Value → State → Outcome → State → Prop} {mc ms : Nat} {free : Addr → Prop} {cc : ByteArray} {maxL : Nat} {ret : Option FieldType} (hy : plainFor y = true) (hw : ws = Cond.code y cc maxL ret :: ws')
    (body : ∀ p e s m args below meth c s₁, BodyLoose p l y (headSpec ws rm) cc maxL ret e s m args below meth c s₁ → c.maxLocals = maxL → Pc args s → W p l e (headSpec ws rm).room s m args below meth c s.heap [] 0 0 (MQ below Qc args s mc ms free) (entryFrame m args maxL)) : Met l y ws rm Pc Qc mc ms free := by
  refine MetFree.of_bodySF (code := cc) (maxLocals := maxL) (ret := ret) hy (fun args s m h hn => ?_) (fun p e s m args below meth c s₁ B hml hP _ => ?_)
  · obtain ⟨meth, c, h1, h2, h3, h4, h5, h6, -, -⟩ := Cond.code_spec hn (atoms_spec (ws := ws) h _ (by rw [hw]; exact List.mem_cons_self))
    exact ⟨meth, c, h1, h2, h3, h4, h5, h6⟩
  · obtain ⟨t, a1, o, b1, b2, b3⟩ := body p e s m args below meth c s₁ B hml hP s₁ (by rw [B.state]; rfl) (Stand.of_body B)
    exact ⟨t, o, a1, b1, b2, b3⟩
theorem gd_tbl : ∀ w ∈ tb0, (w.onTables && w.keeps) = true ∨ ∃ ty, w = .arrayClass ty := fun w hw => good_of_word (List.mem_filter.mp hw).2
theorem gd_in {y : MethodName} {bytes : ByteArray} {maxL : Nat} {rt : Option FieldType} (h : Cond.code y bytes maxL rt ∈ tb0) : GoodIn tb0 (Cond.code y bytes maxL rt :: tb0) := by
  intro w hw
  rcases List.mem_cons.mp hw with rfl | hw
  · exact ⟨h, gd_tbl _ h⟩
  · exact ⟨hw, gd_tbl _ hw⟩
theorem gd_cons {c : Cond} {ws : List Cond} (h : c ∈ tb0) (hg : GoodIn tb0 ws) : GoodIn tb0 (c :: ws) := by
  intro w hw
  rcases List.mem_cons.mp hw with rfl | hw
  · exact ⟨h, gd_tbl _ h⟩
  · exact hg w hw
/-- what a call needs of a method: an instance method, chosen by its class -/
def MkV (y : MethodName) (C : String) (bytes : ByteArray) (maxL : Nat) (rt : Option FieldType) (n : Nat) : Prop :=
  (Cond.instanceMethod y ∈ tb0 ∧ Cond.selects C y y ∈ tb0 ∧ Cond.initialized C ∈ tb0 ∧ Cond.code y bytes maxL rt ∈ tb0) ∧ (y.cls = C ∧ y.cls ≠ "java/lang/invoke/MethodHandle" ∧ y.cls ≠ "java/lang/invoke/VarHandle" ∧ (parseMethodDescriptor y.desc).map (fun d => d.parameters.length) = some n)
def MkS (y : MethodName) (bytes : ByteArray) (maxL : Nat) (rt : Option FieldType) (n : Nat) : Prop :=
  (Cond.static y ∈ tb0 ∧ Cond.initialized y.cls ∈ tb0 ∧ Cond.code y bytes maxL rt ∈ tb0) ∧ (y.cls ≠ "java/lang/invoke/MethodHandle" ∧ y.cls ≠ "java/lang/invoke/VarHandle" ∧ (parseMethodDescriptor y.desc).map (fun d => d.parameters.length) = some n)
def MkI (y : MethodName) (bytes : ByteArray) (maxL : Nat) (n : Nat) : Prop :=
  (Cond.instanceMethod y ∈ tb0 ∧ Cond.initialized y.cls ∈ tb0 ∧ Cond.code y bytes maxL none ∈ tb0) ∧ y.name = "<init>" ∧ (y.cls ≠ "java/lang/invoke/MethodHandle" ∧ y.cls ≠ "java/lang/invoke/VarHandle" ∧ (parseMethodDescriptor y.desc).map (fun d => d.parameters.length) = some n)
section CALL2
variable {p : Program} {l : Launch} {e : Env} {R : Room} {s : State} {m : MethodId} {args : Array Value} {below : List Frame} {meth : Method} {c : Code} {H : Heap} {locs : List Loc} {cells slots : Nat} {Q : State → Prop}
variable {cc : ByteArray} {pc nL : Nat} {ret : Option FieldType} {ls : Array Slot} {own : String} {G : va_G} {cA : Nat → ClassId} {S : sh} {D : dt} {ad : Nat → Nat} {A : Nat → Prop}
variable {ci N k b index : Nat} {C : String} {T : u_T} {ty : Nat → FieldType} {y : MethodName} {bytes : ByteArray} {maxL f lo n : Nat} {rt : Option FieldType} {P : Prop} {D' : dt} {S' : sh}
theorem r_cV {v : Option Value} {st st' : List Value} (As rest : List Value) (hC : Cx own cc nL ret p s m args meth c) (hw : Wd G cA S D ad A s H locs) (hk : Kc ci C T N ty) (hi : Is S ad k b ci) (hM : Co l y (Cond.code y bytes maxL rt :: tb0) f lo (.ref b :: As) G cA S D ad H.size v P D') (mk : MkV y C bytes maxL rt n) (hlink : Cond.methodLink own index y ∈ tb0)
    (hR : f + 1 ≤ R.frames ∧ 8 + (maxL + 11) + lo ≤ R.locals) (hcs : cells ≤ R.cells ∧ slots ≤ R.slots) (hn : As.length = n) (hsize : ls.size = nL) (hst : st = As.reverse ++ .ref b :: rest) (hst' : v.toList ++ rest = st') (hW : (rest.map fun v => v.category).sum ≤ 8) (hdg : decode cc pc = .ok (.invokevirtual index, 3))
    (kk : P → ∀ (H : Heap) (locs : List Loc), Wd G cA S D' ad A s H locs → W p l e R s m args below meth c H locs cells slots Q (F0 m (pc + 3) ls st')) : W p l e R s m args below meth c H locs cells slots Q (F0 m pc ls st) := by
  subst hst'
  subst hst
  obtain ⟨⟨m1, m2, m3, m4⟩, md⟩ := mk
  have hts := hC.2.2.2.2.1
  refine r_back (mc := 0) (ms := 0) hw (va_runV (As := As) (rest := rest) ⟨hC.1, hC.2.1, hC.2.2.1, hC.2.2.2.1, hts⟩ hM (cwV n hts (gd_cons hlink (gd_cons m1 (gd_cons m2 (gd_cons m3 (gd_in m4))))) rfl rfl rfl md hR) ⟨wpre_blind _ _ _ _ _ _ _, hw.recv hk hi, hw.pre _⟩ rfl hn hsize rfl (lv_room hW) hdg hcs) kk
theorem r_cS {v : Option Value} {st st' : List Value} (As rest : List Value) (hC : Cx own cc nL ret p s m args meth c) (hw : Wd G cA S D ad A s H locs) (hM : Co l y (Cond.code y bytes maxL rt :: tb0) f lo As G cA S D ad H.size v P D') (mk : MkS y bytes maxL rt n) (hlink : Cond.methodLink own index y ∈ tb0)
    (hR : f + 1 ≤ R.frames ∧ 8 + (maxL + 11) + lo ≤ R.locals) (hcs : cells ≤ R.cells ∧ slots ≤ R.slots) (hn : As.length = n) (hsize : ls.size = nL) (hst : st = As.reverse ++ rest) (hst' : v.toList ++ rest = st') (hW : (rest.map fun v => v.category).sum ≤ 8) (hdg : decode cc pc = .ok (.invokestatic index, 3))
    (kk : P → ∀ (H : Heap) (locs : List Loc), Wd G cA S D' ad A s H locs → W p l e R s m args below meth c H locs cells slots Q (F0 m (pc + 3) ls st')) : W p l e R s m args below meth c H locs cells slots Q (F0 m pc ls st) := by
  subst hst'
  subst hst
  obtain ⟨⟨m1, m2, m3⟩, md⟩ := mk
  have hts := hC.2.2.2.2.1
  refine r_back (mc := 0) (ms := 0) hw (va_runS (As := As) (rest := rest) ⟨hC.1, hC.2.1, hC.2.2.1, hC.2.2.2.1, hts⟩ hM (va_cwS n hts (gd_cons hlink (gd_cons m1 (gd_cons m2 (gd_in m3)))) rfl rfl rfl md hR) ⟨wpre_blind _ _ _ _ _ _ _, hw.pre _⟩ rfl hn hsize rfl (lv_room hW) hdg hcs) kk
theorem r_cIN {host : String} {v : Option Value} {st st' : List Value} (As rest : List Value) (hC : Cx own cc nL ret p s m args meth c) (hw : Wd G cA S D ad A s H locs) (hM : Co l y (Cond.code y bytes maxL none :: tb0) f lo (.ref b :: As) G cA S D ad H.size v P D') (mk : MkI y bytes maxL n) (hl : va_Nw (.methodLinkNest own index y host) s)
    (hR : f + 1 ≤ R.frames ∧ 8 + (maxL + 11) + lo ≤ R.locals) (hcs : cells ≤ R.cells ∧ slots ≤ R.slots) (hn : As.length = n) (hsize : ls.size = nL) (hst : st = As.reverse ++ .ref b :: rest) (hst' : v.toList ++ rest = st') (hW : (rest.map fun v => v.category).sum ≤ 8) (hdg : decode cc pc = .ok (.invokespecial index, 3))
    (kk : P → ∀ (H : Heap) (locs : List Loc), Wd G cA S D' ad A s H locs → W p l e R s m args below meth c H locs cells slots Q (F0 m (pc + 3) ls st')) : W p l e R s m args below meth c H locs cells slots Q (F0 m pc ls st) := by
  subst hst'
  subst hst
  obtain ⟨⟨m1, m2, m3⟩, my, md⟩ := mk
  have hts := hC.2.2.2.2.1
  refine r_back (mc := 0) (ms := 0) hw (va_runIN (As := As) (rest := rest) ⟨hC.1, hC.2.1, hC.2.2.1, hC.2.2.2.1, hts⟩ hM ⟨va_cnB n hts (gd_in m3) rfl rfl rfl hl (hts _ m2) md hR, my, hts _ m1⟩ ⟨wpre_blind _ _ _ _ _ _ _, hw.pre _⟩ rfl hn hsize rfl (lv_room hW) hdg hcs) kk
-- the same, of methods that make cells
theorem r_cVA {v : (Nat → Nat) → Option Value} {st : List Value} (As rest : List Value) (hC : Cx own cc nL ret p s m args meth c) (hw : Wd G cA S D ad A s H locs) (hk : Kc ci C T N ty) (hi : Is S ad k b ci) (hM : CoA l y (Cond.code y bytes maxL rt :: tb0) f lo (.ref b :: As) G cA S D ad H.size v P S' D') (mk : MkV y C bytes maxL rt n) (hlink : Cond.methodLink own index y ∈ tb0)
    (hR : f + 1 ≤ R.frames ∧ 8 + (maxL + 11) + lo ≤ R.locals) (hcs : cells + (sN S' - sN S) ≤ R.cells ∧ slots + (sZ S' - sZ S) ≤ R.slots) (hn : As.length = n) (hsize : ls.size = nL) (hst : st = As.reverse ++ .ref b :: rest) (hW : (rest.map fun v => v.category).sum ≤ 8) (hdg : decode cc pc = .ok (.invokevirtual index, 3))
    (kk : ∀ ad', (∀ k, k < sN S → ad' k = ad k) ∧ P → ∀ (H : Heap) (locs : List Loc), Wd G cA S' D' ad' A s H locs → W p l e R s m args below meth c H locs (cells + (sN S' - sN S)) (slots + (sZ S' - sZ S)) Q (F0 m (pc + 3) ls ((v ad').toList ++ rest))) : W p l e R s m args below meth c H locs cells slots Q (F0 m pc ls st) := by
  subst hst
  obtain ⟨⟨m1, m2, m3, m4⟩, md⟩ := mk
  have hts := hC.2.2.2.2.1
  refine r_backA hw (va_runV (As := As) (rest := rest) ⟨hC.1, hC.2.1, hC.2.2.1, hC.2.2.2.1, hts⟩ hM (cwV n hts (gd_cons hlink (gd_cons m1 (gd_cons m2 (gd_cons m3 (gd_in m4))))) rfl rfl rfl md hR) ⟨wpre_blind _ _ _ _ _ _ _, hw.recv hk hi, hw.pre _⟩ rfl hn hsize rfl (lv_room hW) hdg hcs) kk
theorem r_cIA {v : (Nat → Nat) → Option Value} {st : List Value} (As rest : List Value) (hC : Cx own cc nL ret p s m args meth c) (hw : Wd G cA S D ad A s H locs) (hM : CoA l y (Cond.code y bytes maxL none :: tb0) f lo (.ref b :: As) G cA S D ad H.size v P S' D') (mk : MkI y bytes maxL n) (hlink : Cond.methodLink own index y ∈ tb0)
    (hR : f + 1 ≤ R.frames ∧ 8 + (maxL + 11) + lo ≤ R.locals) (hcs : cells + (sN S' - sN S) ≤ R.cells ∧ slots + (sZ S' - sZ S) ≤ R.slots) (hn : As.length = n) (hsize : ls.size = nL) (hst : st = As.reverse ++ .ref b :: rest) (hW : (rest.map fun v => v.category).sum ≤ 8) (hdg : decode cc pc = .ok (.invokespecial index, 3))
    (kk : ∀ ad', (∀ k, k < sN S → ad' k = ad k) ∧ P → ∀ (H : Heap) (locs : List Loc), Wd G cA S' D' ad' A s H locs → W p l e R s m args below meth c H locs (cells + (sN S' - sN S)) (slots + (sZ S' - sZ S)) Q (F0 m (pc + 3) ls ((v ad').toList ++ rest))) : W p l e R s m args below meth c H locs cells slots Q (F0 m pc ls st) := by
  subst hst
  obtain ⟨⟨m1, m2, m3⟩, my, md⟩ := mk
  have hts := hC.2.2.2.2.1
  refine r_backA hw (va_runI (As := As) (rest := rest) ⟨hC.1, hC.2.1, hC.2.2.1, hC.2.2.2.1, hts⟩ hM (cwI n hts (gd_in m3) rfl rfl rfl (hts _ m2) (hts _ hlink) (hts _ m1) my md hR) ⟨wpre_blind _ _ _ _ _ _ _, hw.pre _⟩ rfl hn hsize rfl (lv_room hW) hdg hcs) kk
theorem r_cINA {host : String} {v : (Nat → Nat) → Option Value} {st : List Value} (As rest : List Value) (hC : Cx own cc nL ret p s m args meth c) (hw : Wd G cA S D ad A s H locs) (hM : CoA l y (Cond.code y bytes maxL none :: tb0) f lo (.ref b :: As) G cA S D ad H.size v P S' D') (mk : MkI y bytes maxL n) (hl : va_Nw (.methodLinkNest own index y host) s)
    (hR : f + 1 ≤ R.frames ∧ 8 + (maxL + 11) + lo ≤ R.locals) (hcs : cells + (sN S' - sN S) ≤ R.cells ∧ slots + (sZ S' - sZ S) ≤ R.slots) (hn : As.length = n) (hsize : ls.size = nL) (hst : st = As.reverse ++ .ref b :: rest) (hW : (rest.map fun v => v.category).sum ≤ 8) (hdg : decode cc pc = .ok (.invokespecial index, 3))
    (kk : ∀ ad', (∀ k, k < sN S → ad' k = ad k) ∧ P → ∀ (H : Heap) (locs : List Loc), Wd G cA S' D' ad' A s H locs → W p l e R s m args below meth c H locs (cells + (sN S' - sN S)) (slots + (sZ S' - sZ S)) Q (F0 m (pc + 3) ls ((v ad').toList ++ rest))) : W p l e R s m args below meth c H locs cells slots Q (F0 m pc ls st) := by
  subst hst
  obtain ⟨⟨m1, m2, m3⟩, my, md⟩ := mk
  have hts := hC.2.2.2.2.1
  refine r_backA hw (va_runIN (As := As) (rest := rest) ⟨hC.1, hC.2.1, hC.2.2.1, hC.2.2.2.1, hts⟩ hM ⟨va_cnB n hts (gd_in m3) rfl rfl rfl hl (hts _ m2) md hR, my, hts _ m1⟩ ⟨wpre_blind _ _ _ _ _ _ _, hw.pre _⟩ rfl hn hsize rfl (lv_room hW) hdg hcs) kk
end CALL2
