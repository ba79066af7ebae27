/-! THE MIRROR'S HEAP: objects by number. A shape (how many objects, how many slots they took, of which kind each is, how long each array is) and data (ints, longs, references, by object and place). Kinds: below 100 a class' number; 100 int[], 101 long[], 102 byte[], 103 boolean[], 200 + c an array of class c. -/
abbrev sh : Type := Nat × Nat × (Nat → Nat) × (Nat → Nat)
abbrev dt : Type := (Nat → Nat → Int32) × (Nat → Nat → Int64) × (Nat → Nat → Option Nat)
def sN (S : sh) : Nat := S.1
def sZ (S : sh) : Nat := S.2.1
def sK (S : sh) (k : Nat) : Nat := S.2.2.1 k
def sA (S : sh) (k : Nat) : Nat := S.2.2.2 k
def gI (D : dt) (o j : Nat) : Int32 := D.1 o j
def gL (D : dt) (o j : Nat) : Int64 := D.2.1 o j
def gR (D : dt) (o j : Nat) : Option Nat := D.2.2 o j
def p2 {α : Type} (f : Nat → Nat → α) (o j : Nat) (x : α) : Nat → Nat → α := fun a b => if a = o ∧ b = j then x else f a b
def p1 {α : Type} (f : Nat → Nat → α) (o : Nat) (g : Nat → α) : Nat → Nat → α := fun a b => if a = o then g b else f a b
def pI (D : dt) (o j : Nat) (x : Int32) : dt := (p2 D.1 o j x, D.2.1, D.2.2)
def pL (D : dt) (o j : Nat) (x : Int64) : dt := (D.1, p2 D.2.1 o j x, D.2.2)
def pR (D : dt) (o j : Nat) (x : Option Nat) : dt := (D.1, D.2.1, p2 D.2.2 o j x)
/-- a whole array's contents -/
def qI (D : dt) (o : Nat) (g : Nat → Int32) : dt := (p1 D.1 o g, D.2.1, D.2.2)
def qL (D : dt) (o : Nat) (g : Nat → Int64) : dt := (D.1, p1 D.2.1 o g, D.2.2)
/-- a new object: its number is sN S -/
def aS (S : sh) (κ len slots : Nat) : sh := (sN S + 1, sZ S + slots, va_up S.2.2.1 (sN S) κ, va_up S.2.2.2 (sN S) len)
def aD (S : sh) (D : dt) : dt := (p1 D.1 (sN S) (fun _ => 0), p1 D.2.1 (sN S) (fun _ => 0), p1 D.2.2 (sN S) (fun _ => none))
-- the mirror's own small words
def nm {α β : Type} (e : α) (k : α → Option β) : Option β := k e
def cq {α β γ : Type} (f : Option (α × β)) (k : α → β → Option γ) : Option γ := match f with
  | none => none
  | some q => k q.1 q.2
def rq {β : Type} (o : Option Nat) (k : Nat → Option β) : Option β := match o with
  | none => none
  | some x => k x
def ix {β : Type} (i : Int32) (n : Nat) (k : Option β) : Option β := if i < 0 ∨ n ≤ i.toNatClampNeg then none else k
def ck {β : Type} (c : Prop) [Decidable c] (k : Option β) : Option β := if c then k else none
theorem nm_i {α β : Type} {e : α} {k : α → Option β} {r : β} (h : nm e k = some r) : ∀ x, x = e → k x = some r := fun x hx => by rw [hx]; exact h
theorem cq_i {α β γ : Type} {f : Option (α × β)} {k : α → β → Option γ} {r : γ} (h : cq f k = some r) : ∃ x D, f = some (x, D) ∧ k x D = some r := by
  cases f with
  | none => cases h
  | some q => exact ⟨q.1, q.2, rfl, h⟩
theorem rq_i {β : Type} {o : Option Nat} {k : Nat → Option β} {r : β} (h : rq o k = some r) : ∃ x, o = some x ∧ k x = some r := by
  cases o with
  | none => cases h
  | some q => exact ⟨q, rfl, h⟩
theorem ix_i {β : Type} {i : Int32} {n : Nat} {k : Option β} {r : β} (h : ix i n k = some r) : vp_in i n ∧ k = some r := by
  unfold ix at h
  split at h
  · cases h
  · exact ⟨by assumption, h⟩
theorem ck_i {β : Type} {c : Prop} [Decidable c] {k : Option β} {r : β} (h : ck c k = some r) : c ∧ k = some r := by
  unfold ck at h
  split at h
  · exact ⟨by assumption, h⟩
  · cases h
-- what a cell is
def fv (t : Nat) (D : dt) (ad : Nat → Nat) (k j : Nat) : Value := match t with
  | 0 => .int (gI D k j)
  | 1 => .long (gL D k j)
  | _ => va_rf ((gR D k j).map ad)
def flds (ci : Nat) (D : dt) (ad : Nat → Nat) (k : Nat) : List Value := (fty ci).mapIdx (fun j t => fv t D ad k j)
def ent (cA : Nat → ClassId) (S : sh) (D : dt) (ad : Nat → Nat) (k : Nat) : va_E :=
  if sK S k < 100 then .inr (sK S k, flds (sK S k) D ad k)
  else if sK S k = 101 then .inl (cA 101, sA S k, .inr (.inl (fun i => gL D k i)))
  else if 200 ≤ sK S k then .inl (cA (sK S k), sA S k, .inr (.inr (.inr (.inr (fun i => (gR D k i).map ad)))))
  else .inl (cA (sK S k), sA S k, .inl (fun i => gI D k i))
def cls (cA : Nat → ClassId) (S : sh) (D : dt) (ad : Nat → Nat) : va_W := (List.range (sN S)).map (fun k => (ad k, ent cA S D ad k))
def WT (S : sh) (D : dt) : Prop := ∀ k j o, k < sN S → gR D k j = some o → o < sN S ∧ sK S o = rk (sK S k) j
def Is (S : sh) (ad : Nat → Nat) (k a κ : Nat) : Prop := k < sN S ∧ sK S k = κ ∧ ad k = a
def Wd (G : va_G) (cA : Nat → ClassId) (S : sh) (D : dt) (ad : Nat → Nat) (A : Nat → Prop) (s : State) (H : Heap) (locs : List Loc) : Prop :=
  va_P G vwCl (cls cA S D ad) H ∧ va_K G vwCl (tysOf cA) s ∧ va_D A (cls cA S D ad) ∧ va_S A s.heap H locs ∧ (∀ q, s.heap.size ≤ q → A q) ∧ WT S D ∧ Xw s
theorem cls_at {cA : Nat → ClassId} {S : sh} {D : dt} {ad : Nat → Nat} {k : Nat} (h : k < sN S) : (cls cA S D ad)[k]? = some (ad k, ent cA S D ad k) := by
  simp [cls, h]
theorem cls_len {cA : Nat → ClassId} {S : sh} {D : dt} {ad : Nat → Nat} : (cls cA S D ad).length = sN S := by simp [cls]
theorem cls_set {cA : Nat → ClassId} {S : sh} {D D' : dt} {ad : Nat → Nat} {k : Nat} {e : va_E} (hk : k < sN S) (he : ent cA S D' ad k = e) (ho : ∀ k', k' ≠ k → ent cA S D' ad k' = ent cA S D ad k') : (cls cA S D ad).set k (ad k, e) = cls cA S D' ad := by
  apply List.ext_getElem?
  intro i
  rw [List.getElem?_set]
  by_cases hi : k = i
  · subst hi
    rw [if_pos rfl, if_pos (by rw [cls_len]; exact hk), cls_at hk, he]
  · rw [if_neg hi]
    by_cases hl : i < sN S
    · rw [cls_at hl, cls_at hl, ho i (fun h => hi h.symm)]
    · rw [List.getElem?_eq_none (by rw [cls_len]; omega), List.getElem?_eq_none (by rw [cls_len]; omega)]
theorem flds_get {ci : Nat} {D : dt} {ad : Nat → Nat} {k j t : Nat} (h : (fty ci)[j]? = some t) : (flds ci D ad k)[j]? = some (fv t D ad k j) := by
  simp [flds, List.getElem?_mapIdx, h]
theorem flds_len {ci : Nat} {D : dt} {ad : Nat → Nat} {k : Nat} : (flds ci D ad k).length = (fty ci).length := by simp [flds]
theorem flds_set {ci : Nat} {D D' : dt} {ad : Nat → Nat} {k j t : Nat} {v : Value} (h : (fty ci)[j]? = some t) (hv : fv t D' ad k j = v) (ho : ∀ t' j', j' ≠ j → fv t' D' ad k j' = fv t' D ad k j') : (flds ci D ad k).set j v = flds ci D' ad k := by
  have hj : j < (fty ci).length := (List.getElem?_eq_some_iff.mp h).1
  apply List.ext_getElem?
  intro i
  rw [List.getElem?_set]
  by_cases hi : j = i
  · subst hi
    rw [if_pos rfl, if_pos (by rw [flds_len]; exact hj), flds_get h, hv]
  · rw [if_neg hi]
    cases hl : (fty ci)[i]? with
    | none =>
      have : (fty ci).length ≤ i := List.getElem?_eq_none_iff.mp hl
      rw [List.getElem?_eq_none (by rw [flds_len]; exact this), List.getElem?_eq_none (by rw [flds_len]; exact this)]
    | some t' => rw [flds_get hl, flds_get hl, ho t' i (fun h => hi h.symm)]
-- reads of writes
theorem gI_pI (D : dt) (o j : Nat) (x : Int32) (a b : Nat) : gI (pI D o j x) a b = if a = o ∧ b = j then x else gI D a b := rfl
theorem gL_pL (D : dt) (o j : Nat) (x : Int64) (a b : Nat) : gL (pL D o j x) a b = if a = o ∧ b = j then x else gL D a b := rfl
theorem gR_pR (D : dt) (o j : Nat) (x : Option Nat) (a b : Nat) : gR (pR D o j x) a b = if a = o ∧ b = j then x else gR D a b := rfl
theorem gI_pL (D : dt) (o j : Nat) (x : Int64) (a b : Nat) : gI (pL D o j x) a b = gI D a b := rfl
theorem gI_pR (D : dt) (o j : Nat) (x : Option Nat) (a b : Nat) : gI (pR D o j x) a b = gI D a b := rfl
theorem gL_pI (D : dt) (o j : Nat) (x : Int32) (a b : Nat) : gL (pI D o j x) a b = gL D a b := rfl
theorem gL_pR (D : dt) (o j : Nat) (x : Option Nat) (a b : Nat) : gL (pR D o j x) a b = gL D a b := rfl
theorem gR_pI (D : dt) (o j : Nat) (x : Int32) (a b : Nat) : gR (pI D o j x) a b = gR D a b := rfl
theorem gR_pL (D : dt) (o j : Nat) (x : Int64) (a b : Nat) : gR (pL D o j x) a b = gR D a b := rfl
theorem gI_qI (D : dt) (o : Nat) (g : Nat → Int32) (a b : Nat) : gI (qI D o g) a b = if a = o then g b else gI D a b := rfl
theorem gL_qL (D : dt) (o : Nat) (g : Nat → Int64) (a b : Nat) : gL (qL D o g) a b = if a = o then g b else gL D a b := rfl
theorem gL_qI (D : dt) (o : Nat) (g : Nat → Int32) (a b : Nat) : gL (qI D o g) a b = gL D a b := rfl
theorem gR_qI (D : dt) (o : Nat) (g : Nat → Int32) (a b : Nat) : gR (qI D o g) a b = gR D a b := rfl
theorem gI_qL (D : dt) (o : Nat) (g : Nat → Int64) (a b : Nat) : gI (qL D o g) a b = gI D a b := rfl
theorem gR_qL (D : dt) (o : Nat) (g : Nat → Int64) (a b : Nat) : gR (qL D o g) a b = gR D a b := rfl
theorem gI_aD (S : sh) (D : dt) (a b : Nat) : gI (aD S D) a b = if a = sN S then 0 else gI D a b := rfl
theorem gL_aD (S : sh) (D : dt) (a b : Nat) : gL (aD S D) a b = if a = sN S then 0 else gL D a b := rfl
theorem gR_aD (S : sh) (D : dt) (a b : Nat) : gR (aD S D) a b = if a = sN S then none else gR D a b := rfl
theorem sN_aS (S : sh) (κ n z : Nat) : sN (aS S κ n z) = sN S + 1 := rfl
theorem sZ_aS (S : sh) (κ n z : Nat) : sZ (aS S κ n z) = sZ S + z := rfl
theorem sK_aS (S : sh) (κ n z k : Nat) : sK (aS S κ n z) k = if k = sN S then κ else sK S k := rfl
theorem sA_aS (S : sh) (κ n z k : Nat) : sA (aS S κ n z) k = if k = sN S then n else sA S k := rfl
theorem fv_ne {t : Nat} {D D' : dt} {ad : Nat → Nat} {k j : Nat} (h1 : gI D' k j = gI D k j) (h2 : gL D' k j = gL D k j) (h3 : gR D' k j = gR D k j) : fv t D' ad k j = fv t D ad k j := by
  unfold fv; split <;> simp [h1, h2, h3]
theorem ent_ne {cA : Nat → ClassId} {S : sh} {D D' : dt} {ad : Nat → Nat} {k : Nat} (h1 : ∀ j, gI D' k j = gI D k j) (h2 : ∀ j, gL D' k j = gL D k j) (h3 : ∀ j, gR D' k j = gR D k j) : ent cA S D' ad k = ent cA S D ad k := by
  have hf : flds (sK S k) D' ad k = flds (sK S k) D ad k := by
    unfold flds
    congr 1
    funext j t
    exact fv_ne (h1 j) (h2 j) (h3 j)
  unfold ent
  rw [hf]
  simp only [h1, h2, h3]
theorem ent_c {cA : Nat → ClassId} {S : sh} {D : dt} {ad : Nat → Nat} {k ci : Nat} (h : sK S k = ci) (hc : ci < 100) : ent cA S D ad k = .inr (ci, flds ci D ad k) := by
  unfold ent; rw [h, if_pos hc]
theorem ent_l {cA : Nat → ClassId} {S : sh} {D : dt} {ad : Nat → Nat} {k : Nat} (h : sK S k = 101) : ent cA S D ad k = .inl (cA 101, sA S k, .inr (.inl (fun i => gL D k i))) := by
  unfold ent; rw [h]; rfl
theorem ent_i {cA : Nat → ClassId} {S : sh} {D : dt} {ad : Nat → Nat} {k κ : Nat} (h : sK S k = κ) (h1 : ¬ κ < 100) (h2 : ¬ κ = 101) (h3 : ¬ 200 ≤ κ) : ent cA S D ad k = .inl (cA κ, sA S k, .inl (fun i => gI D k i)) := by
  unfold ent; rw [h, if_neg h1, if_neg h2, if_neg h3]
theorem ent_r {cA : Nat → ClassId} {S : sh} {D : dt} {ad : Nat → Nat} {k κ : Nat} (h : sK S k = κ) (h3 : 200 ≤ κ) : ent cA S D ad k = .inl (cA κ, sA S k, .inr (.inr (.inr (.inr (fun i => (gR D k i).map ad))))) := by
  unfold ent; rw [h, if_neg (by omega), if_neg (by omega), if_pos h3]
