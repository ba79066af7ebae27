/-! both objects, call by call -/
def Rel (g : gh) : Prop := g.1 0 = g.1 2 ∧ g.1 1 = g.1 3 ∧ g.1 4 = g.1 5 ∧ g.1 9 = 1 ∧ g.1 12 = 0
def St (S : sh) (D : dt) (k : Int) : Prop := ∃ g, Inv g S D ∧ Rel g ∧ g.1 6 ≤ k
theorem st0 : St SM DM 0 := ⟨g0, inv0, ⟨rfl, rfl, rfl, rfl, rfl⟩, Int.le_refl _⟩
theorem St.mono {S : sh} {D : dt} {k k' : Int} (h : St S D k) (w : k ≤ k') : St S D k' := by
  obtain ⟨g, h, r, hk⟩ := h
  exact ⟨g, h, r, Int.le_trans hk w⟩
theorem St.room {S : sh} {D : dt} {k : Int} (h : St S D k) : sN S ≤ 600000 ∧ sZ S ≤ 7302250 := by
  obtain ⟨g, h, -, -⟩ := h
  have m := h.m
  have b := h.gg.2.1
  unfold vM at m
  omega
theorem St.one {S : sh} {D' : dt} {k : Int} {g g' : gh} (h : Inv g' S D') (r : Rel g) (hk : g.1 6 ≤ k) (e : g'.1 = g.1) : St S D' k := by
  refine ⟨g', h, ?_, ?_⟩
  · unfold Rel
    rw [e]
    exact r
  · rw [e]
    exact hk
theorem fe_det {c : Int} {a b d : Int32} {r c1 r2 c2 : Int} (f1 : feP c a b d r c1) (f2 : feP c a b d r2 c2) : r = r2 ∧ c1 = c2 := by
  by_cases w : fit a b d
  · by_cases v : c < 200
    · have x := f1.1 w v
      have y := f2.1 w v
      omega
    · have x := f1.2.1 w v
      have y := f2.2.1 w v
      omega
  · have x := f1.2.2 w
    have y := f2.2.2 w
    omega
theorem al_det {c : Int} {i a b d : Int32} {r r2 : Int} (f1 : alT c i a b d r) (f2 : alT c i a b d r2) : r = r2 := by
  by_cases v : 0 ≤ i.toInt ∧ i.toInt < c
  · by_cases w : fit a b d
    · exact (f1.1 v w).trans (f2.1 v w).symm
    · exact (f1.2.1 v w).trans (f2.2.1 v w).symm
  · exact (f1.2.2 v).trans (f2.2.2 v).symm
theorem cu_det {c : Int} {n : Int32} {r c1 r2 c2 : Int} (f1 : cuT c n r c1) (f2 : cuT c n r2 c2) : r = r2 ∧ c1 = c2 := by
  by_cases w : 0 ≤ n.toInt ∧ n.toInt ≤ c
  · have x := f1.1 w
    have y := f2.1 w
    omega
  · have x := f1.2 w
    have y := f2.2 w
    omega
theorem ta_det {c : Int} {x1 x2 x3 x4 : Int32} {r c1 r2 c2 : Int} (f1 : taT c x1 x2 x3 x4 r c1) (f2 : taT c x1 x2 x3 x4 r2 c2) : r = r2 ∧ c1 = c2 := by
  by_cases w : tft x1 x2 x3 x4
  · by_cases v : c < 4
    · have x := f1.1 w v
      have y := f2.1 w v
      omega
    · have x := f1.2.1 w v
      have y := f2.2.1 w v
      omega
  · have x := f1.2.2 w
    have y := f2.2.2 w
    omega
theorem ti_det {k : Int} {n : Int64} {r c1 r2 c2 : Int} (f1 : tiT k n r c1) (f2 : tiT k n r2 c2) : r = r2 ∧ c1 = c2 := by
  by_cases w : 0 ≤ n.toInt ∧ n.toInt ≤ 4611686018427387904 - k
  · have x := f1.1 w
    have y := f2.1 w
    omega
  · have x := f1.2 w
    have y := f2.2 w
    omega
theorem st_det {c : Int} {r r2 : Int32} (f1 : stT c r) (f2 : stT c r2) : r = r2 := by
  by_cases w : c = 0
  · exact (f1.1 w).trans (f2.1 w).symm
  · exact (f1.2 w).trans (f2.2 w).symm
theorem rel2 {g g1 g2 : gh} {a b : Nat} (r : Rel g) (x1 : Gx g g1 a) (x2 : Gx g1 g2 b) (w : (a = 0 ∧ b = 2) ∨ (a = 1 ∧ b = 3) ∨ (a = 4 ∧ b = 5)) (e : g1.1 a = g2.1 b) : Rel g2 ∧ g2.1 6 = g.1 6 := by
  obtain ⟨r1, r2, r3, r4, r5⟩ := r
  have y : ∀ m, m ≠ a → m ≠ b → g2.1 m = g.1 m := fun m n1 n2 => (x2 m n2).trans (x1 m n1)
  have ya : g2.1 a = g2.1 b := (x2 a (by omega)).trans e
  rcases w with ⟨rfl, rfl⟩ | ⟨rfl, rfl⟩ | ⟨rfl, rfl⟩
  · refine ⟨⟨ya, ?_, ?_, ?_, ?_⟩, y 6 (by decide) (by decide)⟩
    · rw [y 1 (by decide) (by decide), y 3 (by decide) (by decide)]
      exact r2
    · rw [y 4 (by decide) (by decide), y 5 (by decide) (by decide)]
      exact r3
    · rw [y 9 (by decide) (by decide)]
      exact r4
    · rw [y 12 (by decide) (by decide)]
      exact r5
  · refine ⟨⟨?_, ya, ?_, ?_, ?_⟩, y 6 (by decide) (by decide)⟩
    · rw [y 0 (by decide) (by decide), y 2 (by decide) (by decide)]
      exact r1
    · rw [y 4 (by decide) (by decide), y 5 (by decide) (by decide)]
      exact r3
    · rw [y 9 (by decide) (by decide)]
      exact r4
    · rw [y 12 (by decide) (by decide)]
      exact r5
  · refine ⟨⟨?_, ?_, ya, ?_, ?_⟩, y 6 (by decide) (by decide)⟩
    · rw [y 0 (by decide) (by decide), y 2 (by decide) (by decide)]
      exact r1
    · rw [y 1 (by decide) (by decide), y 3 (by decide) (by decide)]
      exact r2
    · rw [y 9 (by decide) (by decide)]
      exact r4
    · rw [y 12 (by decide) (by decide)]
      exact r5
theorem b_feed {S : sh} {D : dt} {k : Int} {a1 a2 a3 a4 : Int32} (h : St S D k) : wp (f_X8_feed S 0 a1 a2 a3 a4 D) (fun q => wp (f_X9_feed S 28 a1 a2 a3 a4 q.2) (fun r => q.1 = r.1 ∧ St S r.2 k)) := by
  obtain ⟨g, h, rel, hk⟩ := h
  refine wp_mono (q_feed h) (fun q p => ?_)
  obtain ⟨g1, h1, x1, f1⟩ := p
  refine wp_mono (q_feed9 h1) (fun r p => ?_)
  obtain ⟨g2, h2, x2, f2⟩ := p
  have e : g1.1 2 = g.1 0 := (x1 2 (by decide)).trans (rel.1).symm
  rw [e] at f2
  have d := fe_det f1 f2
  have z := rel2 rel x1 x2 (by decide) d.2
  exact ⟨Int32.toInt_inj.mp d.1, g2, h2, z.1, by rw [z.2]; exact hk⟩
theorem b_cut {S : sh} {D : dt} {k : Int} {a1 : Int32} (h : St S D k) : wp (f_X8_cut S 0 a1 D) (fun q => wp (f_X9_cut S 28 a1 q.2) (fun r => q.1 = r.1 ∧ St S r.2 k)) := by
  obtain ⟨g, h, rel, hk⟩ := h
  refine wp_mono (q_cut h) (fun q p => ?_)
  obtain ⟨g1, h1, x1, f1⟩ := p
  refine wp_mono (q_cut9 h1) (fun r p => ?_)
  obtain ⟨g2, h2, x2, f2⟩ := p
  have e : g1.1 2 = g.1 0 := (x1 2 (by decide)).trans (rel.1).symm
  rw [e] at f2
  have d := cu_det f1 f2
  have z := rel2 rel x1 x2 (by decide) d.2
  exact ⟨Int32.toInt_inj.mp d.1, g2, h2, z.1, by rw [z.2]; exact hk⟩
theorem b_table {S : sh} {D : dt} {k : Int} {a1 a2 a3 a4 : Int32} (h : St S D k) : wp (f_X8_table 0 a1 a2 a3 a4 S D) (fun q => wp (f_X9_table q.2.1 28 a1 a2 a3 a4 q.2.2) (fun r => q.1 = r.1 ∧ St q.2.1 r.2 k)) := by
  obtain ⟨g, h, rel, hk⟩ := h
  refine wp_mono (q_table h) (fun q p => ?_)
  obtain ⟨g1, h1, x1, f1⟩ := p
  refine wp_mono (q_table9 h1) (fun r p => ?_)
  obtain ⟨g2, h2, x2, f2⟩ := p
  have e : g1.1 3 = g.1 1 := (x1 3 (by decide)).trans (rel.2.1).symm
  rw [e] at f2
  have d := ta_det f1 f2
  have z := rel2 rel x1 x2 (by decide) d.2
  exact ⟨Int32.toInt_inj.mp d.1, g2, h2, z.1, by rw [z.2]; exact hk⟩
theorem b_tick {S : sh} {D : dt} {k : Int} {a1 : Int64} (h : St S D k) : wp (f_X8_tick S 0 a1 D) (fun q => wp (f_X9_tick S 28 a1 q.2) (fun r => q.1 = r.1 ∧ St S r.2 k)) := by
  obtain ⟨g, h, rel, hk⟩ := h
  refine wp_mono (q_tick h) (fun q p => ?_)
  obtain ⟨g1, h1, x1, f1⟩ := p
  refine wp_mono (q_tick9 h1) (fun r p => ?_)
  obtain ⟨g2, h2, x2, f2⟩ := p
  have e : g1.1 5 = g.1 4 := (x1 5 (by decide)).trans (rel.2.2.1).symm
  rw [e] at f2
  have d := ti_det f1 f2
  have z := rel2 rel x1 x2 (by decide) d.2
  exact ⟨Int64.toInt_inj.mp d.1, g2, h2, z.1, by rw [z.2]; exact hk⟩
theorem b_alter {S : sh} {D : dt} {k : Int} {a1 a2 a3 a4 a5 : Int32} (h : St S D k) : wp (f_X8_alter S 0 a1 a2 a3 a4 a5 D) (fun q => wp (f_X9_alter S 28 a1 a2 a3 a4 a5 q.2) (fun r => q.1 = r.1 ∧ St S r.2 k)) := by
  obtain ⟨g, h, rel, hk⟩ := h
  refine wp_mono (q_alter h) (fun q p => ?_)
  obtain ⟨g1, h1, x1, f1⟩ := p
  refine wp_mono (q_alter9 h1) (fun r p => ?_)
  obtain ⟨g2, h2, x2, f2⟩ := p
  have x1 : g1.1 = g.1 := x1
  have x2 : g2.1 = g1.1 := x2
  rw [x1, ← rel.1] at f2
  exact ⟨Int32.toInt_inj.mp (al_det f1 f2), St.one h2 rel hk (x2.trans x1)⟩
theorem b_start {S : sh} {D : dt} {k : Int} (h : St S D k) : wp (f_X8_start S 0 D) (fun q => wp (f_X9_start S 28 q.2) (fun r => q.1 = r.1 ∧ St S r.2 k)) := by
  obtain ⟨g, h, rel, hk⟩ := h
  refine wp_mono (q_start h) (fun q p => ?_)
  refine wp_mono (q_start9 p.2) (fun r p2 => ?_)
  have f2 := p2.1
  rw [← rel.1] at f2
  exact ⟨st_det p.1 f2, g, p2.2, rel, hk⟩
theorem b_context {S : sh} {D : dt} {k : Int} {a1 : Int32} (h : St S D k) : wp (f_X8_context S 0 a1 D) (fun q => wp (f_X9_context S 28 a1 q.2) (fun r => St S r.2 k)) := by
  obtain ⟨g, h, rel, hk⟩ := h
  exact wp_mono (s_X8_context h) (fun q p => wp_mono (s_X9_context p.2) (fun r p2 => ⟨g, p2.2, rel, hk⟩))
theorem b_poke {S : sh} {D : dt} {k : Int} {a1 a2 : Int32} (h : St S D k) : wp (f_X8_poke S 0 a1 a2 D) (fun q => wp (f_X9_poke S 28 a1 a2 q.2) (fun r => St S r.2 k)) := by
  obtain ⟨g, h, rel, hk⟩ := h
  exact wp_mono (s_X8_poke h) (fun q p => wp_mono (s_X9_poke p.2) (fun r p2 => ⟨g, p2.2, rel, hk⟩))
theorem b_octet {S : sh} {D : dt} {k : Int} {a1 : Int64} (h : St S D k) : wp (f_X8_octet S 0 a1 D) (fun q => wp (f_X9_octet S q.2 28 a1) (fun _ => St S q.2 k)) := by
  obtain ⟨g, h, rel, hk⟩ := h
  exact wp_mono (s_X8_octet h) (fun q p => wp_mono (s_X9_octet p) (fun r p2 => ⟨g, p, rel, hk⟩))
theorem b_judge {S : sh} {D : dt} {k : Int} (h : St S D k) : wp (f_X8_judge 0 S D) (fun q => wp (f_X9_judge q.2.1 28 q.2.2) (fun r => St q.2.1 r.2 k)) := by
  obtain ⟨g, h, rel, hk⟩ := h
  have n9 : g.1 9 ≠ 0 := by rw [rel.2.2.2.1]; decide
  exact wp_mono (q_judge n9 rel.2.2.2.2 h) (fun q p => wp_mono (s_X9_judge rel.2.2.2.2 p) (fun r p2 => ⟨g, p2.2, rel, hk⟩))
theorem b_step {S : sh} {D : dt} {k : Int} (hb : k + 10000 < 1073741824) (h : St S D k) : wp (f_X8_step S 0 D) (fun q => wp (f_X9_step S 28 q.2) (fun r => St S r.2 (k + 10000))) := by
  obtain ⟨g, h, rel, hk⟩ := h
  refine wp_mono (s_X8_step h) (fun q p => wp_mono (q_step9 (by omega) p.2) (fun r p2 => ⟨pgg g, p2, rel, ?_⟩))
  show g.1 6 + 1 ≤ k + 10000
  omega
theorem b_run {S : sh} {D : dt} {k : Int} {a1 : Int32} (hb : k + 10000 < 1073741824) (h : St S D k) : wp (f_X8_run S 0 a1 D) (fun q => wp (f_X9_run S 28 a1 q.2) (fun r => St S r.2 (k + 10000))) := by
  obtain ⟨g, h, rel, hk⟩ := h
  refine wp_mono (s_X8_run h) (fun q p => wp_mono (q_run9 (by omega) p) (fun r p2 => ?_))
  obtain ⟨g', a1, a2, a3⟩ := p2
  refine ⟨g', a1, ?_, by omega⟩
  obtain ⟨r1, r2, r3, r4, r5⟩ := rel
  exact ⟨by rw [a2 0 (by decide), a2 2 (by decide)]; exact r1, by rw [a2 1 (by decide), a2 3 (by decide)]; exact r2, by rw [a2 4 (by decide), a2 5 (by decide)]; exact r3, by rw [a2 9 (by decide)]; exact r4, by rw [a2 12 (by decide)]; exact r5⟩
theorem o8_place {S : sh} {D : dt} {k : Int} (h : St S D k) : wp (f_X8_place S D 0) (fun _ => True) := by
  obtain ⟨g, h, -, -⟩ := h
  exact wp_mono (s_X8_place h) (fun _ _ => trivial)
theorem o9_place {S : sh} {D : dt} {k : Int} (h : St S D k) : wp (f_X9_place S D 28) (fun _ => True) := by
  obtain ⟨g, h, -, -⟩ := h
  exact wp_mono (s_X9_place h) (fun _ _ => trivial)
theorem o8_may {S : sh} {D : dt} {k : Int} {a1 a2 a3 : Int32} (h : St S D k) : wp (f_X8_may S D 0 a1 a2 a3) (fun _ => True) := by
  obtain ⟨g, h, -, -⟩ := h
  exact wp_mono (s_X8_may h) (fun _ _ => trivial)
theorem o9_may {S : sh} {D : dt} {k : Int} {a1 a2 a3 : Int32} (h : St S D k) : wp (f_X9_may S D 28 a1 a2 a3) (fun _ => True) := by
  obtain ⟨g, h, -, -⟩ := h
  exact wp_mono (s_X9_may h) (fun _ _ => trivial)
theorem o8_cell {S : sh} {D : dt} {k : Int} {a1 a2 : Int32} (h : St S D k) : wp (f_X8_cell S D 0 a1 a2) (fun _ => True) := by
  obtain ⟨g, h, -, -⟩ := h
  exact wp_mono (s_X8_cell h) (fun _ _ => trivial)
theorem o9_cell {S : sh} {D : dt} {k : Int} {a1 a2 : Int32} (h : St S D k) : wp (f_X9_cell S D 28 a1 a2) (fun _ => True) := by
  obtain ⟨g, h, -, -⟩ := h
  exact wp_mono (s_X9_cell h) (fun _ _ => trivial)
theorem o8_told {S : sh} {D : dt} {k : Int} {a1 : Int32} (h : St S D k) : wp (f_X8_told S D 0 a1) (fun _ => True) := by
  obtain ⟨g, h, -, -⟩ := h
  exact wp_mono (s_X8_told h) (fun _ _ => trivial)
theorem o9_told {S : sh} {D : dt} {k : Int} {a1 : Int32} (h : St S D k) : wp (f_X9_told S D 28 a1) (fun _ => True) := by
  obtain ⟨g, h, -, -⟩ := h
  exact wp_mono (s_X9_told h) (fun _ _ => trivial)
theorem o8_register {S : sh} {D : dt} {k : Int} {a1 : Int32} (h : St S D k) : wp (f_X8_register S D 0 a1) (fun _ => True) := by
  obtain ⟨g, h, -, -⟩ := h
  exact wp_mono (s_X8_register h) (fun _ _ => trivial)
theorem o9_register {S : sh} {D : dt} {k : Int} {a1 : Int32} (h : St S D k) : wp (f_X9_register S D 28 a1) (fun _ => True) := by
  obtain ⟨g, h, -, -⟩ := h
  exact wp_mono (s_X9_register h) (fun _ _ => trivial)
theorem o8_putAt {S : sh} {D : dt} {k : Int} {a1 : Int32} (h : St S D k) : wp (f_X8_putAt S D 0 a1) (fun _ => True) := by
  obtain ⟨g, h, -, -⟩ := h
  exact wp_mono (s_X8_putAt h) (fun _ _ => trivial)
theorem o9_putAt {S : sh} {D : dt} {k : Int} {a1 : Int32} (h : St S D k) : wp (f_X9_putAt S D 28 a1) (fun _ => True) := by
  obtain ⟨g, h, -, -⟩ := h
  exact wp_mono (s_X9_putAt h) (fun _ _ => trivial)
theorem o8_keys {S : sh} {D : dt} {k : Int} {a1 : Int32} (h : St S D k) : wp (f_X8_keys S D 0 a1) (fun _ => True) := by
  obtain ⟨g, h, -, -⟩ := h
  exact wp_mono (s_X8_keys h) (fun _ _ => trivial)
theorem o9_keys {S : sh} {D : dt} {k : Int} {a1 : Int32} (h : St S D k) : wp (f_X9_keys S D 28 a1) (fun _ => True) := by
  obtain ⟨g, h, -, -⟩ := h
  exact wp_mono (s_X9_keys h) (fun _ _ => trivial)
