/-! THE INVARIANT of the class' objects and the reference's: the shape, each field's range, each reference's end, tables, scenes, ghosts -/
abbrev gh : Type := (Nat → Int) × (Nat → Nat → Int32)
def tp : Int × Int := (-2147483648, 2147483647)
def K0 (k : Nat) : Nat := [7, 3, 100, 100, 100, 100, 100, 2, 102, 102, 206, 1, 101, 101, 0, 204, 103, 4, 100, 101, 101, 101, 4, 100, 101, 101, 101, 5, 8, 100, 100, 100, 100, 100, 100, 100, 100, 100, 100, 100, 100, 103, 100, 101, 101, 100, 100, 103, 103, 100, 101, 101, 100, 100, 103, 100, 101, 101, 100, 100, 100, 101, 101, 100, 100, 103].getD k 0
def A0 (k : Nat) : Nat := [0, 0, 200, 200, 200, 200, 200, 0, 256, 512, 4, 0, 11, 32, 0, 200, 200, 0, 75, 75, 75, 8, 0, 75, 75, 75, 8, 0, 0, 200, 200, 200, 200, 200, 256, 512, 4, 4, 4, 4, 4096, 128, 1024, 11, 32, 32, 8, 200, 201, 2200, 2200, 2200, 2200, 2200, 102400, 12800, 12800, 12800, 12800, 12800, 150, 150, 150, 150, 150, 1024].getD k 0
def isP (o : Nat) : Bool := (Nat.ble 2 o && Nat.ble o 6) || (Nat.ble 29 o && Nat.ble o 33)
def bI (g : gh) (o j : Nat) : Int × Int := match o with
  | 1 => (match j with | 5 => (g.1 0, g.1 0) | _ => tp)
  | 2 => (0, 255)
  | 3 => (0, 15)
  | 4 => (0, 15)
  | 5 => ((-32768), 32767)
  | 7 => (match j with | 1 => (0, 256) | 4 => (g.1 1, g.1 1) | _ => tp)
  | 28 => (match j with | 0 => (g.1 2, g.1 2) | 7 => (0, 256) | 9 => (g.1 3, g.1 3) | 22 => (0, g.1 6) | 46 => (0, 199) | _ => tp)
  | 29 => (0, 255)
  | 30 => (0, 15)
  | 31 => (0, 15)
  | 32 => ((-32768), 32767)
  | 34 => (0, 255)
  | 35 => (0, 255)
  | 36 => (0, 1)
  | 37 => (0, 8)
  | 38 => (0, 32)
  | 39 => (0, 32)
  | 40 => (0, 255)
  | 45 => (0, 255)
  | 46 => (0, 255)
  | 52 => (0, 3)
  | 58 => (0, 3)
  | 63 => (0, 3)
  | _ => tp
def oR (S : sh) (o j : Nat) (v : Option Nat) : Prop := match o with
  | 0 => (match j with | 0 => v = some 1 | 1 => v = some 7 | 2 => v = some 11 | 3 => v = some 14 | _ => True)
  | 1 => (match j with | 0 => v = some 2 | 1 => v = some 3 | 2 => v = some 4 | 3 => v = some 5 | 4 => v = some 6 | _ => True)
  | 7 => (match j with | 0 => v = some 8 | 2 => v = some 9 | 3 => v = some 10 | 6 => ∃ x, v = some x ∧ sK S x = 102 | _ => True)
  | 10 => ∀ x, v = some x → sK S x = 6
  | 11 => (match j with | 0 => v = some 1 | 1 => v = some 7 | 2 => v = some 12 | 3 => v = some 13 | _ => True)
  | 14 => (match j with | 0 => v = some 1 | 1 => v = some 7 | 2 => v = some 15 | 3 => v = some 16 | 4 => v = some 17 | 5 => v = some 22 | 6 => v = some 27 | _ => True)
  | 15 => ∀ x, v = some x → sK S x = 4
  | 28 => (match j with | 1 => v = some 29 | 2 => v = some 30 | 3 => v = some 31 | 4 => v = some 32 | 5 => v = some 33 | 6 => v = some 34 | 8 => v = some 35 | 10 => v = some 36 | 11 => v = some 37 | 12 => v = some 38 | 13 => v = some 39 | 14 => v = some 40 | 15 => v = some 41 | 16 => v = some 42 | 21 => v = some 43 | 23 => v = some 44 | 24 => v = some 45 | 25 => v = some 46 | 27 => v = some 47 | 28 => v = some 48 | 29 => v = some 49 | 30 => v = some 50 | 31 => v = some 51 | 32 => v = some 52 | 33 => v = some 53 | 34 => v = some 54 | 35 => v = some 55 | 36 => v = some 56 | 37 => v = some 57 | 38 => v = some 58 | 39 => v = some 59 | 40 => v = some 60 | 41 => v = some 61 | 42 => v = some 62 | 43 => v = some 63 | 44 => v = some 64 | 45 => v = some 65 | _ => True)
  | _ => True
def Shp (S : sh) : Prop := 66 ≤ sN S ∧ (∀ k, k < 66 → sK S k = K0 k ∧ sA S k = A0 k) ∧ (∀ k, sN S ≤ k → sK S k = 0) ∧ (∀ o, sK S o = 4 → sK S (o + 1) = 100 ∧ sK S (o + 2) = 101 ∧ sK S (o + 3) = 101 ∧ sK S (o + 4) = 101 ∧ sA S (o + 1) = 75 ∧ sA S (o + 2) = 75 ∧ sA S (o + 3) = 75 ∧ sA S (o + 4) = 8) ∧ (∀ o, sK S o = 6 → sK S (o + 1) = 101 ∧ sK S (o + 2) = 103 ∧ sK S (o + 3) = 102 ∧ sA S (o + 1) = sA S (o + 2) ∧ sA S (o + 2) ≤ 32)
def vI (g : gh) (D : dt) : Prop := ∀ o j, o < 66 → Rg (bI g o j).1 (bI g o j).2 (gI D o j)
def vL (g : gh) (D : dt) : Prop := (gL D 7 5).toInt = g.1 4 ∧ (gL D 28 17).toInt = g.1 5
def vR (S : sh) (D : dt) : Prop := ∀ o j, o < 66 → oR S o j (gR D o j)
def vT (S : sh) (D : dt) : Prop := ∀ o, sK S o = 6 → (Rg 0 1 (gI D o 0) ∧ Rg 1 8 (gI D o 1) ∧ Rg 1 32 (gI D o 2) ∧ Rg 1 32 (gI D o 3)) ∧ (gR D o 4 = some (o + 1) ∧ gR D o 5 = some (o + 2) ∧ gR D o 6 = some (o + 3)) ∧ (sA S (o + 3) : Int) = (gI D o 2).toInt * (gI D o 3).toInt ∧ (sA S (o + 2) : Int) ≤ (gI D o 3).toInt
/-- a place of a scene: the STACK's has one end, and not far (now, behind a refusal, may have any) -/
def stk (g : gh) (o : Nat) (t : Int32) (l h : Int64) : Prop := t &&& 15 = 3 → l = h ∧ ((o = 17 ∧ g.1 9 ≠ 0) ∨ RgL (-1048576) 1048576 l)
def vS (g : gh) (S : sh) (D : dt) : Prop := ∀ o, sK S o = 4 → (gR D o 1 = some (o + 1) ∧ gR D o 2 = some (o + 2) ∧ gR D o 3 = some (o + 3) ∧ gR D o 4 = some (o + 4)) ∧ ∀ p, p < 75 → stk g o (gI D (o + 1) p) (gL D (o + 2) p) (gL D (o + 3) p)
/-- the reference's places: ON_STACK is not far -/
def stm (k : Int32) (l : Int64) : Prop := k = 3 → RgL (-1048576) 1048576 l
def vK (D : dt) : Prop := (∀ j, stm (gI D 60 j) (gL D 61 j)) ∧ (∀ j, stm (gI D 49 j) (gL D 50 j)) ∧ (∀ j, stm (gI D 55 j) (gL D 56 j)) ∧ stm (gI D 28 47) (gL D 28 48)
def vG (g : gh) : Prop := (0 ≤ g.1 0 ∧ g.1 0 ≤ 200) ∧ (0 ≤ g.1 1 ∧ g.1 1 ≤ 4) ∧ (0 ≤ g.1 2 ∧ g.1 2 ≤ 200) ∧ (0 ≤ g.1 3 ∧ g.1 3 ≤ 4) ∧ (0 ≤ g.1 4 ∧ g.1 4 ≤ 4611686018427387904) ∧ (0 ≤ g.1 5 ∧ g.1 5 ≤ 4611686018427387904) ∧ (0 ≤ g.1 6 ∧ g.1 6 ≤ 1073741824)
def vP (g : gh) (D : dt) : Prop := ∀ o j, isP o = true → gI D o j = g.2 o j
/-- how many slots have no scene yet -/
def nul (D : dt) : Nat := (List.range 200).countP (fun j => (gR D 15 j).isNone)
def vM (g : gh) (S : sh) (D : dt) : Prop := (sN S : Int) + 5 * (nul D : Int) + 4 * (4 - g.1 1) ≤ 1082 ∧ (sZ S : Int) + 239 * (nul D : Int) + 1095 * (4 - g.1 1) ≤ 352180
/-- if asked, the judge's ways stand still, and the reference's registers get no new ON_STACK -/
def vF (g : gh) (D : dt) : Prop := g.1 12 ≠ 0 → gI D 14 8 = g.2 14 8 ∧ gI D 14 10 = g.2 14 10 ∧ (gL D 14 9).toInt = g.1 13 ∧ (gL D 14 11).toInt = g.1 14 ∧ (∀ j, gI D 60 j = 3 → g.2 60 j = 3) ∧ gI D 28 53 = g.2 28 53
def Inv (g : gh) (S : sh) (D : dt) : Prop := Shp S ∧ vI g D ∧ vL g D ∧ vR S D ∧ vT S D ∧ vS g S D ∧ vG g ∧ vP g D ∧ vM g S D ∧ vK D ∧ vF g D
section INV
variable {g : gh} {S : sh} {D : dt}
theorem Inv.shp (h : Inv g S D) : Shp S := h.1
theorem Inv.i (h : Inv g S D) : vI g D := h.2.1
theorem Inv.l (h : Inv g S D) : vL g D := h.2.2.1
theorem Inv.r (h : Inv g S D) : vR S D := h.2.2.2.1
theorem Inv.t (h : Inv g S D) : vT S D := h.2.2.2.2.1
theorem Inv.s (h : Inv g S D) : vS g S D := h.2.2.2.2.2.1
theorem Inv.gg (h : Inv g S D) : vG g := h.2.2.2.2.2.2.1
theorem Inv.p (h : Inv g S D) : vP g D := h.2.2.2.2.2.2.2.1
theorem Inv.m (h : Inv g S D) : vM g S D := h.2.2.2.2.2.2.2.2.1
theorem Inv.k (h : Inv g S D) : vK D := h.2.2.2.2.2.2.2.2.2.1
theorem Inv.f (h : Inv g S D) : vF g D := h.2.2.2.2.2.2.2.2.2.2
theorem iA_2 (h : Inv g S D) : sA S 2 = 200 := (h.shp.2.1 2 (by decide)).2
theorem iA_3 (h : Inv g S D) : sA S 3 = 200 := (h.shp.2.1 3 (by decide)).2
theorem iA_4 (h : Inv g S D) : sA S 4 = 200 := (h.shp.2.1 4 (by decide)).2
theorem iA_5 (h : Inv g S D) : sA S 5 = 200 := (h.shp.2.1 5 (by decide)).2
theorem iA_6 (h : Inv g S D) : sA S 6 = 200 := (h.shp.2.1 6 (by decide)).2
theorem iA_8 (h : Inv g S D) : sA S 8 = 256 := (h.shp.2.1 8 (by decide)).2
theorem iA_9 (h : Inv g S D) : sA S 9 = 512 := (h.shp.2.1 9 (by decide)).2
theorem iA_10 (h : Inv g S D) : sA S 10 = 4 := (h.shp.2.1 10 (by decide)).2
theorem iA_12 (h : Inv g S D) : sA S 12 = 11 := (h.shp.2.1 12 (by decide)).2
theorem iA_13 (h : Inv g S D) : sA S 13 = 32 := (h.shp.2.1 13 (by decide)).2
theorem iA_15 (h : Inv g S D) : sA S 15 = 200 := (h.shp.2.1 15 (by decide)).2
theorem iA_16 (h : Inv g S D) : sA S 16 = 200 := (h.shp.2.1 16 (by decide)).2
theorem iA_18 (h : Inv g S D) : sA S 18 = 75 := (h.shp.2.1 18 (by decide)).2
theorem iA_19 (h : Inv g S D) : sA S 19 = 75 := (h.shp.2.1 19 (by decide)).2
theorem iA_20 (h : Inv g S D) : sA S 20 = 75 := (h.shp.2.1 20 (by decide)).2
theorem iA_21 (h : Inv g S D) : sA S 21 = 8 := (h.shp.2.1 21 (by decide)).2
theorem iA_23 (h : Inv g S D) : sA S 23 = 75 := (h.shp.2.1 23 (by decide)).2
theorem iA_24 (h : Inv g S D) : sA S 24 = 75 := (h.shp.2.1 24 (by decide)).2
theorem iA_25 (h : Inv g S D) : sA S 25 = 75 := (h.shp.2.1 25 (by decide)).2
theorem iA_26 (h : Inv g S D) : sA S 26 = 8 := (h.shp.2.1 26 (by decide)).2
theorem iA_29 (h : Inv g S D) : sA S 29 = 200 := (h.shp.2.1 29 (by decide)).2
theorem iA_30 (h : Inv g S D) : sA S 30 = 200 := (h.shp.2.1 30 (by decide)).2
theorem iA_31 (h : Inv g S D) : sA S 31 = 200 := (h.shp.2.1 31 (by decide)).2
theorem iA_32 (h : Inv g S D) : sA S 32 = 200 := (h.shp.2.1 32 (by decide)).2
theorem iA_33 (h : Inv g S D) : sA S 33 = 200 := (h.shp.2.1 33 (by decide)).2
theorem iA_34 (h : Inv g S D) : sA S 34 = 256 := (h.shp.2.1 34 (by decide)).2
theorem iA_35 (h : Inv g S D) : sA S 35 = 512 := (h.shp.2.1 35 (by decide)).2
theorem iA_36 (h : Inv g S D) : sA S 36 = 4 := (h.shp.2.1 36 (by decide)).2
theorem iA_37 (h : Inv g S D) : sA S 37 = 4 := (h.shp.2.1 37 (by decide)).2
theorem iA_38 (h : Inv g S D) : sA S 38 = 4 := (h.shp.2.1 38 (by decide)).2
theorem iA_39 (h : Inv g S D) : sA S 39 = 4 := (h.shp.2.1 39 (by decide)).2
theorem iA_40 (h : Inv g S D) : sA S 40 = 4096 := (h.shp.2.1 40 (by decide)).2
theorem iA_41 (h : Inv g S D) : sA S 41 = 128 := (h.shp.2.1 41 (by decide)).2
theorem iA_42 (h : Inv g S D) : sA S 42 = 1024 := (h.shp.2.1 42 (by decide)).2
theorem iA_43 (h : Inv g S D) : sA S 43 = 11 := (h.shp.2.1 43 (by decide)).2
theorem iA_44 (h : Inv g S D) : sA S 44 = 32 := (h.shp.2.1 44 (by decide)).2
theorem iA_45 (h : Inv g S D) : sA S 45 = 32 := (h.shp.2.1 45 (by decide)).2
theorem iA_46 (h : Inv g S D) : sA S 46 = 8 := (h.shp.2.1 46 (by decide)).2
theorem iA_47 (h : Inv g S D) : sA S 47 = 200 := (h.shp.2.1 47 (by decide)).2
theorem iA_48 (h : Inv g S D) : sA S 48 = 201 := (h.shp.2.1 48 (by decide)).2
theorem iA_49 (h : Inv g S D) : sA S 49 = 2200 := (h.shp.2.1 49 (by decide)).2
theorem iA_50 (h : Inv g S D) : sA S 50 = 2200 := (h.shp.2.1 50 (by decide)).2
theorem iA_51 (h : Inv g S D) : sA S 51 = 2200 := (h.shp.2.1 51 (by decide)).2
theorem iA_52 (h : Inv g S D) : sA S 52 = 2200 := (h.shp.2.1 52 (by decide)).2
theorem iA_53 (h : Inv g S D) : sA S 53 = 2200 := (h.shp.2.1 53 (by decide)).2
theorem iA_54 (h : Inv g S D) : sA S 54 = 102400 := (h.shp.2.1 54 (by decide)).2
theorem iA_55 (h : Inv g S D) : sA S 55 = 12800 := (h.shp.2.1 55 (by decide)).2
theorem iA_56 (h : Inv g S D) : sA S 56 = 12800 := (h.shp.2.1 56 (by decide)).2
theorem iA_57 (h : Inv g S D) : sA S 57 = 12800 := (h.shp.2.1 57 (by decide)).2
theorem iA_58 (h : Inv g S D) : sA S 58 = 12800 := (h.shp.2.1 58 (by decide)).2
theorem iA_59 (h : Inv g S D) : sA S 59 = 12800 := (h.shp.2.1 59 (by decide)).2
theorem iA_60 (h : Inv g S D) : sA S 60 = 150 := (h.shp.2.1 60 (by decide)).2
theorem iA_61 (h : Inv g S D) : sA S 61 = 150 := (h.shp.2.1 61 (by decide)).2
theorem iA_62 (h : Inv g S D) : sA S 62 = 150 := (h.shp.2.1 62 (by decide)).2
theorem iA_63 (h : Inv g S D) : sA S 63 = 150 := (h.shp.2.1 63 (by decide)).2
theorem iA_64 (h : Inv g S D) : sA S 64 = 150 := (h.shp.2.1 64 (by decide)).2
theorem iA_65 (h : Inv g S D) : sA S 65 = 1024 := (h.shp.2.1 65 (by decide)).2
theorem iK_17 (h : Inv g S D) : sK S 17 = 4 := (h.shp.2.1 17 (by decide)).1
theorem iK_22 (h : Inv g S D) : sK S 22 = 4 := (h.shp.2.1 22 (by decide)).1
theorem iI_2 (h : Inv g S D) (j : Nat) : Rg 0 255 (gI D 2 j) := h.i 2 j (by decide)
theorem iI_3 (h : Inv g S D) (j : Nat) : Rg 0 15 (gI D 3 j) := h.i 3 j (by decide)
theorem iI_4 (h : Inv g S D) (j : Nat) : Rg 0 15 (gI D 4 j) := h.i 4 j (by decide)
theorem iI_5 (h : Inv g S D) (j : Nat) : Rg (-32768) 32767 (gI D 5 j) := h.i 5 j (by decide)
theorem iI_29 (h : Inv g S D) (j : Nat) : Rg 0 255 (gI D 29 j) := h.i 29 j (by decide)
theorem iI_30 (h : Inv g S D) (j : Nat) : Rg 0 15 (gI D 30 j) := h.i 30 j (by decide)
theorem iI_31 (h : Inv g S D) (j : Nat) : Rg 0 15 (gI D 31 j) := h.i 31 j (by decide)
theorem iI_32 (h : Inv g S D) (j : Nat) : Rg (-32768) 32767 (gI D 32 j) := h.i 32 j (by decide)
theorem iI_34 (h : Inv g S D) (j : Nat) : Rg 0 255 (gI D 34 j) := h.i 34 j (by decide)
theorem iI_35 (h : Inv g S D) (j : Nat) : Rg 0 255 (gI D 35 j) := h.i 35 j (by decide)
theorem iI_36 (h : Inv g S D) (j : Nat) : Rg 0 1 (gI D 36 j) := h.i 36 j (by decide)
theorem iI_37 (h : Inv g S D) (j : Nat) : Rg 0 8 (gI D 37 j) := h.i 37 j (by decide)
theorem iI_38 (h : Inv g S D) (j : Nat) : Rg 0 32 (gI D 38 j) := h.i 38 j (by decide)
theorem iI_39 (h : Inv g S D) (j : Nat) : Rg 0 32 (gI D 39 j) := h.i 39 j (by decide)
theorem iI_40 (h : Inv g S D) (j : Nat) : Rg 0 255 (gI D 40 j) := h.i 40 j (by decide)
theorem iI_45 (h : Inv g S D) (j : Nat) : Rg 0 255 (gI D 45 j) := h.i 45 j (by decide)
theorem iI_46 (h : Inv g S D) (j : Nat) : Rg 0 255 (gI D 46 j) := h.i 46 j (by decide)
theorem iI_52 (h : Inv g S D) (j : Nat) : Rg 0 3 (gI D 52 j) := h.i 52 j (by decide)
theorem iI_58 (h : Inv g S D) (j : Nat) : Rg 0 3 (gI D 58 j) := h.i 58 j (by decide)
theorem iI_63 (h : Inv g S D) (j : Nat) : Rg 0 3 (gI D 63 j) := h.i 63 j (by decide)
theorem iF_1_5 (h : Inv g S D) : Rg 0 200 (gI D 1 5) := rg_w (h.i 1 5 (by decide)) ⟨h.gg.1.1, h.gg.1.2⟩
theorem iF_7_1 (h : Inv g S D) : Rg 0 256 (gI D 7 1) := h.i 7 1 (by decide)
theorem iF_7_4 (h : Inv g S D) : Rg 0 4 (gI D 7 4) := rg_w (h.i 7 4 (by decide)) ⟨h.gg.2.1.1, h.gg.2.1.2⟩
theorem iF_28_0 (h : Inv g S D) : Rg 0 200 (gI D 28 0) := rg_w (h.i 28 0 (by decide)) ⟨h.gg.2.2.1.1, h.gg.2.2.1.2⟩
theorem iF_28_7 (h : Inv g S D) : Rg 0 256 (gI D 28 7) := h.i 28 7 (by decide)
theorem iF_28_9 (h : Inv g S D) : Rg 0 4 (gI D 28 9) := rg_w (h.i 28 9 (by decide)) ⟨h.gg.2.2.2.1.1, h.gg.2.2.2.1.2⟩
theorem iF_28_22 (h : Inv g S D) : Rg 0 1073741824 (gI D 28 22) := rg_w (h.i 28 22 (by decide)) ⟨Int.le_refl _, h.gg.2.2.2.2.2.2.2⟩
theorem iF_28_46 (h : Inv g S D) : Rg 0 199 (gI D 28 46) := h.i 28 46 (by decide)
theorem iG_1_5 (h : Inv g S D) : (gI D 1 5).toInt = g.1 0 := Int.le_antisymm (h.i 1 5 (by decide)).2 (h.i 1 5 (by decide)).1
theorem iG_7_4 (h : Inv g S D) : (gI D 7 4).toInt = g.1 1 := Int.le_antisymm (h.i 7 4 (by decide)).2 (h.i 7 4 (by decide)).1
theorem iG_28_0 (h : Inv g S D) : (gI D 28 0).toInt = g.1 2 := Int.le_antisymm (h.i 28 0 (by decide)).2 (h.i 28 0 (by decide)).1
theorem iG_28_9 (h : Inv g S D) : (gI D 28 9).toInt = g.1 3 := Int.le_antisymm (h.i 28 9 (by decide)).2 (h.i 28 9 (by decide)).1
theorem iR_0_0 (h : Inv g S D) : gR D 0 0 = some 1 := h.r 0 0 (by decide)
theorem iR_0_1 (h : Inv g S D) : gR D 0 1 = some 7 := h.r 0 1 (by decide)
theorem iR_0_2 (h : Inv g S D) : gR D 0 2 = some 11 := h.r 0 2 (by decide)
theorem iR_0_3 (h : Inv g S D) : gR D 0 3 = some 14 := h.r 0 3 (by decide)
theorem iR_1_0 (h : Inv g S D) : gR D 1 0 = some 2 := h.r 1 0 (by decide)
theorem iR_1_1 (h : Inv g S D) : gR D 1 1 = some 3 := h.r 1 1 (by decide)
theorem iR_1_2 (h : Inv g S D) : gR D 1 2 = some 4 := h.r 1 2 (by decide)
theorem iR_1_3 (h : Inv g S D) : gR D 1 3 = some 5 := h.r 1 3 (by decide)
theorem iR_1_4 (h : Inv g S D) : gR D 1 4 = some 6 := h.r 1 4 (by decide)
theorem iR_7_0 (h : Inv g S D) : gR D 7 0 = some 8 := h.r 7 0 (by decide)
theorem iR_7_2 (h : Inv g S D) : gR D 7 2 = some 9 := h.r 7 2 (by decide)
theorem iR_7_3 (h : Inv g S D) : gR D 7 3 = some 10 := h.r 7 3 (by decide)
theorem iR_11_0 (h : Inv g S D) : gR D 11 0 = some 1 := h.r 11 0 (by decide)
theorem iR_11_1 (h : Inv g S D) : gR D 11 1 = some 7 := h.r 11 1 (by decide)
theorem iR_11_2 (h : Inv g S D) : gR D 11 2 = some 12 := h.r 11 2 (by decide)
theorem iR_11_3 (h : Inv g S D) : gR D 11 3 = some 13 := h.r 11 3 (by decide)
theorem iR_14_0 (h : Inv g S D) : gR D 14 0 = some 1 := h.r 14 0 (by decide)
theorem iR_14_1 (h : Inv g S D) : gR D 14 1 = some 7 := h.r 14 1 (by decide)
theorem iR_14_2 (h : Inv g S D) : gR D 14 2 = some 15 := h.r 14 2 (by decide)
theorem iR_14_3 (h : Inv g S D) : gR D 14 3 = some 16 := h.r 14 3 (by decide)
theorem iR_14_4 (h : Inv g S D) : gR D 14 4 = some 17 := h.r 14 4 (by decide)
theorem iR_14_5 (h : Inv g S D) : gR D 14 5 = some 22 := h.r 14 5 (by decide)
theorem iR_14_6 (h : Inv g S D) : gR D 14 6 = some 27 := h.r 14 6 (by decide)
theorem iR_28_1 (h : Inv g S D) : gR D 28 1 = some 29 := h.r 28 1 (by decide)
theorem iR_28_2 (h : Inv g S D) : gR D 28 2 = some 30 := h.r 28 2 (by decide)
theorem iR_28_3 (h : Inv g S D) : gR D 28 3 = some 31 := h.r 28 3 (by decide)
theorem iR_28_4 (h : Inv g S D) : gR D 28 4 = some 32 := h.r 28 4 (by decide)
theorem iR_28_5 (h : Inv g S D) : gR D 28 5 = some 33 := h.r 28 5 (by decide)
theorem iR_28_6 (h : Inv g S D) : gR D 28 6 = some 34 := h.r 28 6 (by decide)
theorem iR_28_8 (h : Inv g S D) : gR D 28 8 = some 35 := h.r 28 8 (by decide)
theorem iR_28_10 (h : Inv g S D) : gR D 28 10 = some 36 := h.r 28 10 (by decide)
theorem iR_28_11 (h : Inv g S D) : gR D 28 11 = some 37 := h.r 28 11 (by decide)
theorem iR_28_12 (h : Inv g S D) : gR D 28 12 = some 38 := h.r 28 12 (by decide)
theorem iR_28_13 (h : Inv g S D) : gR D 28 13 = some 39 := h.r 28 13 (by decide)
theorem iR_28_14 (h : Inv g S D) : gR D 28 14 = some 40 := h.r 28 14 (by decide)
theorem iR_28_15 (h : Inv g S D) : gR D 28 15 = some 41 := h.r 28 15 (by decide)
theorem iR_28_16 (h : Inv g S D) : gR D 28 16 = some 42 := h.r 28 16 (by decide)
theorem iR_28_21 (h : Inv g S D) : gR D 28 21 = some 43 := h.r 28 21 (by decide)
theorem iR_28_23 (h : Inv g S D) : gR D 28 23 = some 44 := h.r 28 23 (by decide)
theorem iR_28_24 (h : Inv g S D) : gR D 28 24 = some 45 := h.r 28 24 (by decide)
theorem iR_28_25 (h : Inv g S D) : gR D 28 25 = some 46 := h.r 28 25 (by decide)
theorem iR_28_27 (h : Inv g S D) : gR D 28 27 = some 47 := h.r 28 27 (by decide)
theorem iR_28_28 (h : Inv g S D) : gR D 28 28 = some 48 := h.r 28 28 (by decide)
theorem iR_28_29 (h : Inv g S D) : gR D 28 29 = some 49 := h.r 28 29 (by decide)
theorem iR_28_30 (h : Inv g S D) : gR D 28 30 = some 50 := h.r 28 30 (by decide)
theorem iR_28_31 (h : Inv g S D) : gR D 28 31 = some 51 := h.r 28 31 (by decide)
theorem iR_28_32 (h : Inv g S D) : gR D 28 32 = some 52 := h.r 28 32 (by decide)
theorem iR_28_33 (h : Inv g S D) : gR D 28 33 = some 53 := h.r 28 33 (by decide)
theorem iR_28_34 (h : Inv g S D) : gR D 28 34 = some 54 := h.r 28 34 (by decide)
theorem iR_28_35 (h : Inv g S D) : gR D 28 35 = some 55 := h.r 28 35 (by decide)
theorem iR_28_36 (h : Inv g S D) : gR D 28 36 = some 56 := h.r 28 36 (by decide)
theorem iR_28_37 (h : Inv g S D) : gR D 28 37 = some 57 := h.r 28 37 (by decide)
theorem iR_28_38 (h : Inv g S D) : gR D 28 38 = some 58 := h.r 28 38 (by decide)
theorem iR_28_39 (h : Inv g S D) : gR D 28 39 = some 59 := h.r 28 39 (by decide)
theorem iR_28_40 (h : Inv g S D) : gR D 28 40 = some 60 := h.r 28 40 (by decide)
theorem iR_28_41 (h : Inv g S D) : gR D 28 41 = some 61 := h.r 28 41 (by decide)
theorem iR_28_42 (h : Inv g S D) : gR D 28 42 = some 62 := h.r 28 42 (by decide)
theorem iR_28_43 (h : Inv g S D) : gR D 28 43 = some 63 := h.r 28 43 (by decide)
theorem iR_28_44 (h : Inv g S D) : gR D 28 44 = some 64 := h.r 28 44 (by decide)
theorem iR_28_45 (h : Inv g S D) : gR D 28 45 = some 65 := h.r 28 45 (by decide)
theorem iR_17_1 (h : Inv g S D) : gR D 17 1 = some 18 := (h.s 17 (iK_17 h)).1.1
theorem iR_17_2 (h : Inv g S D) : gR D 17 2 = some 19 := (h.s 17 (iK_17 h)).1.2.1
theorem iR_17_3 (h : Inv g S D) : gR D 17 3 = some 20 := (h.s 17 (iK_17 h)).1.2.2.1
theorem iR_17_4 (h : Inv g S D) : gR D 17 4 = some 21 := (h.s 17 (iK_17 h)).1.2.2.2
theorem iR_22_1 (h : Inv g S D) : gR D 22 1 = some 23 := (h.s 22 (iK_22 h)).1.1
theorem iR_22_2 (h : Inv g S D) : gR D 22 2 = some 24 := (h.s 22 (iK_22 h)).1.2.1
theorem iR_22_3 (h : Inv g S D) : gR D 22 3 = some 25 := (h.s 22 (iK_22 h)).1.2.2.1
theorem iR_22_4 (h : Inv g S D) : gR D 22 4 = some 26 := (h.s 22 (iK_22 h)).1.2.2.2
section OBJ
variable {o : Nat}
theorem iSR1 (h : Inv g S D) (k : sK S o = 4) : gR D o 1 = some (o + 1) := (h.s o k).1.1
theorem iSA1 (h : Inv g S D) (k : sK S o = 4) : sA S (o + 1) = 75 := (h.shp.2.2.2.1 o k).2.2.2.2.1
theorem iSR2 (h : Inv g S D) (k : sK S o = 4) : gR D o 2 = some (o + 2) := (h.s o k).1.2.1
theorem iSA2 (h : Inv g S D) (k : sK S o = 4) : sA S (o + 2) = 75 := (h.shp.2.2.2.1 o k).2.2.2.2.2.1
theorem iSR3 (h : Inv g S D) (k : sK S o = 4) : gR D o 3 = some (o + 3) := (h.s o k).1.2.2.1
theorem iSA3 (h : Inv g S D) (k : sK S o = 4) : sA S (o + 3) = 75 := (h.shp.2.2.2.1 o k).2.2.2.2.2.2.1
theorem iSR4 (h : Inv g S D) (k : sK S o = 4) : gR D o 4 = some (o + 4) := (h.s o k).1.2.2.2
theorem iSA4 (h : Inv g S D) (k : sK S o = 4) : sA S (o + 4) = 8 := (h.shp.2.2.2.1 o k).2.2.2.2.2.2.2
theorem iSS (h : Inv g S D) (k : sK S o = 4) : ∀ p, p < 75 → stk g o (gI D (o + 1) p) (gL D (o + 2) p) (gL D (o + 3) p) := (h.s o k).2
theorem iT0 (h : Inv g S D) (k : sK S o = 6) : Rg 0 1 (gI D o 0) := (h.t o k).1.1
theorem iT1 (h : Inv g S D) (k : sK S o = 6) : Rg 1 8 (gI D o 1) := (h.t o k).1.2.1
theorem iT2 (h : Inv g S D) (k : sK S o = 6) : Rg 1 32 (gI D o 2) := (h.t o k).1.2.2.1
theorem iT3 (h : Inv g S D) (k : sK S o = 6) : Rg 1 32 (gI D o 3) := (h.t o k).1.2.2.2
theorem iTR1 (h : Inv g S D) (k : sK S o = 6) : gR D o 4 = some (o + 1) := (h.t o k).2.1.1
theorem iTR2 (h : Inv g S D) (k : sK S o = 6) : gR D o 5 = some (o + 2) := (h.t o k).2.1.2.1
theorem iTR3 (h : Inv g S D) (k : sK S o = 6) : gR D o 6 = some (o + 3) := (h.t o k).2.1.2.2
theorem iTL (h : Inv g S D) (k : sK S o = 6) : (sA S (o + 3) : Int) = (gI D o 2).toInt * (gI D o 3).toInt := (h.t o k).2.2.1
theorem iTU (h : Inv g S D) (k : sK S o = 6) : (sA S (o + 2) : Int) ≤ (gI D o 3).toInt := (h.t o k).2.2.2
theorem iTE (h : Inv g S D) (k : sK S o = 6) : sA S (o + 1) = sA S (o + 2) ∧ sA S (o + 2) ≤ 32 := (h.shp.2.2.2.2 o k).2.2.2
theorem iTab (h : Inv g S D) {j x : Nat} (e : gR D 10 j = some x) : sK S x = 6 := h.r 10 j (by decide) x e
theorem iSce (h : Inv g S D) {j x : Nat} (e : gR D 15 j = some x) : sK S x = 4 := h.r 15 j (by decide) x e
theorem iFnd (h : Inv g S D) : ∃ x, gR D 7 6 = some x ∧ sK S x = 102 := h.r 7 6 (by decide)
end OBJ
-- writes of small numbers
theorem k_sc : ∀ o, o < 66 → K0 o = 4 → o = 17 ∨ o = 22 := by decide
theorem k_tb : ∀ o, o < 66 → K0 o ≠ 6 := by decide
theorem k_by : ∀ o, o < 66 → (K0 o = 102 ∨ K0 o = 103) → o = 8 ∨ o = 9 ∨ o = 16 ∨ o = 41 ∨ o = 47 ∨ o = 48 ∨ o = 54 ∨ o = 65 := by decide
theorem nul_same {D D' : dt} (h : ∀ j, gR D' 15 j = gR D 15 j) : nul D' = nul D := by
  unfold nul
  congr 1
  funext j
  rw [h]
theorem inv_pI_gen {o j : Nat} {v : Int32} (h : Inv g S D) (h1 : o < 66 → Rg (bI g o j).1 (bI g o j).2 v) (h2 : sK S o ≠ 6) (h3 : ∀ a, sK S a = 4 → a + 1 ≠ o) (h4 : isP o = false) (h5 : (o = 60 ∨ o = 49 ∨ o = 55 ∨ (o = 28 ∧ j = 47)) → v ≠ 3) (h6 : (o = 14 ∨ o = 28) → ((o = 14 ∧ (j = 8 ∨ j = 10)) ∨ (o = 28 ∧ j = 53)) → g.1 12 = 0) : Inv g S (pI D o j v) := by
  obtain ⟨a1, a2, a3, a4, a5, a6, a7, a8, a9, a10, a11⟩ := h
  refine ⟨a1, fun a b ha => ?_, a3, a4, fun a ha => ?_, fun a ha => ?_, a7, fun a b ha => ?_, a9, ⟨fun b => ?_, fun b => ?_, fun b => ?_, ?_⟩, fun hz => ?_⟩
  · rw [gI_pI]
    split
    · rename_i q
      obtain ⟨rfl, rfl⟩ := q
      exact h1 ha
    · exact a2 a b ha
  · have ne : ∀ b, gI (pI D o j v) a b = gI D a b := fun b => by
      rw [gI_pI, if_neg]
      rintro ⟨rfl, -⟩
      exact h2 ha
    simp only [ne, gR_pI]
    exact a5 a ha
  · refine ⟨(a6 a ha).1, fun p => ?_⟩
    rw [gI_pI, if_neg (fun q => h3 a ha q.1)]
    exact (a6 a ha).2 p
  · rw [gI_pI, if_neg]
    · exact a8 a b ha
    · rintro ⟨rfl, -⟩
      rw [h4] at ha
      cases ha
  · rw [gI_pI]
    split
    · exact fun e => absurd e (h5 (Or.inl (by omega)))
    · exact a10.1 b
  · rw [gI_pI]
    split
    · exact fun e => absurd e (h5 (Or.inr (Or.inl (by omega))))
    · exact a10.2.1 b
  · rw [gI_pI]
    split
    · exact fun e => absurd e (h5 (Or.inr (Or.inr (Or.inl (by omega)))))
    · exact a10.2.2.1 b
  · rw [gI_pI]
    split
    · exact fun e => absurd e (h5 (Or.inr (Or.inr (Or.inr (by omega)))))
    · exact a10.2.2.2
  · obtain ⟨f1, f2, f3, f4, f5, f6⟩ := a11 hz
    refine ⟨?_, ?_, f3, f4, fun b e => ?_, ?_⟩
    · rw [gI_pI, if_neg (fun q => hz (h6 (Or.inl q.1.symm) (Or.inl ⟨q.1.symm, Or.inl q.2.symm⟩)))]
      exact f1
    · rw [gI_pI, if_neg (fun q => hz (h6 (Or.inl q.1.symm) (Or.inl ⟨q.1.symm, Or.inr q.2.symm⟩)))]
      exact f2
    · rw [gI_pI] at e
      split at e
      · rename_i q
        exact absurd e (h5 (Or.inl q.1.symm))
      · exact f5 b e
    · rw [gI_pI, if_neg (fun q => hz (h6 (Or.inr q.1.symm) (Or.inr ⟨q.1.symm, q.2.symm⟩)))]
      exact f6
theorem sc_at {a : Nat} (h : Inv g S D) (ha : a < 66) (k : sK S a = 4) : a = 17 ∨ a = 22 := k_sc a ha ((h.shp.2.1 a ha).1.symm.trans k)
theorem sc_ne {a o : Nat} (h : Inv g S D) (k : sK S a = 4) (ho : o < 66) (n1 : o ≠ 18) (n2 : o ≠ 23) : a + 1 ≠ o := by
  intro e
  rcases sc_at h (by omega) k with rfl | rfl <;> omega
theorem tb_ne {o : Nat} (h : Inv g S D) (ho : o < 66) : sK S o ≠ 6 := by
  rw [(h.shp.2.1 o ho).1]
  exact k_tb o ho
/-- a write at one of the first objects -/
theorem inv_pI {o j : Nat} {v : Int32} (h : Inv g S D) (w : (Nat.blt o 66 && !(isP o) && !(Nat.beq o 18) && !(Nat.beq o 23)) = true) (h5 : (o = 60 ∨ o = 49 ∨ o = 55 ∨ (o = 28 ∧ j = 47)) → v ≠ 3) (h6 : (o = 14 ∨ o = 28) → ((o = 14 ∧ (j = 8 ∨ j = 10)) ∨ (o = 28 ∧ j = 53)) → g.1 12 = 0) (hv : Rg (bI g o j).1 (bI g o j).2 v) : Inv g S (pI D o j v) := by
  simp only [Bool.and_eq_true, Bool.not_eq_true'] at w
  obtain ⟨⟨⟨w1, w2⟩, w3⟩, w4⟩ := w
  have w1 : o < 66 := Nat.blt_eq.mp w1
  have w3 : o ≠ 18 := by
    rintro rfl
    exact absurd w3 (by decide)
  have w4 : o ≠ 23 := by
    rintro rfl
    exact absurd w4 (by decide)
  exact inv_pI_gen h (fun _ => hv) (tb_ne h w1) (fun a k => sc_ne h k w1 w3 w4) w2 h5 h6
/-- a write into octets or truth values -/
theorem inv_pI_by {o j : Nat} {v : Int32} (h : Inv g S D) (k : sK S o = 102 ∨ sK S o = 103) : Inv g S (pI D o j v) := by
  refine inv_pI_gen h (fun ho => ?_) (fun e => by rw [e] at k; omega) (fun a ka e => ?_) ?_ (fun q => by have := k_by o (by omega) (by rw [← (h.shp.2.1 o (by omega)).1]; exact k); omega) (fun q => by have := k_by o (by omega) (by rw [← (h.shp.2.1 o (by omega)).1]; exact k); omega)
  · have := k_by o ho (by rw [← (h.shp.2.1 o ho).1]; exact k)
    rcases this with rfl | rfl | rfl | rfl | rfl | rfl | rfl | rfl <;> exact rg_top v
  · have := (h.shp.2.2.2.1 a ka).1
    rw [e] at this
    omega
  · by_cases ho : o < 66
    · have := k_by o ho (by rw [← (h.shp.2.1 o ho).1]; exact k)
      rcases this with rfl | rfl | rfl | rfl | rfl | rfl | rfl | rfl <;> rfl
    · unfold isP
      have : Nat.ble o 6 = false := by
        cases q : Nat.ble o 6
        · rfl
        · exact absurd (Nat.le_of_ble_eq_true q) (by omega)
      have q2 : Nat.ble o 33 = false := by
        cases q : Nat.ble o 33
        · rfl
        · exact absurd (Nat.le_of_ble_eq_true q) (by omega)
      simp [this, q2]
/-- a scene's own field -/
theorem inv_pI_sc {o j : Nat} {v : Int32} (h : Inv g S D) (k : sK S o = 4) : Inv g S (pI D o j v) := by
  refine inv_pI_gen h (fun ho => ?_) (fun e => by rw [e] at k; omega) (fun a ka e => ?_) ?_ (fun q => by have := sc_at h (by omega) k; omega) (fun q => by have := sc_at h (by omega) k; omega)
  · rcases sc_at h ho k with rfl | rfl <;> exact rg_top v
  · have := (h.shp.2.2.2.1 a ka).1
    rw [e] at this
    omega
  · by_cases ho : o < 66
    · rcases sc_at h ho k with rfl | rfl <;> rfl
    · unfold isP
      have : Nat.ble o 6 = false := by
        cases q : Nat.ble o 6
        · rfl
        · exact absurd (Nat.le_of_ble_eq_true q) (by omega)
      have q2 : Nat.ble o 33 = false := by
        cases q : Nat.ble o 33
        · rfl
        · exact absurd (Nat.le_of_ble_eq_true q) (by omega)
      simp [this, q2]
theorem inv_pL_gen {o j : Nat} {v : Int64} (h : Inv g S D) (h1 : ¬ (o = 7 ∧ j = 5)) (h2 : ¬ (o = 28 ∧ j = 17)) (h3 : ∀ a, sK S a = 4 → a + 2 ≠ o ∧ a + 3 ≠ o) (h5 : (o = 61 → gI D 60 j = 3 → RgL (-1048576) 1048576 v) ∧ (o = 50 → gI D 49 j = 3 → RgL (-1048576) 1048576 v) ∧ (o = 56 → gI D 55 j = 3 → RgL (-1048576) 1048576 v) ∧ (o = 28 ∧ j = 48 → gI D 28 47 = 3 → RgL (-1048576) 1048576 v)) (h6 : o = 14 → (j = 9 ∨ j = 11) → g.1 12 = 0) : Inv g S (pL D o j v) := by
  obtain ⟨a1, a2, a3, a4, a5, a6, a7, a8, a9, a10, a11⟩ := h
  refine ⟨a1, a2, ?_, a4, a5, fun a ha => ?_, a7, a8, a9, ⟨fun b => ?_, fun b => ?_, fun b => ?_, ?_⟩, fun hz => ?_⟩
  · unfold vL
    rw [gL_pL, gL_pL, if_neg (fun q => h1 ⟨q.1.symm, q.2.symm⟩), if_neg (fun q => h2 ⟨q.1.symm, q.2.symm⟩)]
    exact a3
  · refine ⟨(a6 a ha).1, fun p q => ?_⟩
    rw [gL_pL, gL_pL, if_neg (fun e => (h3 a ha).1 e.1), if_neg (fun e => (h3 a ha).2 e.1)]
    exact (a6 a ha).2 p q
  · rw [gI_pL, gL_pL]
    split
    · rename_i q
      obtain ⟨rfl, rfl⟩ := q
      exact h5.1 rfl
    · exact a10.1 b
  · rw [gI_pL, gL_pL]
    split
    · rename_i q
      obtain ⟨rfl, rfl⟩ := q
      exact h5.2.1 rfl
    · exact a10.2.1 b
  · rw [gI_pL, gL_pL]
    split
    · rename_i q
      obtain ⟨rfl, rfl⟩ := q
      exact h5.2.2.1 rfl
    · exact a10.2.2.1 b
  · rw [gI_pL, gL_pL]
    split
    · rename_i q
      obtain ⟨rfl, rfl⟩ := q
      exact h5.2.2.2 ⟨rfl, rfl⟩
    · exact a10.2.2.2
  · obtain ⟨f1, f2, f3, f4, f5, f6⟩ := a11 hz
    refine ⟨f1, f2, ?_, ?_, f5, f6⟩
    · rw [gL_pL, if_neg (fun q => hz (h6 q.1.symm (Or.inl q.2.symm)))]
      exact f3
    · rw [gL_pL, if_neg (fun q => hz (h6 q.1.symm (Or.inr q.2.symm)))]
      exact f4
theorem inv_pL {o j : Nat} {v : Int64} (h : Inv g S D) (w : (Nat.blt o 66 && !(Nat.beq o 7) && !(Nat.beq o 19) && !(Nat.beq o 20) && !(Nat.beq o 24) && !(Nat.beq o 25)) = true) (w2 : ¬ (o = 28 ∧ j = 17)) (h5 : (o = 61 → gI D 60 j = 3 → RgL (-1048576) 1048576 v) ∧ (o = 50 → gI D 49 j = 3 → RgL (-1048576) 1048576 v) ∧ (o = 56 → gI D 55 j = 3 → RgL (-1048576) 1048576 v) ∧ (o = 28 ∧ j = 48 → gI D 28 47 = 3 → RgL (-1048576) 1048576 v)) (h6 : o = 14 → (j = 9 ∨ j = 11) → g.1 12 = 0) : Inv g S (pL D o j v) := by
  simp only [Bool.and_eq_true, Bool.not_eq_true'] at w
  obtain ⟨⟨⟨⟨⟨w1, w3⟩, w4⟩, w5⟩, w6⟩, w7⟩ := w
  have w1 : o < 66 := Nat.blt_eq.mp w1
  refine inv_pL_gen h ?_ w2 (fun a k => ?_) h5 h6
  · rintro ⟨rfl, -⟩
    exact absurd w3 (by decide)
  · refine ⟨fun e => ?_, fun e => ?_⟩
    · rcases sc_at h (by omega) k with rfl | rfl
      · obtain rfl : o = 19 := by omega
        exact absurd w4 (by decide)
      · obtain rfl : o = 24 := by omega
        exact absurd w6 (by decide)
    · rcases sc_at h (by omega) k with rfl | rfl
      · obtain rfl : o = 20 := by omega
        exact absurd w5 (by decide)
      · obtain rfl : o = 25 := by omega
        exact absurd w7 (by decide)
/-- a long array that is no scene's low or high -/
theorem no_k {o : Nat} (h : Inv g S D) (j : Nat) (v : Int64) (n1 : o ≠ 61) (n2 : o ≠ 50) (n3 : o ≠ 56) (n4 : o ≠ 28) : (o = 61 → gI D 60 j = 3 → RgL (-1048576) 1048576 v) ∧ (o = 50 → gI D 49 j = 3 → RgL (-1048576) 1048576 v) ∧ (o = 56 → gI D 55 j = 3 → RgL (-1048576) 1048576 v) ∧ (o = 28 ∧ j = 48 → gI D 28 47 = 3 → RgL (-1048576) 1048576 v) := ⟨fun e => absurd e n1, fun e => absurd e n2, fun e => absurd e n3, fun e => absurd e.1 n4⟩
theorem k_at {o κ : Nat} (h : Inv g S D) (k : sK S o = κ) (a : Nat) (ha : a < 66) (n : K0 a ≠ κ) : o ≠ a := by
  rintro rfl
  exact n ((h.shp.2.1 o ha).1.symm.trans k)
theorem inv_pL_k {o j : Nat} {v : Int64} (h : Inv g S D) (k : sK S o = 4 ∨ sK S o = 5) : Inv g S (pL D o j v) := by
  have nn : ∀ a, a < 66 → K0 a ≠ 4 → K0 a ≠ 5 → o ≠ a := fun a ha n1 n2 => by
    rcases k with k | k
    · exact k_at h k a ha n1
    · exact k_at h k a ha n2
  refine inv_pL_gen h ?_ ?_ (fun a ka => ⟨fun e => ?_, fun e => ?_⟩) (no_k h j v (nn 61 (by decide) (by decide) (by decide)) (nn 50 (by decide) (by decide) (by decide)) (nn 56 (by decide) (by decide) (by decide)) (nn 28 (by decide) (by decide) (by decide))) (fun q => absurd q (nn 14 (by decide) (by decide) (by decide)))
  · rintro ⟨rfl, -⟩
    rw [(h.shp.2.1 7 (by decide)).1] at k
    revert k
    decide
  · rintro ⟨rfl, -⟩
    rw [(h.shp.2.1 28 (by decide)).1] at k
    revert k
    decide
  · have := (h.shp.2.2.2.1 a ka).2.1
    rw [e] at this
    omega
  · have := (h.shp.2.2.2.1 a ka).2.2.1
    rw [e] at this
    omega
/-- a scene's known octets -/
theorem inv_pL_kn {o j : Nat} {v : Int64} (h : Inv g S D) (k : sK S o = 4) : Inv g S (pL D (o + 4) j v) := by
  have q := h.shp.2.2.2.1 o k
  have nn : ∀ a, a < 66 → a ≠ 21 → a ≠ 26 → o + 4 ≠ a := fun a ha n1 n2 e => by
    rcases sc_at h (by omega) k with rfl | rfl <;> omega
  refine inv_pL_gen h ?_ ?_ (fun a ka => ⟨fun e => ?_, fun e => ?_⟩) (no_k h j v (nn 61 (by decide) (by decide) (by decide)) (nn 50 (by decide) (by decide) (by decide)) (nn 56 (by decide) (by decide) (by decide)) (nn 28 (by decide) (by decide) (by decide))) (fun q => absurd q (nn 14 (by decide) (by decide) (by decide)))
  · rintro ⟨e, -⟩
    have := q.2.2.2.1
    rw [e, (h.shp.2.1 7 (by decide)).1] at this
    revert this
    decide
  · rintro ⟨e, -⟩
    have := q.2.2.2.1
    rw [e, (h.shp.2.1 28 (by decide)).1] at this
    revert this
    decide
  · obtain rfl : a = o + 2 := by omega
    omega
  · obtain rfl : a = o + 1 := by omega
    omega
/-- a table's keys -/
theorem inv_pL_tk {o j : Nat} {v : Int64} (h : Inv g S D) (k : sK S o = 6) : Inv g S (pL D (o + 1) j v) := by
  have q := h.shp.2.2.2.2 o k
  have nn : ∀ a, a < 66 → o + 1 ≠ a := fun a ha e => tb_ne h (by omega) k
  refine inv_pL_gen h ?_ ?_ (fun a ka => ⟨fun e => ?_, fun e => ?_⟩) (no_k h j v (nn 61 (by decide)) (nn 50 (by decide)) (nn 56 (by decide)) (nn 28 (by decide))) (fun q => absurd q (nn 14 (by decide)))
  · rintro ⟨e, -⟩
    have := q.1
    rw [e, (h.shp.2.1 7 (by decide)).1] at this
    revert this
    decide
  · rintro ⟨e, -⟩
    have := q.1
    rw [e, (h.shp.2.1 28 (by decide)).1] at this
    revert this
    decide
  · have w := h.shp.2.2.2.1 a ka
    obtain rfl : o = a + 1 := by omega
    omega
  · have w := h.shp.2.2.2.1 a ka
    obtain rfl : o = a + 2 := by omega
    omega
/-- what find() found -/
theorem inv_fnd {x : Nat} (h : Inv g S D) (k : sK S x = 102) : Inv g S (pR D 7 6 (some x)) := by
  obtain ⟨a1, a2, a3, a4, a5, a6, a7, a8, a9, a10, a11⟩ := h
  have ne : ∀ a b, a ≠ 7 → gR (pR D 7 6 (some x)) a b = gR D a b := fun a b n => by rw [gR_pR, if_neg (fun q => n q.1)]
  refine ⟨a1, a2, a3, fun a b ha => ?_, fun a ha => ?_, fun a ha => ?_, a7, a8, ?_, a10, a11⟩
  · rw [gR_pR]
    split
    · rename_i q
      obtain ⟨rfl, rfl⟩ := q
      exact ⟨x, rfl, k⟩
    · exact a4 a b ha
  · have n : a ≠ 7 := by
      rintro rfl
      rw [(a1.2.1 7 (by decide)).1] at ha
      revert ha
      decide
    simp only [ne a _ n]
    exact a5 a ha
  · have n : a ≠ 7 := by
      rintro rfl
      rw [(a1.2.1 7 (by decide)).1] at ha
      revert ha
      decide
    simp only [ne a _ n]
    exact a6 a ha
  · have : nul (pR D 7 6 (some x)) = nul D := nul_same (fun j => ne 15 j (by decide))
    unfold vM
    rw [this]
    exact a9
end INV

theorem wI_0 : (Nat.blt 0 66 && !(isP 0) && !(Nat.beq 0 18) && !(Nat.beq 0 23)) = true := rfl
theorem inv_i0 {g : gh} {S : sh} {D : dt} {j : Nat} {v : Int32} (h : Inv g S D) (hv : Rg (bI g 0 j).1 (bI g 0 j).2 v) : Inv g S (pI D 0 j v) := inv_pI h wI_0 (fun q => absurd q (by omega)) (fun q => absurd q (by decide)) hv
theorem wI_1 : (Nat.blt 1 66 && !(isP 1) && !(Nat.beq 1 18) && !(Nat.beq 1 23)) = true := rfl
theorem inv_i1 {g : gh} {S : sh} {D : dt} {j : Nat} {v : Int32} (h : Inv g S D) (hv : Rg (bI g 1 j).1 (bI g 1 j).2 v) : Inv g S (pI D 1 j v) := inv_pI h wI_1 (fun q => absurd q (by omega)) (fun q => absurd q (by decide)) hv
theorem wI_7 : (Nat.blt 7 66 && !(isP 7) && !(Nat.beq 7 18) && !(Nat.beq 7 23)) = true := rfl
theorem inv_i7 {g : gh} {S : sh} {D : dt} {j : Nat} {v : Int32} (h : Inv g S D) (hv : Rg (bI g 7 j).1 (bI g 7 j).2 v) : Inv g S (pI D 7 j v) := inv_pI h wI_7 (fun q => absurd q (by omega)) (fun q => absurd q (by decide)) hv
theorem wI_8 : (Nat.blt 8 66 && !(isP 8) && !(Nat.beq 8 18) && !(Nat.beq 8 23)) = true := rfl
theorem inv_i8 {g : gh} {S : sh} {D : dt} {j : Nat} {v : Int32} (h : Inv g S D) (hv : Rg (bI g 8 j).1 (bI g 8 j).2 v) : Inv g S (pI D 8 j v) := inv_pI h wI_8 (fun q => absurd q (by omega)) (fun q => absurd q (by decide)) hv
theorem wI_9 : (Nat.blt 9 66 && !(isP 9) && !(Nat.beq 9 18) && !(Nat.beq 9 23)) = true := rfl
theorem inv_i9 {g : gh} {S : sh} {D : dt} {j : Nat} {v : Int32} (h : Inv g S D) (hv : Rg (bI g 9 j).1 (bI g 9 j).2 v) : Inv g S (pI D 9 j v) := inv_pI h wI_9 (fun q => absurd q (by omega)) (fun q => absurd q (by decide)) hv
theorem wI_10 : (Nat.blt 10 66 && !(isP 10) && !(Nat.beq 10 18) && !(Nat.beq 10 23)) = true := rfl
theorem inv_i10 {g : gh} {S : sh} {D : dt} {j : Nat} {v : Int32} (h : Inv g S D) (hv : Rg (bI g 10 j).1 (bI g 10 j).2 v) : Inv g S (pI D 10 j v) := inv_pI h wI_10 (fun q => absurd q (by omega)) (fun q => absurd q (by decide)) hv
theorem wI_11 : (Nat.blt 11 66 && !(isP 11) && !(Nat.beq 11 18) && !(Nat.beq 11 23)) = true := rfl
theorem inv_i11 {g : gh} {S : sh} {D : dt} {j : Nat} {v : Int32} (h : Inv g S D) (hv : Rg (bI g 11 j).1 (bI g 11 j).2 v) : Inv g S (pI D 11 j v) := inv_pI h wI_11 (fun q => absurd q (by omega)) (fun q => absurd q (by decide)) hv
theorem wI_12 : (Nat.blt 12 66 && !(isP 12) && !(Nat.beq 12 18) && !(Nat.beq 12 23)) = true := rfl
theorem inv_i12 {g : gh} {S : sh} {D : dt} {j : Nat} {v : Int32} (h : Inv g S D) (hv : Rg (bI g 12 j).1 (bI g 12 j).2 v) : Inv g S (pI D 12 j v) := inv_pI h wI_12 (fun q => absurd q (by omega)) (fun q => absurd q (by decide)) hv
theorem wI_13 : (Nat.blt 13 66 && !(isP 13) && !(Nat.beq 13 18) && !(Nat.beq 13 23)) = true := rfl
theorem inv_i13 {g : gh} {S : sh} {D : dt} {j : Nat} {v : Int32} (h : Inv g S D) (hv : Rg (bI g 13 j).1 (bI g 13 j).2 v) : Inv g S (pI D 13 j v) := inv_pI h wI_13 (fun q => absurd q (by omega)) (fun q => absurd q (by decide)) hv
theorem wI_14 : (Nat.blt 14 66 && !(isP 14) && !(Nat.beq 14 18) && !(Nat.beq 14 23)) = true := rfl
theorem inv_i14 {g : gh} {S : sh} {D : dt} {j : Nat} {v : Int32} (h : Inv g S D) (hz : g.1 12 = 0 ∨ (j ≠ 8 ∧ j ≠ 10)) (hv : Rg (bI g 14 j).1 (bI g 14 j).2 v) : Inv g S (pI D 14 j v) := inv_pI h wI_14 (fun q => absurd q (by omega)) (fun _ q => hz.elim id (fun e => absurd q (by omega))) hv
theorem wI_15 : (Nat.blt 15 66 && !(isP 15) && !(Nat.beq 15 18) && !(Nat.beq 15 23)) = true := rfl
theorem inv_i15 {g : gh} {S : sh} {D : dt} {j : Nat} {v : Int32} (h : Inv g S D) (hv : Rg (bI g 15 j).1 (bI g 15 j).2 v) : Inv g S (pI D 15 j v) := inv_pI h wI_15 (fun q => absurd q (by omega)) (fun q => absurd q (by decide)) hv
theorem wI_16 : (Nat.blt 16 66 && !(isP 16) && !(Nat.beq 16 18) && !(Nat.beq 16 23)) = true := rfl
theorem inv_i16 {g : gh} {S : sh} {D : dt} {j : Nat} {v : Int32} (h : Inv g S D) (hv : Rg (bI g 16 j).1 (bI g 16 j).2 v) : Inv g S (pI D 16 j v) := inv_pI h wI_16 (fun q => absurd q (by omega)) (fun q => absurd q (by decide)) hv
theorem wI_17 : (Nat.blt 17 66 && !(isP 17) && !(Nat.beq 17 18) && !(Nat.beq 17 23)) = true := rfl
theorem inv_i17 {g : gh} {S : sh} {D : dt} {j : Nat} {v : Int32} (h : Inv g S D) (hv : Rg (bI g 17 j).1 (bI g 17 j).2 v) : Inv g S (pI D 17 j v) := inv_pI h wI_17 (fun q => absurd q (by omega)) (fun q => absurd q (by decide)) hv
theorem wI_19 : (Nat.blt 19 66 && !(isP 19) && !(Nat.beq 19 18) && !(Nat.beq 19 23)) = true := rfl
theorem inv_i19 {g : gh} {S : sh} {D : dt} {j : Nat} {v : Int32} (h : Inv g S D) (hv : Rg (bI g 19 j).1 (bI g 19 j).2 v) : Inv g S (pI D 19 j v) := inv_pI h wI_19 (fun q => absurd q (by omega)) (fun q => absurd q (by decide)) hv
theorem wI_20 : (Nat.blt 20 66 && !(isP 20) && !(Nat.beq 20 18) && !(Nat.beq 20 23)) = true := rfl
theorem inv_i20 {g : gh} {S : sh} {D : dt} {j : Nat} {v : Int32} (h : Inv g S D) (hv : Rg (bI g 20 j).1 (bI g 20 j).2 v) : Inv g S (pI D 20 j v) := inv_pI h wI_20 (fun q => absurd q (by omega)) (fun q => absurd q (by decide)) hv
theorem wI_21 : (Nat.blt 21 66 && !(isP 21) && !(Nat.beq 21 18) && !(Nat.beq 21 23)) = true := rfl
theorem inv_i21 {g : gh} {S : sh} {D : dt} {j : Nat} {v : Int32} (h : Inv g S D) (hv : Rg (bI g 21 j).1 (bI g 21 j).2 v) : Inv g S (pI D 21 j v) := inv_pI h wI_21 (fun q => absurd q (by omega)) (fun q => absurd q (by decide)) hv
theorem wI_22 : (Nat.blt 22 66 && !(isP 22) && !(Nat.beq 22 18) && !(Nat.beq 22 23)) = true := rfl
theorem inv_i22 {g : gh} {S : sh} {D : dt} {j : Nat} {v : Int32} (h : Inv g S D) (hv : Rg (bI g 22 j).1 (bI g 22 j).2 v) : Inv g S (pI D 22 j v) := inv_pI h wI_22 (fun q => absurd q (by omega)) (fun q => absurd q (by decide)) hv
theorem wI_24 : (Nat.blt 24 66 && !(isP 24) && !(Nat.beq 24 18) && !(Nat.beq 24 23)) = true := rfl
theorem inv_i24 {g : gh} {S : sh} {D : dt} {j : Nat} {v : Int32} (h : Inv g S D) (hv : Rg (bI g 24 j).1 (bI g 24 j).2 v) : Inv g S (pI D 24 j v) := inv_pI h wI_24 (fun q => absurd q (by omega)) (fun q => absurd q (by decide)) hv
theorem wI_25 : (Nat.blt 25 66 && !(isP 25) && !(Nat.beq 25 18) && !(Nat.beq 25 23)) = true := rfl
theorem inv_i25 {g : gh} {S : sh} {D : dt} {j : Nat} {v : Int32} (h : Inv g S D) (hv : Rg (bI g 25 j).1 (bI g 25 j).2 v) : Inv g S (pI D 25 j v) := inv_pI h wI_25 (fun q => absurd q (by omega)) (fun q => absurd q (by decide)) hv
theorem wI_26 : (Nat.blt 26 66 && !(isP 26) && !(Nat.beq 26 18) && !(Nat.beq 26 23)) = true := rfl
theorem inv_i26 {g : gh} {S : sh} {D : dt} {j : Nat} {v : Int32} (h : Inv g S D) (hv : Rg (bI g 26 j).1 (bI g 26 j).2 v) : Inv g S (pI D 26 j v) := inv_pI h wI_26 (fun q => absurd q (by omega)) (fun q => absurd q (by decide)) hv
theorem wI_27 : (Nat.blt 27 66 && !(isP 27) && !(Nat.beq 27 18) && !(Nat.beq 27 23)) = true := rfl
theorem inv_i27 {g : gh} {S : sh} {D : dt} {j : Nat} {v : Int32} (h : Inv g S D) (hv : Rg (bI g 27 j).1 (bI g 27 j).2 v) : Inv g S (pI D 27 j v) := inv_pI h wI_27 (fun q => absurd q (by omega)) (fun q => absurd q (by decide)) hv
theorem wI_28 : (Nat.blt 28 66 && !(isP 28) && !(Nat.beq 28 18) && !(Nat.beq 28 23)) = true := rfl
theorem inv_i28 {g : gh} {S : sh} {D : dt} {j : Nat} {v : Int32} (h : Inv g S D) (hj : (j ≠ 47 ∧ j ≠ 53) ∨ (j = 47 ∧ v ≠ 3) ∨ (j = 53 ∧ g.1 12 = 0)) (hv : Rg (bI g 28 j).1 (bI g 28 j).2 v) : Inv g S (pI D 28 j v) := inv_pI h wI_28 (fun q => hj.elim (fun e => absurd q (by omega)) (fun e => e.elim (fun e => e.2) (fun e => absurd q (by omega)))) (fun _ q => hj.elim (fun e => absurd q (by omega)) (fun e => e.elim (fun e => absurd q (by omega)) (fun e => e.2))) hv
theorem wI_34 : (Nat.blt 34 66 && !(isP 34) && !(Nat.beq 34 18) && !(Nat.beq 34 23)) = true := rfl
theorem inv_i34 {g : gh} {S : sh} {D : dt} {j : Nat} {v : Int32} (h : Inv g S D) (hv : Rg (bI g 34 j).1 (bI g 34 j).2 v) : Inv g S (pI D 34 j v) := inv_pI h wI_34 (fun q => absurd q (by omega)) (fun q => absurd q (by decide)) hv
theorem wI_35 : (Nat.blt 35 66 && !(isP 35) && !(Nat.beq 35 18) && !(Nat.beq 35 23)) = true := rfl
theorem inv_i35 {g : gh} {S : sh} {D : dt} {j : Nat} {v : Int32} (h : Inv g S D) (hv : Rg (bI g 35 j).1 (bI g 35 j).2 v) : Inv g S (pI D 35 j v) := inv_pI h wI_35 (fun q => absurd q (by omega)) (fun q => absurd q (by decide)) hv
theorem wI_36 : (Nat.blt 36 66 && !(isP 36) && !(Nat.beq 36 18) && !(Nat.beq 36 23)) = true := rfl
theorem inv_i36 {g : gh} {S : sh} {D : dt} {j : Nat} {v : Int32} (h : Inv g S D) (hv : Rg (bI g 36 j).1 (bI g 36 j).2 v) : Inv g S (pI D 36 j v) := inv_pI h wI_36 (fun q => absurd q (by omega)) (fun q => absurd q (by decide)) hv
theorem wI_37 : (Nat.blt 37 66 && !(isP 37) && !(Nat.beq 37 18) && !(Nat.beq 37 23)) = true := rfl
theorem inv_i37 {g : gh} {S : sh} {D : dt} {j : Nat} {v : Int32} (h : Inv g S D) (hv : Rg (bI g 37 j).1 (bI g 37 j).2 v) : Inv g S (pI D 37 j v) := inv_pI h wI_37 (fun q => absurd q (by omega)) (fun q => absurd q (by decide)) hv
theorem wI_38 : (Nat.blt 38 66 && !(isP 38) && !(Nat.beq 38 18) && !(Nat.beq 38 23)) = true := rfl
theorem inv_i38 {g : gh} {S : sh} {D : dt} {j : Nat} {v : Int32} (h : Inv g S D) (hv : Rg (bI g 38 j).1 (bI g 38 j).2 v) : Inv g S (pI D 38 j v) := inv_pI h wI_38 (fun q => absurd q (by omega)) (fun q => absurd q (by decide)) hv
theorem wI_39 : (Nat.blt 39 66 && !(isP 39) && !(Nat.beq 39 18) && !(Nat.beq 39 23)) = true := rfl
theorem inv_i39 {g : gh} {S : sh} {D : dt} {j : Nat} {v : Int32} (h : Inv g S D) (hv : Rg (bI g 39 j).1 (bI g 39 j).2 v) : Inv g S (pI D 39 j v) := inv_pI h wI_39 (fun q => absurd q (by omega)) (fun q => absurd q (by decide)) hv
theorem wI_40 : (Nat.blt 40 66 && !(isP 40) && !(Nat.beq 40 18) && !(Nat.beq 40 23)) = true := rfl
theorem inv_i40 {g : gh} {S : sh} {D : dt} {j : Nat} {v : Int32} (h : Inv g S D) (hv : Rg (bI g 40 j).1 (bI g 40 j).2 v) : Inv g S (pI D 40 j v) := inv_pI h wI_40 (fun q => absurd q (by omega)) (fun q => absurd q (by decide)) hv
theorem wI_41 : (Nat.blt 41 66 && !(isP 41) && !(Nat.beq 41 18) && !(Nat.beq 41 23)) = true := rfl
theorem inv_i41 {g : gh} {S : sh} {D : dt} {j : Nat} {v : Int32} (h : Inv g S D) (hv : Rg (bI g 41 j).1 (bI g 41 j).2 v) : Inv g S (pI D 41 j v) := inv_pI h wI_41 (fun q => absurd q (by omega)) (fun q => absurd q (by decide)) hv
theorem wI_42 : (Nat.blt 42 66 && !(isP 42) && !(Nat.beq 42 18) && !(Nat.beq 42 23)) = true := rfl
theorem inv_i42 {g : gh} {S : sh} {D : dt} {j : Nat} {v : Int32} (h : Inv g S D) (hv : Rg (bI g 42 j).1 (bI g 42 j).2 v) : Inv g S (pI D 42 j v) := inv_pI h wI_42 (fun q => absurd q (by omega)) (fun q => absurd q (by decide)) hv
theorem wI_43 : (Nat.blt 43 66 && !(isP 43) && !(Nat.beq 43 18) && !(Nat.beq 43 23)) = true := rfl
theorem inv_i43 {g : gh} {S : sh} {D : dt} {j : Nat} {v : Int32} (h : Inv g S D) (hv : Rg (bI g 43 j).1 (bI g 43 j).2 v) : Inv g S (pI D 43 j v) := inv_pI h wI_43 (fun q => absurd q (by omega)) (fun q => absurd q (by decide)) hv
theorem wI_44 : (Nat.blt 44 66 && !(isP 44) && !(Nat.beq 44 18) && !(Nat.beq 44 23)) = true := rfl
theorem inv_i44 {g : gh} {S : sh} {D : dt} {j : Nat} {v : Int32} (h : Inv g S D) (hv : Rg (bI g 44 j).1 (bI g 44 j).2 v) : Inv g S (pI D 44 j v) := inv_pI h wI_44 (fun q => absurd q (by omega)) (fun q => absurd q (by decide)) hv
theorem wI_45 : (Nat.blt 45 66 && !(isP 45) && !(Nat.beq 45 18) && !(Nat.beq 45 23)) = true := rfl
theorem inv_i45 {g : gh} {S : sh} {D : dt} {j : Nat} {v : Int32} (h : Inv g S D) (hv : Rg (bI g 45 j).1 (bI g 45 j).2 v) : Inv g S (pI D 45 j v) := inv_pI h wI_45 (fun q => absurd q (by omega)) (fun q => absurd q (by decide)) hv
theorem wI_46 : (Nat.blt 46 66 && !(isP 46) && !(Nat.beq 46 18) && !(Nat.beq 46 23)) = true := rfl
theorem inv_i46 {g : gh} {S : sh} {D : dt} {j : Nat} {v : Int32} (h : Inv g S D) (hv : Rg (bI g 46 j).1 (bI g 46 j).2 v) : Inv g S (pI D 46 j v) := inv_pI h wI_46 (fun q => absurd q (by omega)) (fun q => absurd q (by decide)) hv
theorem wI_47 : (Nat.blt 47 66 && !(isP 47) && !(Nat.beq 47 18) && !(Nat.beq 47 23)) = true := rfl
theorem inv_i47 {g : gh} {S : sh} {D : dt} {j : Nat} {v : Int32} (h : Inv g S D) (hv : Rg (bI g 47 j).1 (bI g 47 j).2 v) : Inv g S (pI D 47 j v) := inv_pI h wI_47 (fun q => absurd q (by omega)) (fun q => absurd q (by decide)) hv
theorem wI_48 : (Nat.blt 48 66 && !(isP 48) && !(Nat.beq 48 18) && !(Nat.beq 48 23)) = true := rfl
theorem inv_i48 {g : gh} {S : sh} {D : dt} {j : Nat} {v : Int32} (h : Inv g S D) (hv : Rg (bI g 48 j).1 (bI g 48 j).2 v) : Inv g S (pI D 48 j v) := inv_pI h wI_48 (fun q => absurd q (by omega)) (fun q => absurd q (by decide)) hv
theorem wI_49 : (Nat.blt 49 66 && !(isP 49) && !(Nat.beq 49 18) && !(Nat.beq 49 23)) = true := rfl
theorem inv_i49 {g : gh} {S : sh} {D : dt} {j : Nat} {v : Int32} (h : Inv g S D) (h3 : v ≠ 3) (hv : Rg (bI g 49 j).1 (bI g 49 j).2 v) : Inv g S (pI D 49 j v) := inv_pI h wI_49 (fun _ => h3) (fun q => absurd q (by decide)) hv
theorem wI_50 : (Nat.blt 50 66 && !(isP 50) && !(Nat.beq 50 18) && !(Nat.beq 50 23)) = true := rfl
theorem inv_i50 {g : gh} {S : sh} {D : dt} {j : Nat} {v : Int32} (h : Inv g S D) (hv : Rg (bI g 50 j).1 (bI g 50 j).2 v) : Inv g S (pI D 50 j v) := inv_pI h wI_50 (fun q => absurd q (by omega)) (fun q => absurd q (by decide)) hv
theorem wI_51 : (Nat.blt 51 66 && !(isP 51) && !(Nat.beq 51 18) && !(Nat.beq 51 23)) = true := rfl
theorem inv_i51 {g : gh} {S : sh} {D : dt} {j : Nat} {v : Int32} (h : Inv g S D) (hv : Rg (bI g 51 j).1 (bI g 51 j).2 v) : Inv g S (pI D 51 j v) := inv_pI h wI_51 (fun q => absurd q (by omega)) (fun q => absurd q (by decide)) hv
theorem wI_52 : (Nat.blt 52 66 && !(isP 52) && !(Nat.beq 52 18) && !(Nat.beq 52 23)) = true := rfl
theorem inv_i52 {g : gh} {S : sh} {D : dt} {j : Nat} {v : Int32} (h : Inv g S D) (hv : Rg (bI g 52 j).1 (bI g 52 j).2 v) : Inv g S (pI D 52 j v) := inv_pI h wI_52 (fun q => absurd q (by omega)) (fun q => absurd q (by decide)) hv
theorem wI_53 : (Nat.blt 53 66 && !(isP 53) && !(Nat.beq 53 18) && !(Nat.beq 53 23)) = true := rfl
theorem inv_i53 {g : gh} {S : sh} {D : dt} {j : Nat} {v : Int32} (h : Inv g S D) (hv : Rg (bI g 53 j).1 (bI g 53 j).2 v) : Inv g S (pI D 53 j v) := inv_pI h wI_53 (fun q => absurd q (by omega)) (fun q => absurd q (by decide)) hv
theorem wI_54 : (Nat.blt 54 66 && !(isP 54) && !(Nat.beq 54 18) && !(Nat.beq 54 23)) = true := rfl
theorem inv_i54 {g : gh} {S : sh} {D : dt} {j : Nat} {v : Int32} (h : Inv g S D) (hv : Rg (bI g 54 j).1 (bI g 54 j).2 v) : Inv g S (pI D 54 j v) := inv_pI h wI_54 (fun q => absurd q (by omega)) (fun q => absurd q (by decide)) hv
theorem wI_55 : (Nat.blt 55 66 && !(isP 55) && !(Nat.beq 55 18) && !(Nat.beq 55 23)) = true := rfl
theorem inv_i55 {g : gh} {S : sh} {D : dt} {j : Nat} {v : Int32} (h : Inv g S D) (h3 : v ≠ 3) (hv : Rg (bI g 55 j).1 (bI g 55 j).2 v) : Inv g S (pI D 55 j v) := inv_pI h wI_55 (fun _ => h3) (fun q => absurd q (by decide)) hv
theorem wI_56 : (Nat.blt 56 66 && !(isP 56) && !(Nat.beq 56 18) && !(Nat.beq 56 23)) = true := rfl
theorem inv_i56 {g : gh} {S : sh} {D : dt} {j : Nat} {v : Int32} (h : Inv g S D) (hv : Rg (bI g 56 j).1 (bI g 56 j).2 v) : Inv g S (pI D 56 j v) := inv_pI h wI_56 (fun q => absurd q (by omega)) (fun q => absurd q (by decide)) hv
theorem wI_57 : (Nat.blt 57 66 && !(isP 57) && !(Nat.beq 57 18) && !(Nat.beq 57 23)) = true := rfl
theorem inv_i57 {g : gh} {S : sh} {D : dt} {j : Nat} {v : Int32} (h : Inv g S D) (hv : Rg (bI g 57 j).1 (bI g 57 j).2 v) : Inv g S (pI D 57 j v) := inv_pI h wI_57 (fun q => absurd q (by omega)) (fun q => absurd q (by decide)) hv
theorem wI_58 : (Nat.blt 58 66 && !(isP 58) && !(Nat.beq 58 18) && !(Nat.beq 58 23)) = true := rfl
theorem inv_i58 {g : gh} {S : sh} {D : dt} {j : Nat} {v : Int32} (h : Inv g S D) (hv : Rg (bI g 58 j).1 (bI g 58 j).2 v) : Inv g S (pI D 58 j v) := inv_pI h wI_58 (fun q => absurd q (by omega)) (fun q => absurd q (by decide)) hv
theorem wI_59 : (Nat.blt 59 66 && !(isP 59) && !(Nat.beq 59 18) && !(Nat.beq 59 23)) = true := rfl
theorem inv_i59 {g : gh} {S : sh} {D : dt} {j : Nat} {v : Int32} (h : Inv g S D) (hv : Rg (bI g 59 j).1 (bI g 59 j).2 v) : Inv g S (pI D 59 j v) := inv_pI h wI_59 (fun q => absurd q (by omega)) (fun q => absurd q (by decide)) hv
theorem wI_60 : (Nat.blt 60 66 && !(isP 60) && !(Nat.beq 60 18) && !(Nat.beq 60 23)) = true := rfl
theorem inv_i60 {g : gh} {S : sh} {D : dt} {j : Nat} {v : Int32} (h : Inv g S D) (h3 : v ≠ 3) (hv : Rg (bI g 60 j).1 (bI g 60 j).2 v) : Inv g S (pI D 60 j v) := inv_pI h wI_60 (fun _ => h3) (fun q => absurd q (by decide)) hv
theorem wI_61 : (Nat.blt 61 66 && !(isP 61) && !(Nat.beq 61 18) && !(Nat.beq 61 23)) = true := rfl
theorem inv_i61 {g : gh} {S : sh} {D : dt} {j : Nat} {v : Int32} (h : Inv g S D) (hv : Rg (bI g 61 j).1 (bI g 61 j).2 v) : Inv g S (pI D 61 j v) := inv_pI h wI_61 (fun q => absurd q (by omega)) (fun q => absurd q (by decide)) hv
theorem wI_62 : (Nat.blt 62 66 && !(isP 62) && !(Nat.beq 62 18) && !(Nat.beq 62 23)) = true := rfl
theorem inv_i62 {g : gh} {S : sh} {D : dt} {j : Nat} {v : Int32} (h : Inv g S D) (hv : Rg (bI g 62 j).1 (bI g 62 j).2 v) : Inv g S (pI D 62 j v) := inv_pI h wI_62 (fun q => absurd q (by omega)) (fun q => absurd q (by decide)) hv
theorem wI_63 : (Nat.blt 63 66 && !(isP 63) && !(Nat.beq 63 18) && !(Nat.beq 63 23)) = true := rfl
theorem inv_i63 {g : gh} {S : sh} {D : dt} {j : Nat} {v : Int32} (h : Inv g S D) (hv : Rg (bI g 63 j).1 (bI g 63 j).2 v) : Inv g S (pI D 63 j v) := inv_pI h wI_63 (fun q => absurd q (by omega)) (fun q => absurd q (by decide)) hv
theorem wI_64 : (Nat.blt 64 66 && !(isP 64) && !(Nat.beq 64 18) && !(Nat.beq 64 23)) = true := rfl
theorem inv_i64 {g : gh} {S : sh} {D : dt} {j : Nat} {v : Int32} (h : Inv g S D) (hv : Rg (bI g 64 j).1 (bI g 64 j).2 v) : Inv g S (pI D 64 j v) := inv_pI h wI_64 (fun q => absurd q (by omega)) (fun q => absurd q (by decide)) hv
theorem wI_65 : (Nat.blt 65 66 && !(isP 65) && !(Nat.beq 65 18) && !(Nat.beq 65 23)) = true := rfl
theorem inv_i65 {g : gh} {S : sh} {D : dt} {j : Nat} {v : Int32} (h : Inv g S D) (hv : Rg (bI g 65 j).1 (bI g 65 j).2 v) : Inv g S (pI D 65 j v) := inv_pI h wI_65 (fun q => absurd q (by omega)) (fun q => absurd q (by decide)) hv
theorem wL_0 : (Nat.blt 0 66 && !(Nat.beq 0 7) && !(Nat.beq 0 19) && !(Nat.beq 0 20) && !(Nat.beq 0 24) && !(Nat.beq 0 25)) = true := rfl
theorem inv_l0 {g : gh} {S : sh} {D : dt} {j : Nat} {v : Int64} (h : Inv g S D) : Inv g S (pL D 0 j v) := inv_pL h wL_0 (fun q => by omega) (no_k h j v (by decide) (by decide) (by decide) (by decide)) (fun q => absurd q (by decide))
theorem wL_1 : (Nat.blt 1 66 && !(Nat.beq 1 7) && !(Nat.beq 1 19) && !(Nat.beq 1 20) && !(Nat.beq 1 24) && !(Nat.beq 1 25)) = true := rfl
theorem inv_l1 {g : gh} {S : sh} {D : dt} {j : Nat} {v : Int64} (h : Inv g S D) : Inv g S (pL D 1 j v) := inv_pL h wL_1 (fun q => by omega) (no_k h j v (by decide) (by decide) (by decide) (by decide)) (fun q => absurd q (by decide))
theorem wL_2 : (Nat.blt 2 66 && !(Nat.beq 2 7) && !(Nat.beq 2 19) && !(Nat.beq 2 20) && !(Nat.beq 2 24) && !(Nat.beq 2 25)) = true := rfl
theorem inv_l2 {g : gh} {S : sh} {D : dt} {j : Nat} {v : Int64} (h : Inv g S D) : Inv g S (pL D 2 j v) := inv_pL h wL_2 (fun q => by omega) (no_k h j v (by decide) (by decide) (by decide) (by decide)) (fun q => absurd q (by decide))
theorem wL_3 : (Nat.blt 3 66 && !(Nat.beq 3 7) && !(Nat.beq 3 19) && !(Nat.beq 3 20) && !(Nat.beq 3 24) && !(Nat.beq 3 25)) = true := rfl
theorem inv_l3 {g : gh} {S : sh} {D : dt} {j : Nat} {v : Int64} (h : Inv g S D) : Inv g S (pL D 3 j v) := inv_pL h wL_3 (fun q => by omega) (no_k h j v (by decide) (by decide) (by decide) (by decide)) (fun q => absurd q (by decide))
theorem wL_4 : (Nat.blt 4 66 && !(Nat.beq 4 7) && !(Nat.beq 4 19) && !(Nat.beq 4 20) && !(Nat.beq 4 24) && !(Nat.beq 4 25)) = true := rfl
theorem inv_l4 {g : gh} {S : sh} {D : dt} {j : Nat} {v : Int64} (h : Inv g S D) : Inv g S (pL D 4 j v) := inv_pL h wL_4 (fun q => by omega) (no_k h j v (by decide) (by decide) (by decide) (by decide)) (fun q => absurd q (by decide))
theorem wL_5 : (Nat.blt 5 66 && !(Nat.beq 5 7) && !(Nat.beq 5 19) && !(Nat.beq 5 20) && !(Nat.beq 5 24) && !(Nat.beq 5 25)) = true := rfl
theorem inv_l5 {g : gh} {S : sh} {D : dt} {j : Nat} {v : Int64} (h : Inv g S D) : Inv g S (pL D 5 j v) := inv_pL h wL_5 (fun q => by omega) (no_k h j v (by decide) (by decide) (by decide) (by decide)) (fun q => absurd q (by decide))
theorem wL_6 : (Nat.blt 6 66 && !(Nat.beq 6 7) && !(Nat.beq 6 19) && !(Nat.beq 6 20) && !(Nat.beq 6 24) && !(Nat.beq 6 25)) = true := rfl
theorem inv_l6 {g : gh} {S : sh} {D : dt} {j : Nat} {v : Int64} (h : Inv g S D) : Inv g S (pL D 6 j v) := inv_pL h wL_6 (fun q => by omega) (no_k h j v (by decide) (by decide) (by decide) (by decide)) (fun q => absurd q (by decide))
theorem wL_8 : (Nat.blt 8 66 && !(Nat.beq 8 7) && !(Nat.beq 8 19) && !(Nat.beq 8 20) && !(Nat.beq 8 24) && !(Nat.beq 8 25)) = true := rfl
theorem inv_l8 {g : gh} {S : sh} {D : dt} {j : Nat} {v : Int64} (h : Inv g S D) : Inv g S (pL D 8 j v) := inv_pL h wL_8 (fun q => by omega) (no_k h j v (by decide) (by decide) (by decide) (by decide)) (fun q => absurd q (by decide))
theorem wL_9 : (Nat.blt 9 66 && !(Nat.beq 9 7) && !(Nat.beq 9 19) && !(Nat.beq 9 20) && !(Nat.beq 9 24) && !(Nat.beq 9 25)) = true := rfl
theorem inv_l9 {g : gh} {S : sh} {D : dt} {j : Nat} {v : Int64} (h : Inv g S D) : Inv g S (pL D 9 j v) := inv_pL h wL_9 (fun q => by omega) (no_k h j v (by decide) (by decide) (by decide) (by decide)) (fun q => absurd q (by decide))
theorem wL_10 : (Nat.blt 10 66 && !(Nat.beq 10 7) && !(Nat.beq 10 19) && !(Nat.beq 10 20) && !(Nat.beq 10 24) && !(Nat.beq 10 25)) = true := rfl
theorem inv_l10 {g : gh} {S : sh} {D : dt} {j : Nat} {v : Int64} (h : Inv g S D) : Inv g S (pL D 10 j v) := inv_pL h wL_10 (fun q => by omega) (no_k h j v (by decide) (by decide) (by decide) (by decide)) (fun q => absurd q (by decide))
theorem wL_11 : (Nat.blt 11 66 && !(Nat.beq 11 7) && !(Nat.beq 11 19) && !(Nat.beq 11 20) && !(Nat.beq 11 24) && !(Nat.beq 11 25)) = true := rfl
theorem inv_l11 {g : gh} {S : sh} {D : dt} {j : Nat} {v : Int64} (h : Inv g S D) : Inv g S (pL D 11 j v) := inv_pL h wL_11 (fun q => by omega) (no_k h j v (by decide) (by decide) (by decide) (by decide)) (fun q => absurd q (by decide))
theorem wL_12 : (Nat.blt 12 66 && !(Nat.beq 12 7) && !(Nat.beq 12 19) && !(Nat.beq 12 20) && !(Nat.beq 12 24) && !(Nat.beq 12 25)) = true := rfl
theorem inv_l12 {g : gh} {S : sh} {D : dt} {j : Nat} {v : Int64} (h : Inv g S D) : Inv g S (pL D 12 j v) := inv_pL h wL_12 (fun q => by omega) (no_k h j v (by decide) (by decide) (by decide) (by decide)) (fun q => absurd q (by decide))
theorem wL_13 : (Nat.blt 13 66 && !(Nat.beq 13 7) && !(Nat.beq 13 19) && !(Nat.beq 13 20) && !(Nat.beq 13 24) && !(Nat.beq 13 25)) = true := rfl
theorem inv_l13 {g : gh} {S : sh} {D : dt} {j : Nat} {v : Int64} (h : Inv g S D) : Inv g S (pL D 13 j v) := inv_pL h wL_13 (fun q => by omega) (no_k h j v (by decide) (by decide) (by decide) (by decide)) (fun q => absurd q (by decide))
theorem wL_14 : (Nat.blt 14 66 && !(Nat.beq 14 7) && !(Nat.beq 14 19) && !(Nat.beq 14 20) && !(Nat.beq 14 24) && !(Nat.beq 14 25)) = true := rfl
theorem inv_l14 {g : gh} {S : sh} {D : dt} {j : Nat} {v : Int64} (h : Inv g S D) (hz : g.1 12 = 0 ∨ (j ≠ 9 ∧ j ≠ 11)) : Inv g S (pL D 14 j v) := inv_pL h wL_14 (fun q => by omega) (no_k h j v (by decide) (by decide) (by decide) (by decide)) (fun _ q => hz.elim id (fun e => absurd q (by omega)))
theorem wL_15 : (Nat.blt 15 66 && !(Nat.beq 15 7) && !(Nat.beq 15 19) && !(Nat.beq 15 20) && !(Nat.beq 15 24) && !(Nat.beq 15 25)) = true := rfl
theorem inv_l15 {g : gh} {S : sh} {D : dt} {j : Nat} {v : Int64} (h : Inv g S D) : Inv g S (pL D 15 j v) := inv_pL h wL_15 (fun q => by omega) (no_k h j v (by decide) (by decide) (by decide) (by decide)) (fun q => absurd q (by decide))
theorem wL_16 : (Nat.blt 16 66 && !(Nat.beq 16 7) && !(Nat.beq 16 19) && !(Nat.beq 16 20) && !(Nat.beq 16 24) && !(Nat.beq 16 25)) = true := rfl
theorem inv_l16 {g : gh} {S : sh} {D : dt} {j : Nat} {v : Int64} (h : Inv g S D) : Inv g S (pL D 16 j v) := inv_pL h wL_16 (fun q => by omega) (no_k h j v (by decide) (by decide) (by decide) (by decide)) (fun q => absurd q (by decide))
theorem wL_17 : (Nat.blt 17 66 && !(Nat.beq 17 7) && !(Nat.beq 17 19) && !(Nat.beq 17 20) && !(Nat.beq 17 24) && !(Nat.beq 17 25)) = true := rfl
theorem inv_l17 {g : gh} {S : sh} {D : dt} {j : Nat} {v : Int64} (h : Inv g S D) : Inv g S (pL D 17 j v) := inv_pL h wL_17 (fun q => by omega) (no_k h j v (by decide) (by decide) (by decide) (by decide)) (fun q => absurd q (by decide))
theorem wL_18 : (Nat.blt 18 66 && !(Nat.beq 18 7) && !(Nat.beq 18 19) && !(Nat.beq 18 20) && !(Nat.beq 18 24) && !(Nat.beq 18 25)) = true := rfl
theorem inv_l18 {g : gh} {S : sh} {D : dt} {j : Nat} {v : Int64} (h : Inv g S D) : Inv g S (pL D 18 j v) := inv_pL h wL_18 (fun q => by omega) (no_k h j v (by decide) (by decide) (by decide) (by decide)) (fun q => absurd q (by decide))
theorem wL_21 : (Nat.blt 21 66 && !(Nat.beq 21 7) && !(Nat.beq 21 19) && !(Nat.beq 21 20) && !(Nat.beq 21 24) && !(Nat.beq 21 25)) = true := rfl
theorem inv_l21 {g : gh} {S : sh} {D : dt} {j : Nat} {v : Int64} (h : Inv g S D) : Inv g S (pL D 21 j v) := inv_pL h wL_21 (fun q => by omega) (no_k h j v (by decide) (by decide) (by decide) (by decide)) (fun q => absurd q (by decide))
theorem wL_22 : (Nat.blt 22 66 && !(Nat.beq 22 7) && !(Nat.beq 22 19) && !(Nat.beq 22 20) && !(Nat.beq 22 24) && !(Nat.beq 22 25)) = true := rfl
theorem inv_l22 {g : gh} {S : sh} {D : dt} {j : Nat} {v : Int64} (h : Inv g S D) : Inv g S (pL D 22 j v) := inv_pL h wL_22 (fun q => by omega) (no_k h j v (by decide) (by decide) (by decide) (by decide)) (fun q => absurd q (by decide))
theorem wL_23 : (Nat.blt 23 66 && !(Nat.beq 23 7) && !(Nat.beq 23 19) && !(Nat.beq 23 20) && !(Nat.beq 23 24) && !(Nat.beq 23 25)) = true := rfl
theorem inv_l23 {g : gh} {S : sh} {D : dt} {j : Nat} {v : Int64} (h : Inv g S D) : Inv g S (pL D 23 j v) := inv_pL h wL_23 (fun q => by omega) (no_k h j v (by decide) (by decide) (by decide) (by decide)) (fun q => absurd q (by decide))
theorem wL_26 : (Nat.blt 26 66 && !(Nat.beq 26 7) && !(Nat.beq 26 19) && !(Nat.beq 26 20) && !(Nat.beq 26 24) && !(Nat.beq 26 25)) = true := rfl
theorem inv_l26 {g : gh} {S : sh} {D : dt} {j : Nat} {v : Int64} (h : Inv g S D) : Inv g S (pL D 26 j v) := inv_pL h wL_26 (fun q => by omega) (no_k h j v (by decide) (by decide) (by decide) (by decide)) (fun q => absurd q (by decide))
theorem wL_27 : (Nat.blt 27 66 && !(Nat.beq 27 7) && !(Nat.beq 27 19) && !(Nat.beq 27 20) && !(Nat.beq 27 24) && !(Nat.beq 27 25)) = true := rfl
theorem inv_l27 {g : gh} {S : sh} {D : dt} {j : Nat} {v : Int64} (h : Inv g S D) : Inv g S (pL D 27 j v) := inv_pL h wL_27 (fun q => by omega) (no_k h j v (by decide) (by decide) (by decide) (by decide)) (fun q => absurd q (by decide))
theorem wL_28 : (Nat.blt 28 66 && !(Nat.beq 28 7) && !(Nat.beq 28 19) && !(Nat.beq 28 20) && !(Nat.beq 28 24) && !(Nat.beq 28 25)) = true := rfl
theorem inv_l28 {g : gh} {S : sh} {D : dt} {j : Nat} {v : Int64} (h : Inv g S D) (h1 : j ≠ 17) (h2 : j ≠ 48 ∨ gI D 28 47 ≠ 3 ∨ RgL (-1048576) 1048576 v) : Inv g S (pL D 28 j v) := inv_pL h wL_28 (fun q => h1 q.2) ⟨fun e => by omega, fun e => by omega, fun e => by omega, fun e e3 => h2.elim (fun q => absurd e.2 q) (fun q => q.elim (fun q => absurd e3 q) id)⟩ (fun q => absurd q (by decide))
theorem wL_29 : (Nat.blt 29 66 && !(Nat.beq 29 7) && !(Nat.beq 29 19) && !(Nat.beq 29 20) && !(Nat.beq 29 24) && !(Nat.beq 29 25)) = true := rfl
theorem inv_l29 {g : gh} {S : sh} {D : dt} {j : Nat} {v : Int64} (h : Inv g S D) : Inv g S (pL D 29 j v) := inv_pL h wL_29 (fun q => by omega) (no_k h j v (by decide) (by decide) (by decide) (by decide)) (fun q => absurd q (by decide))
theorem wL_30 : (Nat.blt 30 66 && !(Nat.beq 30 7) && !(Nat.beq 30 19) && !(Nat.beq 30 20) && !(Nat.beq 30 24) && !(Nat.beq 30 25)) = true := rfl
theorem inv_l30 {g : gh} {S : sh} {D : dt} {j : Nat} {v : Int64} (h : Inv g S D) : Inv g S (pL D 30 j v) := inv_pL h wL_30 (fun q => by omega) (no_k h j v (by decide) (by decide) (by decide) (by decide)) (fun q => absurd q (by decide))
theorem wL_31 : (Nat.blt 31 66 && !(Nat.beq 31 7) && !(Nat.beq 31 19) && !(Nat.beq 31 20) && !(Nat.beq 31 24) && !(Nat.beq 31 25)) = true := rfl
theorem inv_l31 {g : gh} {S : sh} {D : dt} {j : Nat} {v : Int64} (h : Inv g S D) : Inv g S (pL D 31 j v) := inv_pL h wL_31 (fun q => by omega) (no_k h j v (by decide) (by decide) (by decide) (by decide)) (fun q => absurd q (by decide))
theorem wL_32 : (Nat.blt 32 66 && !(Nat.beq 32 7) && !(Nat.beq 32 19) && !(Nat.beq 32 20) && !(Nat.beq 32 24) && !(Nat.beq 32 25)) = true := rfl
theorem inv_l32 {g : gh} {S : sh} {D : dt} {j : Nat} {v : Int64} (h : Inv g S D) : Inv g S (pL D 32 j v) := inv_pL h wL_32 (fun q => by omega) (no_k h j v (by decide) (by decide) (by decide) (by decide)) (fun q => absurd q (by decide))
theorem wL_33 : (Nat.blt 33 66 && !(Nat.beq 33 7) && !(Nat.beq 33 19) && !(Nat.beq 33 20) && !(Nat.beq 33 24) && !(Nat.beq 33 25)) = true := rfl
theorem inv_l33 {g : gh} {S : sh} {D : dt} {j : Nat} {v : Int64} (h : Inv g S D) : Inv g S (pL D 33 j v) := inv_pL h wL_33 (fun q => by omega) (no_k h j v (by decide) (by decide) (by decide) (by decide)) (fun q => absurd q (by decide))
theorem wL_34 : (Nat.blt 34 66 && !(Nat.beq 34 7) && !(Nat.beq 34 19) && !(Nat.beq 34 20) && !(Nat.beq 34 24) && !(Nat.beq 34 25)) = true := rfl
theorem inv_l34 {g : gh} {S : sh} {D : dt} {j : Nat} {v : Int64} (h : Inv g S D) : Inv g S (pL D 34 j v) := inv_pL h wL_34 (fun q => by omega) (no_k h j v (by decide) (by decide) (by decide) (by decide)) (fun q => absurd q (by decide))
theorem wL_35 : (Nat.blt 35 66 && !(Nat.beq 35 7) && !(Nat.beq 35 19) && !(Nat.beq 35 20) && !(Nat.beq 35 24) && !(Nat.beq 35 25)) = true := rfl
theorem inv_l35 {g : gh} {S : sh} {D : dt} {j : Nat} {v : Int64} (h : Inv g S D) : Inv g S (pL D 35 j v) := inv_pL h wL_35 (fun q => by omega) (no_k h j v (by decide) (by decide) (by decide) (by decide)) (fun q => absurd q (by decide))
theorem wL_36 : (Nat.blt 36 66 && !(Nat.beq 36 7) && !(Nat.beq 36 19) && !(Nat.beq 36 20) && !(Nat.beq 36 24) && !(Nat.beq 36 25)) = true := rfl
theorem inv_l36 {g : gh} {S : sh} {D : dt} {j : Nat} {v : Int64} (h : Inv g S D) : Inv g S (pL D 36 j v) := inv_pL h wL_36 (fun q => by omega) (no_k h j v (by decide) (by decide) (by decide) (by decide)) (fun q => absurd q (by decide))
theorem wL_37 : (Nat.blt 37 66 && !(Nat.beq 37 7) && !(Nat.beq 37 19) && !(Nat.beq 37 20) && !(Nat.beq 37 24) && !(Nat.beq 37 25)) = true := rfl
theorem inv_l37 {g : gh} {S : sh} {D : dt} {j : Nat} {v : Int64} (h : Inv g S D) : Inv g S (pL D 37 j v) := inv_pL h wL_37 (fun q => by omega) (no_k h j v (by decide) (by decide) (by decide) (by decide)) (fun q => absurd q (by decide))
theorem wL_38 : (Nat.blt 38 66 && !(Nat.beq 38 7) && !(Nat.beq 38 19) && !(Nat.beq 38 20) && !(Nat.beq 38 24) && !(Nat.beq 38 25)) = true := rfl
theorem inv_l38 {g : gh} {S : sh} {D : dt} {j : Nat} {v : Int64} (h : Inv g S D) : Inv g S (pL D 38 j v) := inv_pL h wL_38 (fun q => by omega) (no_k h j v (by decide) (by decide) (by decide) (by decide)) (fun q => absurd q (by decide))
theorem wL_39 : (Nat.blt 39 66 && !(Nat.beq 39 7) && !(Nat.beq 39 19) && !(Nat.beq 39 20) && !(Nat.beq 39 24) && !(Nat.beq 39 25)) = true := rfl
theorem inv_l39 {g : gh} {S : sh} {D : dt} {j : Nat} {v : Int64} (h : Inv g S D) : Inv g S (pL D 39 j v) := inv_pL h wL_39 (fun q => by omega) (no_k h j v (by decide) (by decide) (by decide) (by decide)) (fun q => absurd q (by decide))
theorem wL_40 : (Nat.blt 40 66 && !(Nat.beq 40 7) && !(Nat.beq 40 19) && !(Nat.beq 40 20) && !(Nat.beq 40 24) && !(Nat.beq 40 25)) = true := rfl
theorem inv_l40 {g : gh} {S : sh} {D : dt} {j : Nat} {v : Int64} (h : Inv g S D) : Inv g S (pL D 40 j v) := inv_pL h wL_40 (fun q => by omega) (no_k h j v (by decide) (by decide) (by decide) (by decide)) (fun q => absurd q (by decide))
theorem wL_41 : (Nat.blt 41 66 && !(Nat.beq 41 7) && !(Nat.beq 41 19) && !(Nat.beq 41 20) && !(Nat.beq 41 24) && !(Nat.beq 41 25)) = true := rfl
theorem inv_l41 {g : gh} {S : sh} {D : dt} {j : Nat} {v : Int64} (h : Inv g S D) : Inv g S (pL D 41 j v) := inv_pL h wL_41 (fun q => by omega) (no_k h j v (by decide) (by decide) (by decide) (by decide)) (fun q => absurd q (by decide))
theorem wL_42 : (Nat.blt 42 66 && !(Nat.beq 42 7) && !(Nat.beq 42 19) && !(Nat.beq 42 20) && !(Nat.beq 42 24) && !(Nat.beq 42 25)) = true := rfl
theorem inv_l42 {g : gh} {S : sh} {D : dt} {j : Nat} {v : Int64} (h : Inv g S D) : Inv g S (pL D 42 j v) := inv_pL h wL_42 (fun q => by omega) (no_k h j v (by decide) (by decide) (by decide) (by decide)) (fun q => absurd q (by decide))
theorem wL_43 : (Nat.blt 43 66 && !(Nat.beq 43 7) && !(Nat.beq 43 19) && !(Nat.beq 43 20) && !(Nat.beq 43 24) && !(Nat.beq 43 25)) = true := rfl
theorem inv_l43 {g : gh} {S : sh} {D : dt} {j : Nat} {v : Int64} (h : Inv g S D) : Inv g S (pL D 43 j v) := inv_pL h wL_43 (fun q => by omega) (no_k h j v (by decide) (by decide) (by decide) (by decide)) (fun q => absurd q (by decide))
theorem wL_44 : (Nat.blt 44 66 && !(Nat.beq 44 7) && !(Nat.beq 44 19) && !(Nat.beq 44 20) && !(Nat.beq 44 24) && !(Nat.beq 44 25)) = true := rfl
theorem inv_l44 {g : gh} {S : sh} {D : dt} {j : Nat} {v : Int64} (h : Inv g S D) : Inv g S (pL D 44 j v) := inv_pL h wL_44 (fun q => by omega) (no_k h j v (by decide) (by decide) (by decide) (by decide)) (fun q => absurd q (by decide))
theorem wL_45 : (Nat.blt 45 66 && !(Nat.beq 45 7) && !(Nat.beq 45 19) && !(Nat.beq 45 20) && !(Nat.beq 45 24) && !(Nat.beq 45 25)) = true := rfl
theorem inv_l45 {g : gh} {S : sh} {D : dt} {j : Nat} {v : Int64} (h : Inv g S D) : Inv g S (pL D 45 j v) := inv_pL h wL_45 (fun q => by omega) (no_k h j v (by decide) (by decide) (by decide) (by decide)) (fun q => absurd q (by decide))
theorem wL_46 : (Nat.blt 46 66 && !(Nat.beq 46 7) && !(Nat.beq 46 19) && !(Nat.beq 46 20) && !(Nat.beq 46 24) && !(Nat.beq 46 25)) = true := rfl
theorem inv_l46 {g : gh} {S : sh} {D : dt} {j : Nat} {v : Int64} (h : Inv g S D) : Inv g S (pL D 46 j v) := inv_pL h wL_46 (fun q => by omega) (no_k h j v (by decide) (by decide) (by decide) (by decide)) (fun q => absurd q (by decide))
theorem wL_47 : (Nat.blt 47 66 && !(Nat.beq 47 7) && !(Nat.beq 47 19) && !(Nat.beq 47 20) && !(Nat.beq 47 24) && !(Nat.beq 47 25)) = true := rfl
theorem inv_l47 {g : gh} {S : sh} {D : dt} {j : Nat} {v : Int64} (h : Inv g S D) : Inv g S (pL D 47 j v) := inv_pL h wL_47 (fun q => by omega) (no_k h j v (by decide) (by decide) (by decide) (by decide)) (fun q => absurd q (by decide))
theorem wL_48 : (Nat.blt 48 66 && !(Nat.beq 48 7) && !(Nat.beq 48 19) && !(Nat.beq 48 20) && !(Nat.beq 48 24) && !(Nat.beq 48 25)) = true := rfl
theorem inv_l48 {g : gh} {S : sh} {D : dt} {j : Nat} {v : Int64} (h : Inv g S D) : Inv g S (pL D 48 j v) := inv_pL h wL_48 (fun q => by omega) (no_k h j v (by decide) (by decide) (by decide) (by decide)) (fun q => absurd q (by decide))
theorem wL_49 : (Nat.blt 49 66 && !(Nat.beq 49 7) && !(Nat.beq 49 19) && !(Nat.beq 49 20) && !(Nat.beq 49 24) && !(Nat.beq 49 25)) = true := rfl
theorem inv_l49 {g : gh} {S : sh} {D : dt} {j : Nat} {v : Int64} (h : Inv g S D) : Inv g S (pL D 49 j v) := inv_pL h wL_49 (fun q => by omega) (no_k h j v (by decide) (by decide) (by decide) (by decide)) (fun q => absurd q (by decide))
theorem wL_50 : (Nat.blt 50 66 && !(Nat.beq 50 7) && !(Nat.beq 50 19) && !(Nat.beq 50 20) && !(Nat.beq 50 24) && !(Nat.beq 50 25)) = true := rfl
theorem inv_l50 {g : gh} {S : sh} {D : dt} {j : Nat} {v : Int64} (h : Inv g S D) (h2 : gI D 49 j ≠ 3 ∨ RgL (-1048576) 1048576 v) : Inv g S (pL D 50 j v) := inv_pL h wL_50 (fun q => by omega) ⟨fun e => by omega, fun _ e3 => h2.elim (fun q => absurd e3 q) id, fun e => by omega, fun e => by omega⟩ (fun q => absurd q (by decide))
theorem wL_51 : (Nat.blt 51 66 && !(Nat.beq 51 7) && !(Nat.beq 51 19) && !(Nat.beq 51 20) && !(Nat.beq 51 24) && !(Nat.beq 51 25)) = true := rfl
theorem inv_l51 {g : gh} {S : sh} {D : dt} {j : Nat} {v : Int64} (h : Inv g S D) : Inv g S (pL D 51 j v) := inv_pL h wL_51 (fun q => by omega) (no_k h j v (by decide) (by decide) (by decide) (by decide)) (fun q => absurd q (by decide))
theorem wL_52 : (Nat.blt 52 66 && !(Nat.beq 52 7) && !(Nat.beq 52 19) && !(Nat.beq 52 20) && !(Nat.beq 52 24) && !(Nat.beq 52 25)) = true := rfl
theorem inv_l52 {g : gh} {S : sh} {D : dt} {j : Nat} {v : Int64} (h : Inv g S D) : Inv g S (pL D 52 j v) := inv_pL h wL_52 (fun q => by omega) (no_k h j v (by decide) (by decide) (by decide) (by decide)) (fun q => absurd q (by decide))
theorem wL_53 : (Nat.blt 53 66 && !(Nat.beq 53 7) && !(Nat.beq 53 19) && !(Nat.beq 53 20) && !(Nat.beq 53 24) && !(Nat.beq 53 25)) = true := rfl
theorem inv_l53 {g : gh} {S : sh} {D : dt} {j : Nat} {v : Int64} (h : Inv g S D) : Inv g S (pL D 53 j v) := inv_pL h wL_53 (fun q => by omega) (no_k h j v (by decide) (by decide) (by decide) (by decide)) (fun q => absurd q (by decide))
theorem wL_54 : (Nat.blt 54 66 && !(Nat.beq 54 7) && !(Nat.beq 54 19) && !(Nat.beq 54 20) && !(Nat.beq 54 24) && !(Nat.beq 54 25)) = true := rfl
theorem inv_l54 {g : gh} {S : sh} {D : dt} {j : Nat} {v : Int64} (h : Inv g S D) : Inv g S (pL D 54 j v) := inv_pL h wL_54 (fun q => by omega) (no_k h j v (by decide) (by decide) (by decide) (by decide)) (fun q => absurd q (by decide))
theorem wL_55 : (Nat.blt 55 66 && !(Nat.beq 55 7) && !(Nat.beq 55 19) && !(Nat.beq 55 20) && !(Nat.beq 55 24) && !(Nat.beq 55 25)) = true := rfl
theorem inv_l55 {g : gh} {S : sh} {D : dt} {j : Nat} {v : Int64} (h : Inv g S D) : Inv g S (pL D 55 j v) := inv_pL h wL_55 (fun q => by omega) (no_k h j v (by decide) (by decide) (by decide) (by decide)) (fun q => absurd q (by decide))
theorem wL_56 : (Nat.blt 56 66 && !(Nat.beq 56 7) && !(Nat.beq 56 19) && !(Nat.beq 56 20) && !(Nat.beq 56 24) && !(Nat.beq 56 25)) = true := rfl
theorem inv_l56 {g : gh} {S : sh} {D : dt} {j : Nat} {v : Int64} (h : Inv g S D) (h2 : gI D 55 j ≠ 3 ∨ RgL (-1048576) 1048576 v) : Inv g S (pL D 56 j v) := inv_pL h wL_56 (fun q => by omega) ⟨fun e => by omega, fun e => by omega, fun _ e3 => h2.elim (fun q => absurd e3 q) id, fun e => by omega⟩ (fun q => absurd q (by decide))
theorem wL_57 : (Nat.blt 57 66 && !(Nat.beq 57 7) && !(Nat.beq 57 19) && !(Nat.beq 57 20) && !(Nat.beq 57 24) && !(Nat.beq 57 25)) = true := rfl
theorem inv_l57 {g : gh} {S : sh} {D : dt} {j : Nat} {v : Int64} (h : Inv g S D) : Inv g S (pL D 57 j v) := inv_pL h wL_57 (fun q => by omega) (no_k h j v (by decide) (by decide) (by decide) (by decide)) (fun q => absurd q (by decide))
theorem wL_58 : (Nat.blt 58 66 && !(Nat.beq 58 7) && !(Nat.beq 58 19) && !(Nat.beq 58 20) && !(Nat.beq 58 24) && !(Nat.beq 58 25)) = true := rfl
theorem inv_l58 {g : gh} {S : sh} {D : dt} {j : Nat} {v : Int64} (h : Inv g S D) : Inv g S (pL D 58 j v) := inv_pL h wL_58 (fun q => by omega) (no_k h j v (by decide) (by decide) (by decide) (by decide)) (fun q => absurd q (by decide))
theorem wL_59 : (Nat.blt 59 66 && !(Nat.beq 59 7) && !(Nat.beq 59 19) && !(Nat.beq 59 20) && !(Nat.beq 59 24) && !(Nat.beq 59 25)) = true := rfl
theorem inv_l59 {g : gh} {S : sh} {D : dt} {j : Nat} {v : Int64} (h : Inv g S D) : Inv g S (pL D 59 j v) := inv_pL h wL_59 (fun q => by omega) (no_k h j v (by decide) (by decide) (by decide) (by decide)) (fun q => absurd q (by decide))
theorem wL_60 : (Nat.blt 60 66 && !(Nat.beq 60 7) && !(Nat.beq 60 19) && !(Nat.beq 60 20) && !(Nat.beq 60 24) && !(Nat.beq 60 25)) = true := rfl
theorem inv_l60 {g : gh} {S : sh} {D : dt} {j : Nat} {v : Int64} (h : Inv g S D) : Inv g S (pL D 60 j v) := inv_pL h wL_60 (fun q => by omega) (no_k h j v (by decide) (by decide) (by decide) (by decide)) (fun q => absurd q (by decide))
theorem wL_61 : (Nat.blt 61 66 && !(Nat.beq 61 7) && !(Nat.beq 61 19) && !(Nat.beq 61 20) && !(Nat.beq 61 24) && !(Nat.beq 61 25)) = true := rfl
theorem inv_l61 {g : gh} {S : sh} {D : dt} {j : Nat} {v : Int64} (h : Inv g S D) (h2 : gI D 60 j ≠ 3 ∨ RgL (-1048576) 1048576 v) : Inv g S (pL D 61 j v) := inv_pL h wL_61 (fun q => by omega) ⟨fun _ e3 => h2.elim (fun q => absurd e3 q) id, fun e => by omega, fun e => by omega, fun e => by omega⟩ (fun q => absurd q (by decide))
theorem wL_62 : (Nat.blt 62 66 && !(Nat.beq 62 7) && !(Nat.beq 62 19) && !(Nat.beq 62 20) && !(Nat.beq 62 24) && !(Nat.beq 62 25)) = true := rfl
theorem inv_l62 {g : gh} {S : sh} {D : dt} {j : Nat} {v : Int64} (h : Inv g S D) : Inv g S (pL D 62 j v) := inv_pL h wL_62 (fun q => by omega) (no_k h j v (by decide) (by decide) (by decide) (by decide)) (fun q => absurd q (by decide))
theorem wL_63 : (Nat.blt 63 66 && !(Nat.beq 63 7) && !(Nat.beq 63 19) && !(Nat.beq 63 20) && !(Nat.beq 63 24) && !(Nat.beq 63 25)) = true := rfl
theorem inv_l63 {g : gh} {S : sh} {D : dt} {j : Nat} {v : Int64} (h : Inv g S D) : Inv g S (pL D 63 j v) := inv_pL h wL_63 (fun q => by omega) (no_k h j v (by decide) (by decide) (by decide) (by decide)) (fun q => absurd q (by decide))
theorem wL_64 : (Nat.blt 64 66 && !(Nat.beq 64 7) && !(Nat.beq 64 19) && !(Nat.beq 64 20) && !(Nat.beq 64 24) && !(Nat.beq 64 25)) = true := rfl
theorem inv_l64 {g : gh} {S : sh} {D : dt} {j : Nat} {v : Int64} (h : Inv g S D) : Inv g S (pL D 64 j v) := inv_pL h wL_64 (fun q => by omega) (no_k h j v (by decide) (by decide) (by decide) (by decide)) (fun q => absurd q (by decide))
theorem wL_65 : (Nat.blt 65 66 && !(Nat.beq 65 7) && !(Nat.beq 65 19) && !(Nat.beq 65 20) && !(Nat.beq 65 24) && !(Nat.beq 65 25)) = true := rfl
theorem inv_l65 {g : gh} {S : sh} {D : dt} {j : Nat} {v : Int64} (h : Inv g S D) : Inv g S (pL D 65 j v) := inv_pL h wL_65 (fun q => by omega) (no_k h j v (by decide) (by decide) (by decide) (by decide)) (fun q => absurd q (by decide))
theorem inv_kl28 {g : gh} {S : sh} {D : dt} {K : Int32} {L : Int64} (h : Inv g S D) (hs : stm K L) : Inv g S (pL (pI D 28 47 K) 28 48 L) := by
  have h0 : Inv g S (pL (pI D 28 47 0) 28 48 L) := inv_l28 (inv_i28 h (Or.inr (Or.inl ⟨rfl, by decide⟩)) (rg_top _)) (by decide) (Or.inr (Or.inl (by rw [gI_pI, if_pos ⟨rfl, rfl⟩]; decide)))
  have e : ∀ a b, ¬ (a = 28 ∧ b = 47) → gI (pL (pI D 28 47 K) 28 48 L) a b = gI (pL (pI D 28 47 0) 28 48 L) a b := fun a b n => by rw [gI_pL, gI_pL, gI_pI, gI_pI, if_neg n, if_neg n]
  obtain ⟨a1, a2, a3, a4, a5, a6, a7, a8, a9, a10, a11⟩ := h0
  refine ⟨a1, fun o b ho => ?_, a3, a4, fun o k => ?_, fun o k => ?_, a7, fun o b ho => ?_, a9, ⟨fun b => ?_, fun b => ?_, fun b => ?_, ?_⟩, fun hz => ?_⟩
  · by_cases q : o = 28 ∧ b = 47
    · obtain ⟨rfl, rfl⟩ := q
      exact rg_top _
    · rw [e o b q]
      exact a2 o b ho
  · have n : o ≠ 28 := k_at h k 28 (by decide) (by decide)
    simp only [e o _ (fun q => n q.1)]
    exact a5 o k
  · have n : o + 1 ≠ 28 := sc_ne h k (by decide) (by decide) (by decide)
    refine ⟨(a6 o k).1, fun p hp => ?_⟩
    rw [e (o + 1) p (fun q => n q.1)]
    exact (a6 o k).2 p hp
  · rw [e o b (by rintro ⟨rfl, -⟩; cases ho)]
    exact a8 o b ho
  · rw [e 60 b (fun q => by omega)]
    exact a10.1 b
  · rw [e 49 b (fun q => by omega)]
    exact a10.2.1 b
  · rw [e 55 b (fun q => by omega)]
    exact a10.2.2.1 b
  · rw [gI_pL, gI_pI, if_pos ⟨rfl, rfl⟩, gL_pL, if_pos ⟨rfl, rfl⟩]
    exact hs
  · obtain ⟨f1, f2, f3, f4, f5, f6⟩ := a11 hz
    exact ⟨(e 14 8 (fun q => by omega)).trans f1, (e 14 10 (fun q => by omega)).trans f2, f3, f4, fun b q => f5 b ((e 60 b (fun q => by omega)).symm.trans q), (e 28 53 (fun q => by omega)).trans f6⟩
theorem inv_kl60 {g : gh} {S : sh} {D : dt} {j : Nat} {K : Int32} {L : Int64} (h : Inv g S D) (hK : K = 3 → g.1 12 = 0 ∨ g.2 60 j = 3) (hs : stm K L) : Inv g S (pL (pI D 60 j K) 61 j L) := by
  have h0 : Inv g S (pL (pI D 60 j 0) 61 j L) := inv_l61 (inv_i60 h (by decide) (rg_top _)) (Or.inl (by rw [gI_pI, if_pos ⟨rfl, rfl⟩]; decide))
  have e : ∀ a b, a ≠ 60 → gI (pL (pI D 60 j K) 61 j L) a b = gI (pL (pI D 60 j 0) 61 j L) a b := fun a b n => by rw [gI_pL, gI_pL, gI_pI, gI_pI, if_neg (fun q => n q.1), if_neg (fun q => n q.1)]
  obtain ⟨a1, a2, a3, a4, a5, a6, a7, a8, a9, a10, a11⟩ := h0
  refine ⟨a1, fun o b ho => ?_, a3, a4, fun o k => ?_, fun o k => ?_, a7, fun o b ho => ?_, a9, ⟨fun b => ?_, fun b => ?_, fun b => ?_, ?_⟩, fun hz => ?_⟩
  · by_cases q : o = 60
    · subst q
      exact rg_top _
    · rw [e o b q]
      exact a2 o b ho
  · have n : o ≠ 60 := k_at h k 60 (by decide) (by decide)
    simp only [e o _ n]
    exact a5 o k
  · have n : o + 1 ≠ 60 := sc_ne h k (by decide) (by decide) (by decide)
    refine ⟨(a6 o k).1, fun p hp => ?_⟩
    rw [e (o + 1) p n]
    exact (a6 o k).2 p hp
  · rw [e o b (by rintro rfl; cases ho)]
    exact a8 o b ho
  · by_cases q : b = j
    · subst q
      rw [gI_pL, gI_pI, if_pos ⟨rfl, rfl⟩, gL_pL, if_pos ⟨rfl, rfl⟩]
      exact hs
    · have u : gI (pL (pI D 60 j K) 61 j L) 60 b = gI D 60 b := by rw [gI_pL, gI_pI, if_neg (fun z => q z.2)]
      have w : gL (pL (pI D 60 j K) 61 j L) 61 b = gL D 61 b := by rw [gL_pL, if_neg (fun z => q z.2), gL_pI]
      rw [u, w]
      exact h.k.1 b
  · rw [e 49 b (by decide)]
    exact a10.2.1 b
  · rw [e 55 b (by decide)]
    exact a10.2.2.1 b
  · rw [e 28 47 (by decide)]
    exact a10.2.2.2
  · obtain ⟨f1, f2, f3, f4, f5, f6⟩ := a11 hz
    refine ⟨(e 14 8 (by decide)).trans f1, (e 14 10 (by decide)).trans f2, f3, f4, fun b q => ?_, (e 28 53 (by decide)).trans f6⟩
    rw [gI_pL, gI_pI] at q
    split at q
    · rename_i w
      rw [w.2]
      exact (hK q).elim (fun n => absurd n hz) id
    · exact (h.f hz).2.2.2.2.1 b q
theorem inv_kl49 {g : gh} {S : sh} {D : dt} {j : Nat} {K : Int32} {L : Int64} (h : Inv g S D) (hs : stm K L) : Inv g S (pL (pI D 49 j K) 50 j L) := by
  have h0 : Inv g S (pL (pI D 49 j 0) 50 j L) := inv_l50 (inv_i49 h (by decide) (rg_top _)) (Or.inl (by rw [gI_pI, if_pos ⟨rfl, rfl⟩]; decide))
  have e : ∀ a b, a ≠ 49 → gI (pL (pI D 49 j K) 50 j L) a b = gI (pL (pI D 49 j 0) 50 j L) a b := fun a b n => by rw [gI_pL, gI_pL, gI_pI, gI_pI, if_neg (fun q => n q.1), if_neg (fun q => n q.1)]
  obtain ⟨a1, a2, a3, a4, a5, a6, a7, a8, a9, a10, a11⟩ := h0
  refine ⟨a1, fun o b ho => ?_, a3, a4, fun o k => ?_, fun o k => ?_, a7, fun o b ho => ?_, a9, ⟨fun b => ?_, fun b => ?_, fun b => ?_, ?_⟩, fun hz => ?_⟩
  · by_cases q : o = 49
    · subst q
      exact rg_top _
    · rw [e o b q]
      exact a2 o b ho
  · have n : o ≠ 49 := k_at h k 49 (by decide) (by decide)
    simp only [e o _ n]
    exact a5 o k
  · have n : o + 1 ≠ 49 := sc_ne h k (by decide) (by decide) (by decide)
    refine ⟨(a6 o k).1, fun p hp => ?_⟩
    rw [e (o + 1) p n]
    exact (a6 o k).2 p hp
  · rw [e o b (by rintro rfl; cases ho)]
    exact a8 o b ho
  · rw [e 60 b (by decide)]
    exact a10.1 b
  · by_cases q : b = j
    · subst q
      rw [gI_pL, gI_pI, if_pos ⟨rfl, rfl⟩, gL_pL, if_pos ⟨rfl, rfl⟩]
      exact hs
    · have u : gI (pL (pI D 49 j K) 50 j L) 49 b = gI D 49 b := by rw [gI_pL, gI_pI, if_neg (fun z => q z.2)]
      have w : gL (pL (pI D 49 j K) 50 j L) 50 b = gL D 50 b := by rw [gL_pL, if_neg (fun z => q z.2), gL_pI]
      rw [u, w]
      exact h.k.2.1 b
  · rw [e 55 b (by decide)]
    exact a10.2.2.1 b
  · rw [e 28 47 (by decide)]
    exact a10.2.2.2
  · obtain ⟨f1, f2, f3, f4, f5, f6⟩ := a11 hz
    exact ⟨(e 14 8 (by decide)).trans f1, (e 14 10 (by decide)).trans f2, f3, f4, fun b q => f5 b ((e 60 b (by decide)).symm.trans q), (e 28 53 (by decide)).trans f6⟩
theorem inv_kl55 {g : gh} {S : sh} {D : dt} {j : Nat} {K : Int32} {L : Int64} (h : Inv g S D) (hs : stm K L) : Inv g S (pL (pI D 55 j K) 56 j L) := by
  have h0 : Inv g S (pL (pI D 55 j 0) 56 j L) := inv_l56 (inv_i55 h (by decide) (rg_top _)) (Or.inl (by rw [gI_pI, if_pos ⟨rfl, rfl⟩]; decide))
  have e : ∀ a b, a ≠ 55 → gI (pL (pI D 55 j K) 56 j L) a b = gI (pL (pI D 55 j 0) 56 j L) a b := fun a b n => by rw [gI_pL, gI_pL, gI_pI, gI_pI, if_neg (fun q => n q.1), if_neg (fun q => n q.1)]
  obtain ⟨a1, a2, a3, a4, a5, a6, a7, a8, a9, a10, a11⟩ := h0
  refine ⟨a1, fun o b ho => ?_, a3, a4, fun o k => ?_, fun o k => ?_, a7, fun o b ho => ?_, a9, ⟨fun b => ?_, fun b => ?_, fun b => ?_, ?_⟩, fun hz => ?_⟩
  · by_cases q : o = 55
    · subst q
      exact rg_top _
    · rw [e o b q]
      exact a2 o b ho
  · have n : o ≠ 55 := k_at h k 55 (by decide) (by decide)
    simp only [e o _ n]
    exact a5 o k
  · have n : o + 1 ≠ 55 := sc_ne h k (by decide) (by decide) (by decide)
    refine ⟨(a6 o k).1, fun p hp => ?_⟩
    rw [e (o + 1) p n]
    exact (a6 o k).2 p hp
  · rw [e o b (by rintro rfl; cases ho)]
    exact a8 o b ho
  · rw [e 60 b (by decide)]
    exact a10.1 b
  · rw [e 49 b (by decide)]
    exact a10.2.1 b
  · by_cases q : b = j
    · subst q
      rw [gI_pL, gI_pI, if_pos ⟨rfl, rfl⟩, gL_pL, if_pos ⟨rfl, rfl⟩]
      exact hs
    · have u : gI (pL (pI D 55 j K) 56 j L) 55 b = gI D 55 b := by rw [gI_pL, gI_pI, if_neg (fun z => q z.2)]
      have w : gL (pL (pI D 55 j K) 56 j L) 56 b = gL D 56 b := by rw [gL_pL, if_neg (fun z => q z.2), gL_pI]
      rw [u, w]
      exact h.k.2.2.1 b
  · rw [e 28 47 (by decide)]
    exact a10.2.2.2
  · obtain ⟨f1, f2, f3, f4, f5, f6⟩ := a11 hz
    exact ⟨(e 14 8 (by decide)).trans f1, (e 14 10 (by decide)).trans f2, f3, f4, fun b q => f5 b ((e 60 b (by decide)).symm.trans q), (e 28 53 (by decide)).trans f6⟩
