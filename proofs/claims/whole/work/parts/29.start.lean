/-! THE SMALL MACHINE: the claim's bytecode read over a flat memory: ints and longs by (cell, place), references and shapes as a table of cells. -/
abbrev VI : Type := Nat → Nat → Int32
abbrev VL : Type := Nat → Nat → Int64
/-- cells: kind, length, references; nothing thrown yet; cells and slots made -/
abbrev SW : Type := List (Nat × Nat × List Nat) × Bool × Nat × Nat
abbrev Res : Type := (Option Value ⊕ Nat) × VI × VL × SW
abbrev KK : Type := Nat → List Value → List Value → VI → VL → SW → Prop
abbrev CC : Type := Nat → List Value → VI → VL → SW → Res → Prop
def tagW (W : List (Nat × Nat × List Nat)) (k : Nat) : Nat := (W.getD k (999, 0, [])).1
def lenW (W : List (Nat × Nat × List Nat)) (k : Nat) : Nat := (W.getD k (999, 0, [])).2.1
def refW (W : List (Nat × Nat × List Nat)) (k j : Nat) : Nat := (W.getD k (999, 0, [])).2.2.getD j 0
def rv (r : Nat) : Value := if r = 0 then .null else .ref r
def u2 (I : VI) (k j : Nat) (x : Int32) : VI := fun k' j' => if k' = k then (if j' = j then x else I k' j') else I k' j'
def uL (L : VL) (k j : Nat) (x : Int64) : VL := fun k' j' => if k' = k then (if j' = j then x else L k' j') else L k' j'
def zI (I : VI) (k : Nat) : VI := fun k' j' => if k' = k then 0 else I k' j'
def zL (L : VL) (k : Nat) : VL := fun k' j' => if k' = k then 0 else L k' j'
/-- m rows of zeros from k on -/
def zIs (I : VI) (k m : Nat) : VI := fun k' j' => if k ≤ k' ∧ k' < k + m then 0 else I k' j'
def cpI (I : VI) (a sp b dp n : Nat) : VI := fun k' j' => if k' = b then (if dp ≤ j' ∧ j' < dp + n then I a (sp + (j' - dp)) else I k' j') else I k' j'
def catS : List Value → Nat
  | [] => 0
  | v :: l => v.category + catS l
/-- constants: owner, entry, 0 an int or 1 a long or 2 a text -/
def kcTab : List (Nat × Nat × Value) := [(8, 55, .int 100000), (13, 265, .int 1431655765), (13, 266, .int 858993459), (13, 267, .int 252645135), (13, 264, .int 65536), (10, 340, .long 2), (4, 63, .int 1103515245), (10, 364, .int 2147483647), (11, 125, .int 100000), (11, 388, .int 1103515245), (9, 58, .ref 3), (1, 68, .ref 4), (6, 61, .ref 5)]
def kc (o j : Nat) : Option Value := (kcTab.find? (fun e => e.1 == o && e.2.1 == j)).map (fun e => e.2.2)
/-- new: owner, entry, kind, how many fields -/
def ckTab : List (Nat × Nat × Nat × Nat) := [(12, 8, 10, 16), (10, 7, 8, 7), (10, 16, 9, 10), (10, 26, 1, 3), (10, 36, 0, 3), (10, 46, 6, 8), (10, 57, 2, 4), (10, 69, 3, 7), (10, 78, 5, 12), (5, 15, 7, 2), (10, 87, 4, 4), (12, 109, 11, 43)]
def ck (o j : Nat) : Option (Nat × Nat) := (ckTab.find? (fun e => e.1 == o && e.2.1 == j)).map (fun e => e.2.2)
/-- calls of what isn't walked here: owner, entry, 1 Object.<init>, 2 arraycopy, 3 String.length, 4 String.charAt -/
def spTab : List (Nat × Nat × Nat) := [(10, 1, 1), (8, 3, 1), (9, 3, 1), (1, 3, 1), (1, 25, 2), (0, 3, 1), (6, 3, 1), (2, 5, 1), (3, 5, 1), (5, 3, 1), (7, 5, 1), (4, 1, 1), (3, 47, 2), (8, 63, 3), (8, 68, 4), (9, 43, 2), (2, 49, 2), (0, 22, 2), (11, 1, 1)]
def sp (o j : Nat) : Nat := ((spTab.find? (fun e => e.1 == o && e.2.1 == j)).map (fun e => e.2.2)).getD 0
/-- where a method throws what it makes: method, place, 0 an argument's, 1 no such element -/
def thTab : List (Nat × Nat × Nat) := [(158, 20, 0), (160, 25, 1), (161, 25, 1)]
def th (y pc : Nat) : Option Nat := (thTab.find? (fun e => e.1 == y && e.2.1 == pc)).map (fun e => e.2.2)
/-- what is caught: method, place of the call, class, place behind the handler's store, the local -/
def hnTab : List (Nat × Nat × Nat × Nat × Nat) := [(290, 4, 0, 13, 3), (291, 4, 0, 13, 3), (292, 4, 0, 13, 3), (293, 4, 0, 13, 3), (294, 4, 0, 13, 3), (295, 5, 0, 19, 4), (295, 5, 1, 15, 4), (296, 5, 0, 19, 4), (296, 5, 1, 15, 4), (297, 19, 0, 29, 11), (298, 4, 1, 20, 3), (299, 5, 0, 15, 4), (300, 4, 1, 13, 3), (301, 5, 0, 19, 4), (301, 5, 1, 15, 4), (302, 4, 0, 13, 3), (303, 4, 1, 13, 3), (304, 4, 1, 13, 3), (305, 4, 0, 13, 3), (306, 4, 0, 13, 3), (307, 4, 0, 13, 3), (308, 7, 0, 17, 5), (309, 9, 0, 18, 6), (310, 7, 0, 21, 5), (310, 7, 1, 17, 5), (311, 4, 0, 13, 3), (312, 4, 0, 13, 3), (313, 4, 1, 13, 3), (314, 4, 0, 13, 3), (315, 4, 0, 13, 3), (316, 4, 0, 13, 3), (317, 9, 0, 19, 6), (318, 13, 0, 23, 8)]
def hn (y pc E : Nat) : Option (Nat × Nat) := (hnTab.find? (fun e => e.1 == y && e.2.1 == pc && e.2.2.1 == E)).map (fun e => e.2.2.2)
/-- the texts: their letters -/
def txTab : List (List Int32) := [[104, 111, 117, 115, 101, 32, 100, 101, 98, 116, 32, 102, 108, 111, 117, 114, 32, 119, 97, 116, 101, 114], [119, 101, 105, 103, 104, 116, 32, 107, 105, 110, 100, 32, 97, 103, 101, 32, 112, 114, 105, 100, 101, 32, 109, 111, 117, 116, 104, 115, 32, 111, 119, 101, 100, 32, 111, 116, 104, 101, 114, 115, 32, 104, 117, 110, 103, 101, 114, 32, 100, 101, 98, 116, 32, 108, 101, 97, 115, 116, 32, 109, 111, 115, 116], [103, 114, 105, 110, 100, 32, 102, 111, 114, 103, 105, 118, 101, 32, 115, 119, 101, 108, 108, 32, 103, 105, 118, 101, 32, 114, 97, 105, 110, 32, 100, 97, 121, 32, 97, 103, 97, 105, 110]]
def tx (k : Nat) : List Int32 := txTab.getD (k - 3) []
def tgt (pc : Nat) (off : Int) : Nat := ((pc : Int) + off).toNat
