/-! THE SMALL MACHINE: the claim's bytecode read over a flat memory: ints and longs by (cell, place), references and shapes as a table of cells. -/
abbrev VI : Type := Nat → Nat → Int32
abbrev VL : Type := Nat → Nat → Int64
/-- cells: kind, length, references; nothing thrown yet; cells and slots made -/
abbrev SW : Type := List (Nat × Nat × List Nat) × Bool × Nat × Nat
abbrev Res : Type := (Option Value ⊕ Nat) × VI × VL × SW
abbrev KK : Type := Nat → List Value → List Value → VI → VL → SW → Prop
abbrev CC : Type := Nat → List Value → VI → VL → SW → Res → Prop
def tagW (W : List (Nat × Nat × List Nat)) (k : Nat) : Nat := (W.getD k (999, 0, [])).1
def lenW (W : List (Nat × Nat × List Nat)) (k : Nat) : Nat := (W.getD k (999, 0, [])).2.1
def refW (W : List (Nat × Nat × List Nat)) (k j : Nat) : Nat := (W.getD k (999, 0, [])).2.2.getD j 0
def rv (r : Nat) : Value := if r = 0 then .null else .ref r
def u2 (I : VI) (k j : Nat) (x : Int32) : VI := fun k' j' => if k' = k then (if j' = j then x else I k' j') else I k' j'
def uL (L : VL) (k j : Nat) (x : Int64) : VL := fun k' j' => if k' = k then (if j' = j then x else L k' j') else L k' j'
def zI (I : VI) (k : Nat) : VI := fun k' j' => if k' = k then 0 else I k' j'
def zL (L : VL) (k : Nat) : VL := fun k' j' => if k' = k then 0 else L k' j'
/-- m rows of zeros from k on -/
def zIs (I : VI) (k m : Nat) : VI := fun k' j' => if k ≤ k' ∧ k' < k + m then 0 else I k' j'
def cpI (I : VI) (a sp b dp n : Nat) : VI := fun k' j' => if k' = b then (if dp ≤ j' ∧ j' < dp + n then I a (sp + (j' - dp)) else I k' j') else I k' j'
def catS : List Value → Nat
  | [] => 0
  | v :: l => v.category + catS l
/-- constants: owner, entry, 0 an int or 1 a long or 2 a text -/
def kcTab : List (Nat × Nat × Value) := [(8, 55, .int 100000), (13, 265, .int 1431655765), (13, 266, .int 858993459), (13, 267, .int 252645135), (13, 264, .int 65536), (10, 340, .long 2), (4, 63, .int 1103515245), (10, 364, .int 2147483647), (11, 125, .int 100000), (11, 388, .int 1103515245), (9, 58, .ref 3), (1, 68, .ref 4), (6, 61, .ref 5)]
def kc (o j : Nat) : Option Value := (kcTab.find? (fun e => e.1 == o && e.2.1 == j)).map (fun e => e.2.2)
/-- new: owner, entry, kind, how many fields -/
def ckTab : List (Nat × Nat × Nat × Nat) := [(12, 8, 10, 16), (10, 7, 8, 7), (10, 16, 9, 10), (10, 26, 1, 3), (10, 36, 0, 3), (10, 46, 6, 8), (10, 57, 2, 4), (10, 69, 3, 7), (10, 78, 5, 12), (5, 15, 7, 2), (10, 87, 4, 4), (12, 109, 11, 43)]
def ck (o j : Nat) : Option (Nat × Nat) := (ckTab.find? (fun e => e.1 == o && e.2.1 == j)).map (fun e => e.2.2)
/-- calls of what isn't walked here: owner, entry, 1 Object.<init>, 2 arraycopy, 3 String.length, 4 String.charAt -/
def spTab : List (Nat × Nat × Nat) := [(10, 1, 1), (8, 3, 1), (9, 3, 1), (1, 3, 1), (1, 25, 2), (0, 3, 1), (6, 3, 1), (2, 5, 1), (3, 5, 1), (5, 3, 1), (7, 5, 1), (4, 1, 1), (3, 47, 2), (8, 63, 3), (8, 68, 4), (9, 43, 2), (2, 49, 2), (0, 22, 2), (11, 1, 1)]
def sp (o j : Nat) : Nat := ((spTab.find? (fun e => e.1 == o && e.2.1 == j)).map (fun e => e.2.2)).getD 0
/-- where a method throws what it makes: method, place, 0 an argument's, 1 no such element -/
def thTab : List (Nat × Nat × Nat) := [(158, 20, 0), (160, 25, 1), (161, 25, 1)]
def th (y pc : Nat) : Option Nat := (thTab.find? (fun e => e.1 == y && e.2.1 == pc)).map (fun e => e.2.2)
/-- what is caught: method, place of the call, class, place behind the handler's store, the local -/
def hnTab : List (Nat × Nat × Nat × Nat × Nat) := [(290, 4, 0, 13, 3), (291, 4, 0, 13, 3), (292, 4, 0, 13, 3), (293, 4, 0, 13, 3), (294, 4, 0, 13, 3), (295, 5, 0, 19, 4), (295, 5, 1, 15, 4), (296, 5, 0, 19, 4), (296, 5, 1, 15, 4), (297, 19, 0, 29, 11), (298, 4, 1, 20, 3), (299, 5, 0, 15, 4), (300, 4, 1, 13, 3), (301, 5, 0, 19, 4), (301, 5, 1, 15, 4), (302, 4, 0, 13, 3), (303, 4, 1, 13, 3), (304, 4, 1, 13, 3), (305, 4, 0, 13, 3), (306, 4, 0, 13, 3), (307, 4, 0, 13, 3), (308, 7, 0, 17, 5), (309, 9, 0, 18, 6), (310, 7, 0, 21, 5), (310, 7, 1, 17, 5), (311, 4, 0, 13, 3), (312, 4, 0, 13, 3), (313, 4, 1, 13, 3), (314, 4, 0, 13, 3), (315, 4, 0, 13, 3), (316, 4, 0, 13, 3), (317, 9, 0, 19, 6), (318, 13, 0, 23, 8)]
def hn (y pc E : Nat) : Option (Nat × Nat) := (hnTab.find? (fun e => e.1 == y && e.2.1 == pc && e.2.2.1 == E)).map (fun e => e.2.2.2)
/-- the texts: their letters -/
def txTab : List (List Int32) := [[104, 111, 117, 115, 101, 32, 100, 101, 98, 116, 32, 102, 108, 111, 117, 114, 32, 119, 97, 116, 101, 114], [119, 101, 105, 103, 104, 116, 32, 107, 105, 110, 100, 32, 97, 103, 101, 32, 112, 114, 105, 100, 101, 32, 109, 111, 117, 116, 104, 115, 32, 111, 119, 101, 100, 32, 111, 116, 104, 101, 114, 115, 32, 104, 117, 110, 103, 101, 114, 32, 100, 101, 98, 116, 32, 108, 101, 97, 115, 116, 32, 109, 111, 115, 116], [103, 114, 105, 110, 100, 32, 102, 111, 114, 103, 105, 118, 101, 32, 115, 119, 101, 108, 108, 32, 103, 105, 118, 101, 32, 114, 97, 105, 110, 32, 100, 97, 121, 32, 97, 103, 97, 105, 110]]
def tx (k : Nat) : List Int32 := txTab.getD (k - 3) []
def tgt (pc : Nat) (off : Int) : Nat := ((pc : Int) + off).toNat
def brR (c : ClassFile.Cond) (x y : Int32) (A B : Prop) : Prop := match c with
  | .eq => if x = y then A else B
  | .ne => if x = y then B else A
  | .lt => if x < y then A else B
  | .ge => if x < y then B else A
  | .gt => if y < x then A else B
  | .le => if y < x then B else A
def swR (ps : List (Int × Int)) (x : Int32) (K : Int → Prop) (dflt : Int) : Prop := match ps with
  | [] => K dflt
  | (a, o) :: r => if x.toInt = a then K o else swR r x K dflt
/-- behind a call: on with the answer, or out, or caught -/
def cont (vt : Bool) (y pc nx : Nat) (ls st : List Value) (K : KK) (r r' : Res) : Prop := match r' with
  | (.inl v, I, L, S) => K nx ls (v.toList ++ st) I L S
  | (.inr E, I, L, S) => vt = true ∧ E < 2 ∧ match hn y pc E with
    | none => mO y < 12 ∧ r = (.inr E, I, L, S)
    | some (h, n) => n < ls.length ∧ K h (ls.set n (.retAddr 0)) [] I L S
def callR (vt : Bool) (C : CC) (y pc nx y' n : Nat) (ls st : List Value) (I : VI) (L : VL) (S : SW) (K : KK) (r : Res) : Prop :=
  n ≤ st.length ∧ catS (st.drop n) ≤ 8 ∧ ∃ r', C y' (st.take n).reverse I L S r' ∧ cont vt y pc nx ls (st.drop n) K r r'
def grow (S : SW) (c : Nat × Nat × List Nat) (n : Nat) : SW := (S.1 ++ [c], S.2.1, S.2.2.1 + 1, S.2.2.2 + n)
def growM (S : SW) (n m : Nat) : SW := (S.1 ++ (103, n, (List.range n).map (fun i => S.1.length + 1 + i)) :: List.replicate n (100, m, []), S.2.1, S.2.2.1 + 1 + n, S.2.2.2 + n + n * m)
def setR (S : SW) (k f a : Nat) : SW := (S.1.set k ((S.1.getD k (999, 0, [])).1, (S.1.getD k (999, 0, [])).2.1, (S.1.getD k (999, 0, [])).2.2.set f a), S.2)
def bump (S : SW) : SW := (S.1, false, S.2.2.1 + 1, S.2.2.2 + 6)
def atTag : ArrayType → Nat
  | .int => 100
  | .byte => 101
  | .long => 102
  | _ => 998
/-- one instruction: what must hold of the state behind it -/
def stepI (C : CC) (y pc nx : Nat) (i : Instr) (ls st : List Value) (I : VI) (L : VL) (S : SW) (K : KK) (r : Res) : Prop :=
  match i with
  | .iconst v => K nx ls (.int (Int32.ofInt v) :: st) I L S
  | .bipush v => K nx ls (.int (Int8.ofInt v).toInt32 :: st) I L S
  | .sipush v => K nx ls (.int (Int16.ofInt v).toInt32 :: st) I L S
  | .lconst v => K nx ls (.long (Int64.ofNat v.val) :: st) I L S
  | .ldc j => match kc (mO y) j with
    | some (.int v) => K nx ls (.int v :: st) I L S
    | some (.ref k) => K nx ls (.ref k :: st) I L S
    | _ => False
  | .ldc_w j => match kc (mO y) j with
    | some (.int v) => K nx ls (.int v :: st) I L S
    | _ => False
  | .ldc2_w j => match kc (mO y) j with
    | some (.long v) => K nx ls (.long v :: st) I L S
    | _ => False
  | .iload_n k => match ls[k.val]? with
    | some (.int x) => K nx ls (.int x :: st) I L S
    | _ => False
  | .iload k => match ls[k]? with
    | some (.int x) => K nx ls (.int x :: st) I L S
    | _ => False
  | .aload_n k => match ls[k.val]? with
    | some (.ref x) => K nx ls (.ref x :: st) I L S
    | _ => False
  | .aload k => match ls[k]? with
    | some (.ref x) => K nx ls (.ref x :: st) I L S
    | _ => False
  | .lload_n k => match ls[k.val]?, ls[k.val + 1]? with
    | some (.long x), some (.retAddr 1) => K nx ls (.long x :: st) I L S
    | _, _ => False
  | .lload k => match ls[k]?, ls[k + 1]? with
    | some (.long x), some (.retAddr 1) => K nx ls (.long x :: st) I L S
    | _, _ => False
  | .istore_n k => match st with
    | .int x :: st => k.val < ls.length ∧ K nx (ls.set k.val (.int x)) st I L S
    | _ => False
  | .istore k => match st with
    | .int x :: st => k < ls.length ∧ K nx (ls.set k (.int x)) st I L S
    | _ => False
  | .astore_n k => match st with
    | .ref x :: st => k.val < ls.length ∧ K nx (ls.set k.val (.ref x)) st I L S
    | _ => False
  | .astore k => match st with
    | .ref x :: st => k < ls.length ∧ K nx (ls.set k (.ref x)) st I L S
    | _ => False
  | .lstore_n k => match st with
    | .long x :: st => k.val + 1 < ls.length ∧ K nx ((ls.set k.val (.long x)).set (k.val + 1) (.retAddr 1)) st I L S
    | _ => False
  | .lstore k => match st with
    | .long x :: st => k + 1 < ls.length ∧ K nx ((ls.set k (.long x)).set (k + 1) (.retAddr 1)) st I L S
    | _ => False
  | .iinc k n => match ls[k]? with
    | some (.int x) => K nx (ls.set k (.int (x + Int32.ofInt n))) st I L S
    | _ => False
  | .iadd => match st with
    | .int b :: .int a :: st => K nx ls (.int (a + b) :: st) I L S
    | _ => False
  | .isub => match st with
    | .int b :: .int a :: st => K nx ls (.int (a - b) :: st) I L S
    | _ => False
  | .imul => match st with
    | .int b :: .int a :: st => K nx ls (.int (a * b) :: st) I L S
    | _ => False
  | .idiv => match st with
    | .int b :: .int a :: st => ¬ b = 0 ∧ K nx ls (.int (a / b) :: st) I L S
    | _ => False
  | .irem => match st with
    | .int b :: .int a :: st => ¬ b = 0 ∧ K nx ls (.int (a - a / b * b) :: st) I L S
    | _ => False
  | .ineg => match st with
    | .int a :: st => K nx ls (.int (-a) :: st) I L S
    | _ => False
  | .iand => match st with
    | .int b :: .int a :: st => K nx ls (.int (a &&& b) :: st) I L S
    | _ => False
  | .ior => match st with
    | .int b :: .int a :: st => K nx ls (.int (a ||| b) :: st) I L S
    | _ => False
  | .ixor => match st with
    | .int b :: .int a :: st => K nx ls (.int (a ^^^ b) :: st) I L S
    | _ => False
  | .ishl => match st with
    | .int b :: .int a :: st => K nx ls (.int (a <<< (b &&& 31)) :: st) I L S
    | _ => False
  | .ishr => match st with
    | .int b :: .int a :: st => K nx ls (.int (a >>> (b &&& 31)) :: st) I L S
    | _ => False
  | .iushr => match st with
    | .int b :: .int a :: st => K nx ls (.int (a.toUInt32 >>> (b.toUInt32 &&& Int32.toUInt32 31)).toInt32 :: st) I L S
    | _ => False
  | .ladd => match st with
    | .long b :: .long a :: st => K nx ls (.long (a + b) :: st) I L S
    | _ => False
  | .lmul => match st with
    | .long b :: .long a :: st => K nx ls (.long (a * b) :: st) I L S
    | _ => False
  | .ldiv => match st with
    | .long b :: .long a :: st => ¬ b = 0 ∧ K nx ls (.long (a / b) :: st) I L S
    | _ => False
  | .lrem => match st with
    | .long b :: .long a :: st => ¬ b = 0 ∧ K nx ls (.long (a - a / b * b) :: st) I L S
    | _ => False
  | .lshl => match st with
    | .int b :: .long a :: st => K nx ls (.long (a <<< (b.toInt64 &&& 63)) :: st) I L S
    | _ => False
  | .lcmp => match st with
    | .long b :: .long a :: st => K nx ls (.int (lg_cmp a b) :: st) I L S
    | _ => False
  | .i2l => match st with
    | .int a :: st => K nx ls (.long a.toInt64 :: st) I L S
    | _ => False
  | .i2b => match st with
    | .int a :: st => K nx ls (.int a.toInt8.toInt32 :: st) I L S
    | _ => False
  | .dup => match st with
    | v :: st => v.category = 1 ∧ K nx ls (v :: v :: st) I L S
    | _ => False
  | .pop => match st with
    | v :: st => v.category = 1 ∧ K nx ls st I L S
    | _ => False
  | .dup2 => match st with
    | v :: w :: st => v.category = 1 ∧ w.category = 1 ∧ K nx ls (v :: w :: v :: w :: st) I L S
    | _ => False
  | .goto o => 0 ≤ (pc : Int) + o ∧ K (tgt pc o) ls st I L S
  | .ifCond c o => match st with
    | .int a :: st => 0 ≤ (pc : Int) + o ∧ brR c a 0 (K (tgt pc o) ls st I L S) (K nx ls st I L S)
    | _ => False
  | .if_icmp c o => match st with
    | .int b :: .int a :: st => 0 ≤ (pc : Int) + o ∧ brR c a b (K (tgt pc o) ls st I L S) (K nx ls st I L S)
    | _ => False
  | .tableswitch d lo hi offs => match st with
    | .int x :: st => if x.toInt < lo ∨ hi < x.toInt then 0 ≤ (pc : Int) + d ∧ K (tgt pc d) ls st I L S else match offs[(x.toInt - lo).toNat]? with
      | some o => 0 ≤ (pc : Int) + o ∧ K (tgt pc o) ls st I L S
      | none => False
    | _ => False
  | .lookupswitch d ps => match st with
    | .int x :: st => (ps.toList.zip (ps.toList.drop 1)).all (fun (a, next) => a.1 < next.1) = true ∧ swR ps.toList x (fun o => 0 ≤ (pc : Int) + o ∧ K (tgt pc o) ls st I L S) d
    | _ => False
  | .getfield j => match fk (mO y) j, st with
    | some (_, _, ci, f, ty, _, _), .ref k :: st => tagW S.1 k = ci ∧ (if ty = 0 then K nx ls (.int (I k f) :: st) I L S else K nx ls (rv (refW S.1 k f) :: st) I L S)
    | _, _ => False
  | .putfield j => match fk (mO y) j, st with
    | some (_, _, ci, f, ty, _, _), .int x :: .ref k :: st => tagW S.1 k = ci ∧ ty = 0 ∧ 16 ≤ k ∧ K nx ls st (u2 I k f x) L S
    | some (_, _, ci, f, ty, nest, _), .ref a :: .ref k :: st => tagW S.1 k = ci ∧ ¬ ty = 0 ∧ nest = 0 ∧ 16 ≤ k ∧ a ≠ 0 ∧ a < S.1.length ∧ (mY y).name = "<init>" ∧ mO y = ci ∧ K nx ls st I L (setR S k f a)
    | _, _ => False
  | .iaload => match st with
    | .int j :: .ref k :: st => tagW S.1 k = 100 ∧ vp_in j (lenW S.1 k) ∧ K nx ls (.int (I k j.toNatClampNeg) :: st) I L S
    | _ => False
  | .iastore => match st with
    | .int x :: .int j :: .ref k :: st => tagW S.1 k = 100 ∧ 16 ≤ k ∧ vp_in j (lenW S.1 k) ∧ K nx ls st (u2 I k j.toNatClampNeg x) L S
    | _ => False
  | .baload => match st with
    | .int j :: .ref k :: st => tagW S.1 k = 101 ∧ 16 ≤ k ∧ vp_in j (lenW S.1 k) ∧ K nx ls (.int (I k j.toNatClampNeg) :: st) I L S
    | _ => False
  | .bastore => match st with
    | .int x :: .int j :: .ref k :: st => tagW S.1 k = 101 ∧ 16 ≤ k ∧ vp_in j (lenW S.1 k) ∧ K nx ls st (u2 I k j.toNatClampNeg x.toInt8.toInt32) L S
    | _ => False
  | .laload => match st with
    | .int j :: .ref k :: st => tagW S.1 k = 102 ∧ 16 ≤ k ∧ vp_in j (lenW S.1 k) ∧ K nx ls (.long (L k j.toNatClampNeg) :: st) I L S
    | _ => False
  | .lastore => match st with
    | .long x :: .int j :: .ref k :: st => tagW S.1 k = 102 ∧ 16 ≤ k ∧ vp_in j (lenW S.1 k) ∧ K nx ls st I (uL L k j.toNatClampNeg x) S
    | _ => False
  | .aaload => match st with
    | .int j :: .ref k :: st => tagW S.1 k = 103 ∧ 16 ≤ k ∧ vp_in j (lenW S.1 k) ∧ K nx ls (rv (refW S.1 k j.toNatClampNeg) :: st) I L S
    | _ => False
  | .arraylength => match st with
    | .ref k :: st => (100 ≤ tagW S.1 k ∧ tagW S.1 k ≤ 103) ∧ K nx ls (.int (Int32.ofNat (lenW S.1 k)) :: st) I L S
    | _ => False
  | .getstatic j => mO y = 1 ∧ j = 22 ∧ K nx ls (.ref 2 :: st) I L S
  | .new j => match th y pc with
    | some E => catS st ≤ 8 ∧ r = (.inr E, I, L, bump S)
    | none => match ck (mO y) j with
      | some (ci, n) => S.2.1 = true ∧ K nx ls (.ref S.1.length :: st) (zI I S.1.length) L (grow S (ci, n, List.replicate n 0) n)
      | none => False
  | .newarray a => match st with
    | .int n :: st => S.2.1 = true ∧ ¬ n < 0 ∧ n.toNatClampNeg ≤ 60000000 ∧ atTag a < 103 ∧ K nx ls (.ref S.1.length :: st) (zI I S.1.length) (zL L S.1.length) (grow S (atTag a, n.toNatClampNeg, []) n.toNatClampNeg)
    | _ => False
  | .multianewarray j d => match st with
    | .int m :: .int n :: st => d = 2 ∧ mO y = 11 ∧ j = 29 ∧ S.2.1 = true ∧ ¬ n < 0 ∧ ¬ m < 0 ∧ n.toNatClampNeg ≤ 60000 ∧ m.toNatClampNeg ≤ 60000 ∧ K nx ls (.ref S.1.length :: st) (zIs I S.1.length (n.toNatClampNeg + 1)) L (growM S n.toNatClampNeg m.toNatClampNeg)
    | _ => False
  | .invokestatic j => if sp (mO y) j = 2 then (match st with
      | .int n :: .int dp :: .ref b :: .int s0 :: .ref a :: st => (tagW S.1 a = 100 ∧ (16 ≤ a ∨ a = 2)) ∧ (tagW S.1 b = 100 ∧ 16 ≤ b) ∧ catS st ≤ 8 ∧ (¬ s0 < 0 ∧ ¬ dp < 0 ∧ ¬ n < 0) ∧ s0.toNatClampNeg + n.toNatClampNeg ≤ lenW S.1 a ∧ dp.toNatClampNeg + n.toNatClampNeg ≤ lenW S.1 b ∧ K nx ls st (cpI I a s0.toNatClampNeg b dp.toNatClampNeg n.toNatClampNeg) L S
      | _ => False) else match mk (mO y) j with
    | some (_, _, y', kd, _, _) => kd = 2 ∧ callR false C y pc nx y' (mP y') ls st I L S K r
    | none => False
  | .invokevirtual j => if sp (mO y) j = 3 then (match st with
      | .ref k :: st => (3 ≤ k ∧ k < 6) ∧ catS st ≤ 8 ∧ K nx ls (.int (Int32.ofNat (tx k).length) :: st) I L S
      | _ => False) else if sp (mO y) j = 4 then (match st with
      | .int j :: .ref k :: st => (3 ≤ k ∧ k < 6) ∧ catS st ≤ 8 ∧ vp_in j (tx k).length ∧ K nx ls (.int ((tx k).getD j.toNatClampNeg 0) :: st) I L S
      | _ => False) else match mk (mO y) j with
    | some (_, _, y', kd, _, _) => kd = 0 ∧ (∃ b, st[mP y']? = some (.ref b) ∧ tagW S.1 b = mO y') ∧ callR true C y pc nx y' (mP y' + 1) ls st I L S K r
    | none => False
  | .invokespecial j => if sp (mO y) j = 1 then (match st with
      | .ref k :: st => catS st ≤ 8 ∧ tagW S.1 k < 12 ∧ K nx ls st I L S
      | _ => False) else match mk (mO y) j with
    | some (_, _, y', kd, _, _) => kd = 1 ∧ (∃ b, st[mP y']? = some (.ref b) ∧ tagW S.1 b = mO y') ∧ callR false C y pc nx y' (mP y' + 1) ls st I L S K r
    | none => False
  | .ireturn => match st with
    | [.int v] => (match mR y with
      | some ty => narrow ty (.int v) = .int v
      | none => False) ∧ r = (.inl (some (.int v)), I, L, S)
    | _ => False
  | .lreturn => match st with
    | [.long v] => mR y = some .long ∧ r = (.inl (some (.long v)), I, L, S)
    | _ => False
  | .return_ => match st with
    | [] => mR y = none ∧ r = (.inl none, I, L, S)
    | _ => False
  | _ => False
/-- how many bytes an instruction takes -/
def ilen (i : Instr) (n : Nat) : Bool := match i with
  | .bipush _ | .iload _ | .istore _ | .aload _ | .astore _ | .lload _ | .lstore _ | .ldc _ | .newarray _ => n == 2
  | .sipush _ | .ldc_w _ | .ldc2_w _ | .iinc _ _ | .goto _ | .ifCond _ _ | .if_icmp _ _ | .getfield _ | .putfield _ | .getstatic _ | .invokestatic _ | .invokevirtual _ | .invokespecial _ | .new _ => n == 3
  | .multianewarray _ _ => n == 4
  | .tableswitch _ _ _ _ | .lookupswitch _ _ => true
  | _ => n == 1
def stepR (C : CC) (y pc : Nat) (ls st : List Value) (I : VI) (L : VL) (S : SW) (K : KK) (r : Res) : Prop :=
  match decode (mB y) pc with
  | .ok (i, n) => ilen i n = true ∧ stepI C y pc (pc + n) i ls st I L S K r
  | _ => False
def closed (C : CC) (y : Nat) (r : Res) (P : KK) : Prop := ∀ (pc : Nat) (ls st : List Value) (I : VI) (L : VL) (S : SW), stepR C y pc ls st I L S P r → P pc ls st I L S
def EvC (C : CC) (y : Nat) (r : Res) : KK := fun pc ls st I L S => ∀ P : KK, closed C y r P → P pc ls st I L S
def EvD : Nat → CC
  | 0 => fun _ _ _ _ _ _ => False
  | d + 1 => fun y as I L S r => as.length ≤ mL y ∧ catS as = as.length ∧ EvC (EvD d) y r 0 (as ++ List.replicate (mL y - as.length) (.retAddr 0)) [] I L S
def Ev (d y pc : Nat) (ls st : List Value) (I : VI) (L : VL) (S : SW) (r : Res) : Prop := EvC (EvD d) y r pc ls st I L S
