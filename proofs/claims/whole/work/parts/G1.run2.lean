theorem n1K {k : Nat} (h : 16 ≤ k) : k ≠ 1 := by omega
theorem n2K {k : Nat} (h : 16 ≤ k ∨ k = 2) : k ≠ 1 := by omega
def stF (y pc nx : Nat) (i : Instr) (ls st : List Value) (m : MM) : Option (Nat × List Value × List Value × MM) :=
  match i with
  | .iconst v => some (nx, ls, .int (Int32.ofInt v) :: st, m)
  | .bipush v => some (nx, ls, .int (Int8.ofInt v).toInt32 :: st, m)
  | .sipush v => some (nx, ls, .int (Int16.ofInt v).toInt32 :: st, m)
  | .iload_n k => match ls[k.val]? with
    | some (.int x) => some (nx, ls, .int x :: st, m)
    | _ => none
  | .iload k => match ls[k]? with
    | some (.int x) => some (nx, ls, .int x :: st, m)
    | _ => none
  | .aload_n k => match ls[k.val]? with
    | some (.ref x) => some (nx, ls, .ref x :: st, m)
    | _ => none
  | .istore_n k => match st with
    | .int x :: st => if k.val < ls.length then some (nx, ls.set k.val (.int x), st, m) else none
    | _ => none
  | .istore k => match st with
    | .int x :: st => if k < ls.length then some (nx, ls.set k (.int x), st, m) else none
    | _ => none
  | .iinc k q => match ls[k]? with
    | some (.int x) => some (nx, ls.set k (.int (x + Int32.ofInt q)), st, m)
    | _ => none
  | .iadd => match st with
    | .int b :: .int a :: st => some (nx, ls, .int (a + b) :: st, m)
    | _ => none
  | .dup => match st with
    | v :: st => if v.category = 1 then some (nx, ls, v :: v :: st, m) else none
    | _ => none
  | .goto o => if 0 ≤ (pc : Int) + o then some (tgt pc o, ls, st, m) else none
  | .if_icmp .ge o => match st with
    | .int b :: .int a :: st => if 0 ≤ (pc : Int) + o then (if a < b then some (nx, ls, st, m) else some (tgt pc o, ls, st, m)) else none
    | _ => none
  | .getfield j => match fk (mO y) j, st with
    | some (_, _, ci, f, ty, _, _), .ref k :: st => if tagW (w16 0 ++ m.2.1) k = ci then (if ty = 0 then (match lk m.1 k f with
      | some v => some (nx, ls, .int v :: st, m)
      | none => none) else some (nx, ls, rv (refW (w16 0 ++ m.2.1) k f) :: st, m)) else none
    | _, _ => none
  | .putfield j => match fk (mO y) j, st with
    | some (_, _, ci, f, ty, _, _), .int x :: .ref k :: st => if tagW (w16 0 ++ m.2.1) k = ci ∧ ty = 0 ∧ 16 ≤ k then some (nx, ls, st, ((k, f, x) :: m.1, m.2)) else none
    | some (_, _, ci, f, ty, nest, _), .ref a :: .ref k :: st => if tagW (w16 0 ++ m.2.1) k = ci ∧ ¬ ty = 0 ∧ nest = 0 ∧ 16 ≤ k ∧ a ≠ 0 ∧ a < 16 + m.2.1.length ∧ (mY y).name = "<init>" ∧ mO y = ci then some (nx, ls, st, (m.1, m.2.1.set (k - 16) (((w16 0 ++ m.2.1).getD k (999, 0, [])).1, ((w16 0 ++ m.2.1).getD k (999, 0, [])).2.1, ((w16 0 ++ m.2.1).getD k (999, 0, [])).2.2.set f a), m.2.2)) else none
    | _, _ => none
  | .iaload => match st with
    | .int j :: .ref k :: st => if tagW (w16 0 ++ m.2.1) k = 100 ∧ k ≠ 1 ∧ (¬ j < 0 ∧ j.toNatClampNeg < lenW (w16 0 ++ m.2.1) k) then (match lk m.1 k j.toNatClampNeg with
      | some v => some (nx, ls, .int v :: st, m)
      | none => none) else none
    | _ => none
  | .iastore => match st with
    | .int x :: .int j :: .ref k :: st => if tagW (w16 0 ++ m.2.1) k = 100 ∧ 16 ≤ k ∧ (¬ j < 0 ∧ j.toNatClampNeg < lenW (w16 0 ++ m.2.1) k) then some (nx, ls, st, ((k, j.toNatClampNeg, x) :: m.1, m.2)) else none
    | _ => none
  | .aaload => match st with
    | .int j :: .ref k :: st => if tagW (w16 0 ++ m.2.1) k = 103 ∧ 16 ≤ k ∧ (¬ j < 0 ∧ j.toNatClampNeg < lenW (w16 0 ++ m.2.1) k) then some (nx, ls, rv (refW (w16 0 ++ m.2.1) k j.toNatClampNeg) :: st, m) else none
    | _ => none
  | .arraylength => match st with
    | .ref k :: st => if (100 ≤ tagW (w16 0 ++ m.2.1) k ∧ tagW (w16 0 ++ m.2.1) k ≤ 103) ∧ k ≠ 1 then some (nx, ls, .int (Int32.ofNat (lenW (w16 0 ++ m.2.1) k)) :: st, m) else none
    | _ => none
  | .getstatic j => if mO y = 1 ∧ j = 22 then some (nx, ls, .ref 2 :: st, m) else none
  | .new j => match th y pc with
    | some _ => none
    | none => match ck (mO y) j with
      | some (ci, q) => if frs m.1 (16 + m.2.1.length) = true then some (nx, ls, .ref (16 + m.2.1.length) :: st, (m.1, m.2.1 ++ [(ci, q, List.replicate q 0)], m.2.2.1 + 1, m.2.2.2 + q)) else none
      | none => none
  | .newarray a => match st with
    | .int q :: st => if frs m.1 (16 + m.2.1.length) = true ∧ ¬ q < 0 ∧ q.toNatClampNeg ≤ 60000000 ∧ atTag a < 103 then some (nx, ls, .ref (16 + m.2.1.length) :: st, (m.1, m.2.1 ++ [(atTag a, q.toNatClampNeg, [])], m.2.2.1 + 1, m.2.2.2 + q.toNatClampNeg)) else none
    | _ => none
  | .multianewarray j d => match st with
    | .int u :: .int v :: st => if frs m.1 (16 + m.2.1.length) = true ∧ d = 2 ∧ mO y = 11 ∧ j = 29 ∧ ¬ v < 0 ∧ ¬ u < 0 ∧ v.toNatClampNeg ≤ 60000 ∧ u.toNatClampNeg ≤ 60000 then some (nx, ls, .ref (16 + m.2.1.length) :: st, (m.1, m.2.1 ++ (103, v.toNatClampNeg, (List.range v.toNatClampNeg).map (fun i => 16 + m.2.1.length + 1 + i)) :: List.replicate v.toNatClampNeg (100, u.toNatClampNeg, []), m.2.2.1 + 1 + v.toNatClampNeg, m.2.2.2 + v.toNatClampNeg + v.toNatClampNeg * u.toNatClampNeg)) else none
    | _ => none
  | .invokestatic j => if sp (mO y) j = 2 then (match st with
    | .int q :: .int dp :: .ref b :: .int s0 :: .ref a :: st => if (tagW (w16 0 ++ m.2.1) a = 100 ∧ (16 ≤ a ∨ a = 2)) ∧ (tagW (w16 0 ++ m.2.1) b = 100 ∧ 16 ≤ b) ∧ catS st ≤ 8 ∧ (¬ s0 < 0 ∧ ¬ dp < 0 ∧ ¬ q < 0) ∧ s0.toNatClampNeg + q.toNatClampNeg ≤ lenW (w16 0 ++ m.2.1) a ∧ dp.toNatClampNeg + q.toNatClampNeg ≤ lenW (w16 0 ++ m.2.1) b then (match cpA m.1 a s0.toNatClampNeg b dp.toNatClampNeg q.toNatClampNeg with
      | some A => some (nx, ls, st, (A, m.2))
      | none => none) else none
    | _ => none) else none
  | .invokespecial j => if sp (mO y) j = 1 then (match st with
    | .ref k :: st => if catS st ≤ 8 ∧ tagW (w16 0 ++ m.2.1) k < 12 then some (nx, ls, st, m) else none
    | _ => none) else none
  | _ => none
theorem stF_s {C : CC} {K : KK} {r : Res} {n y pc nx pc' : Nat} {xs : Nat → Int32} {i : Instr} {ls st ls' st' : List Value} {m m' : MM} (h : stF y pc nx i ls st m = some (pc', ls', st', m')) (hK : K pc' ls' st' (IA xs m'.1) LZ (SS n m')) : stepI C y pc nx i ls st (IA xs m.1) LZ (SS n m) K r := by
  cases i
  case iconst v => injection h with h; cases h; exact hK
  case bipush v => injection h with h; cases h; exact hK
  case sipush v => injection h with h; cases h; exact hK
  case iload_n k =>
    simp only [stF] at h; simp only [stepI]
    split at h
    · rename_i e; rw [e]; cases h; exact hK
    · cases h
  case iload k =>
    simp only [stF] at h; simp only [stepI]
    split at h
    · rename_i e; rw [e]; cases h; exact hK
    · cases h
  case aload_n k =>
    simp only [stF] at h; simp only [stepI]
    split at h
    · rename_i e; rw [e]; cases h; exact hK
    · cases h
  case istore_n k =>
    simp only [stF] at h; simp only [stepI]
    split at h
    · split at h
      · rename_i e; cases h; exact ⟨e, hK⟩
      · cases h
    · cases h
  case istore k =>
    simp only [stF] at h; simp only [stepI]
    split at h
    · split at h
      · rename_i e; cases h; exact ⟨e, hK⟩
      · cases h
    · cases h
  case iinc k q =>
    simp only [stF] at h; simp only [stepI]
    split at h
    · rename_i e; rw [e]; cases h; exact hK
    · cases h
  case iadd =>
    simp only [stF] at h; simp only [stepI]
    split at h
    · cases h; exact hK
    · cases h
  case dup =>
    simp only [stF] at h; simp only [stepI]
    split at h
    · split at h
      · rename_i e; cases h; exact ⟨e, hK⟩
      · cases h
    · cases h
  case goto o =>
    simp only [stF] at h; simp only [stepI]
    split at h
    · rename_i e; cases h; exact ⟨e, hK⟩
    · cases h
  case if_icmp c o =>
    cases c <;> try (simp only [stF] at h; cases h)
    simp only [stF] at h; simp only [stepI]
    split at h
    · split at h
      · rename_i e
        refine ⟨e, ?_⟩
        unfold brR
        dsimp only
        split at h
        · rename_i e2; rw [if_pos e2]; cases h; exact hK
        · rename_i e2; rw [if_neg e2]; cases h; exact hK
      · cases h
    · cases h
  case getfield j =>
    simp only [stF] at h; simp only [stepI]
    split at h
    · rename_i ef
      rw [ef]
      split at h
      · rename_i e
        refine ⟨(w16_tag (n := n)).trans e, ?_⟩
        split at h
        · rename_i e2
          rw [if_pos e2]
          split at h
          · rename_i e3; rw [lk_s e3]; cases h; exact hK
          · cases h
        · rename_i e2
          rw [if_neg e2]
          show K _ _ (rv (refW (w16 n ++ m.2.1) _ _) :: _) _ _ _
          rw [w16_ref]; cases h; exact hK
      · cases h
    · cases h
  case putfield j =>
    simp only [stF] at h; simp only [stepI]
    split at h
    · rename_i ef
      rw [ef]
      split at h
      · rename_i e
        cases h
        exact ⟨(w16_tag (n := n)).trans e.1, e.2.1, e.2.2, hK⟩
      · cases h
    · rename_i ef
      rw [ef]
      split at h
      · rename_i e
        obtain ⟨e1, e2, e3, e4, e5, e6, e7, e8⟩ := e
        cases h
        refine ⟨(w16_tag (n := n)).trans e1, e2, e3, e4, e5, ?_, e7, e8, ?_⟩
        · show _ < (w16 n ++ m.2.1).length
          rw [List.length_append, w16_len]; exact e6
        · unfold SS setR at *
          dsimp only at *
          rw [w16_set e4, w16_get (n1K e4)]
          exact hK
      · cases h
    · cases h
  case iaload =>
    simp only [stF] at h; simp only [stepI]
    split at h
    · split at h
      · rename_i e
        split at h
        · rename_i e3
          cases h
          refine ⟨(w16_tag (n := n)).trans e.1, ?_, by rw [lk_s e3]; exact hK⟩
          refine vpi ?_
          unfold SS
          rw [w16_lw e.2.1]
          exact e.2.2
        · cases h
      · cases h
    · cases h
  case iastore =>
    simp only [stF] at h; simp only [stepI]
    split at h
    · split at h
      · rename_i e
        cases h
        refine ⟨(w16_tag (n := n)).trans e.1, e.2.1, ?_, hK⟩
        have e2 := e.2.1
        refine vpi ?_
        unfold SS
        rw [w16_lw (n1K e2)]
        exact e.2.2
      · cases h
    · cases h
  case aaload =>
    simp only [stF] at h; simp only [stepI]
    split at h
    · split at h
      · rename_i e
        cases h
        refine ⟨(w16_tag (n := n)).trans e.1, e.2.1, ?_, ?_⟩
        · have e2 := e.2.1
          refine vpi ?_
          unfold SS
          rw [w16_lw (n1K e2)]
          exact e.2.2
        · show K _ _ (rv (refW (w16 n ++ _) _ _) :: _) _ _ _
          rw [w16_ref]; exact hK
      · cases h
    · cases h
  case arraylength =>
    simp only [stF] at h; simp only [stepI]
    split at h
    · split at h
      · rename_i e
        cases h
        refine ⟨⟨Nat.le_trans e.1.1 (Nat.le_of_eq (w16_tag (n := n)).symm), Nat.le_trans (Nat.le_of_eq (w16_tag (n := n))) e.1.2⟩, ?_⟩
        show K _ _ (.int (Int32.ofNat (lenW (w16 n ++ _) _)) :: _) _ _ _
        rw [w16_lw e.2]; exact hK
      · cases h
    · cases h
  case getstatic j =>
    simp only [stF] at h; simp only [stepI]
    split at h
    · rename_i e; cases h; exact ⟨e.1, e.2, hK⟩
    · cases h
  case new j =>
    simp only [stF] at h; simp only [stepI]
    split at h
    · cases h
    · rename_i et
      rw [et]
      split at h
      · rename_i ec
        rw [ec]
        split at h
        · rename_i e
          cases h
          have el : (SS n m).1.length = 16 + m.2.1.length := by unfold SS; rw [List.length_append, w16_len]
          refine ⟨rfl, ?_⟩
          rw [el, frs_zI (by omega) e]
          unfold grow SS at *
          dsimp only at *
          rw [List.append_assoc]
          exact hK
        · cases h
      · cases h
  case newarray a =>
    simp only [stF] at h; simp only [stepI]
    split at h
    · split at h
      · rename_i e
        cases h
        have el : (SS n m).1.length = 16 + m.2.1.length := by unfold SS; rw [List.length_append, w16_len]
        refine ⟨rfl, e.2.1, e.2.2.1, e.2.2.2, ?_⟩
        rw [el, frs_zI (by omega) e.1, zL_z]
        unfold grow SS at *
        dsimp only at *
        rw [List.append_assoc]
        exact hK
      · cases h
    · cases h
  case multianewarray j d =>
    simp only [stF] at h; simp only [stepI]
    split at h
    · split at h
      · rename_i e
        obtain ⟨e0, e1, e2, e3, e4, e5, e6, e7⟩ := e
        cases h
        have el : (SS n m).1.length = 16 + m.2.1.length := by unfold SS; rw [List.length_append, w16_len]
        refine ⟨e1, e2, e3, rfl, e4, e5, e6, e7, ?_⟩
        unfold growM
        rw [el, frs_zIs (by omega) e0]
        unfold SS at *
        dsimp only at *
        rw [List.append_assoc]
        exact hK
      · cases h
    · cases h
  case invokestatic j =>
    simp only [stF] at h; simp only [stepI]
    split at h
    · rename_i es
      rw [if_pos es]
      split at h
      · split at h
        · rename_i e
          split at h
          · rename_i A e9
            obtain ⟨⟨e1, e2⟩, ⟨e3, e4⟩, e5, e6, e7, e8⟩ := e
            cases h
            refine ⟨⟨(w16_tag (n := n)).trans e1, e2⟩, ⟨(w16_tag (n := n)).trans e3, e4⟩, e5, e6, ?_, ?_, ?_⟩
            · unfold SS; rw [w16_lw (n2K e2)]; exact e7
            · unfold SS; rw [w16_lw (n1K e4)]; exact e8
            · rw [cpA_s e9]; exact hK
          · cases h
        · cases h
      · cases h
    · cases h
  case invokespecial j =>
    simp only [stF] at h; simp only [stepI]
    split at h
    · rename_i es
      rw [if_pos es]
      split at h
      · split at h
        · rename_i e
          cases h
          exact ⟨e.1, Nat.lt_of_le_of_lt (Nat.le_of_eq (w16_tag (n := n))) e.2, hK⟩
        · cases h
      · cases h
    · cases h
  all_goals (simp only [stF] at h; cases h)
