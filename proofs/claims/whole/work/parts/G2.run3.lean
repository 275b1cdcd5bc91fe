def tgF (st : List Value) (T : List (Nat × Nat × List Nat)) (y' : Nat) : Bool := match st[mP y']? with
  | some (.ref b) => decide (tagW (w16 0 ++ T) b = mO y')
  | _ => false
/-- a call: whom, and how many operands -/
def clF (y : Nat) (i : Instr) (st : List Value) (T : List (Nat × Nat × List Nat)) : Option (Nat × Nat) := match i with
  | .invokestatic j => if sp (mO y) j = 2 then none else match mk (mO y) j with
    | some (_, _, y', kd, _, _) => if kd = 2 then some (y', mP y') else none
    | none => none
  | .invokevirtual j => if sp (mO y) j = 3 then none else if sp (mO y) j = 4 then none else match mk (mO y) j with
    | some (_, _, y', kd, _, _) => if kd = 0 ∧ tgF st T y' = true then some (y', mP y' + 1) else none
    | none => none
  | .invokespecial j => if sp (mO y) j = 1 then none else match mk (mO y) j with
    | some (_, _, y', kd, _, _) => if kd = 1 ∧ tgF st T y' = true then some (y', mP y' + 1) else none
    | none => none
  | _ => none
theorem tgF_s {n : Nat} {st : List Value} {m : MM} {y' : Nat} (h : tgF st m.2.1 y' = true) : ∃ b, st[mP y']? = some (.ref b) ∧ tagW (SS n m).1 b = mO y' := by
  unfold tgF at h
  split at h
  · rename_i b e; exact ⟨b, e, (w16_tag (n := n)).trans (of_decide_eq_true h)⟩
  · cases h
theorem clF_s {C : CC} {K : KK} {r : Res} {n y pc nx y' k : Nat} {I I' : VI} {i : Instr} {ls st : List Value} {m m' : MM} (h : clF y i st m.2.1 = some (y', k)) (h1 : k ≤ st.length) (h2 : catS (st.drop k) ≤ 8) (h3 : C y' (st.take k).reverse I LZ (SS n m) (.inl none, I', LZ, SS n m')) (hK : K nx ls (st.drop k) I' LZ (SS n m')) : stepI C y pc nx i ls st I LZ (SS n m) K r := by
  cases i
  case invokestatic j =>
    simp only [clF] at h; simp only [stepI]
    split at h
    · cases h
    · rename_i es
      rw [if_neg es]
      split at h
      · rename_i em
        rw [em]
        split at h
        · rename_i e
          cases h
          exact ⟨e, h1, h2, _, h3, hK⟩
        · cases h
      · cases h
  case invokevirtual j =>
    simp only [clF] at h; simp only [stepI]
    split at h
    · cases h
    · rename_i es
      rw [if_neg es]
      split at h
      · cases h
      · rename_i es2
        rw [if_neg es2]
        split at h
        · rename_i em
          rw [em]
          split at h
          · rename_i e
            cases h
            exact ⟨e.1, tgF_s e.2, h1, h2, _, h3, hK⟩
          · cases h
        · cases h
  case invokespecial j =>
    simp only [clF] at h; simp only [stepI]
    split at h
    · cases h
    · rename_i es
      rw [if_neg es]
      split at h
      · rename_i em
        rw [em]
        split at h
        · rename_i e
          cases h
          exact ⟨e.1, tgF_s e.2, h1, h2, _, h3, hK⟩
        · cases h
      · cases h
  all_goals (simp only [clF] at h; cases h)
def isRt : Instr → Bool
  | .return_ => true
  | _ => false
def loopF (F : Nat → List Value → MM → Option MM) (y : Nat) : Nat → Nat → List Value → List Value → MM → Option MM
  | 0, _, _, _, _ => none
  | f + 1, pc, ls, st, m => match decode (mB y) pc with
    | .ok (i, n) => if ilen i n = true then (if isRt i = true then (if st = [] ∧ mR y = none then some m else none) else match clF y i st m.2.1 with
      | some (y', k) => if k ≤ st.length ∧ catS (st.drop k) ≤ 8 then (match F y' (st.take k).reverse m with
        | some m' => loopF F y f (pc + n) ls (st.drop k) m'
        | none => none) else none
      | none => match stF y pc (pc + n) i ls st m with
        | some (pc', ls', st', m') => loopF F y f pc' ls' st' m'
        | none => none) else none
    | _ => none
theorem loopF_s {d n y : Nat} {xs : Nat → Int32} {F : Nat → List Value → MM → Option MM} (hF : ∀ y as m m', F y as m = some m' → EvD d y as (IA xs m.1) LZ (SS n m) (.inl none, IA xs m'.1, LZ, SS n m')) : ∀ f pc ls st m m', loopF F y f pc ls st m = some m' → Ev d y pc ls st (IA xs m.1) LZ (SS n m) (.inl none, IA xs m'.1, LZ, SS n m') := by
  intro f
  induction f with
  | zero => intro pc ls st m m' h; cases h
  | succ f ih =>
    intro pc ls st m m' h
    unfold loopF at h
    split at h
    · rename_i i k hd
      split at h
      · rename_i hl
        refine (ev_at hd hl).mpr ?_
        split at h
        · rename_i hr
          split at h
          · rename_i e
            obtain ⟨e1, e2⟩ := e
            subst e1
            cases h
            cases i <;> first | (exact ⟨e2, rfl⟩) | (cases hr)
          · cases h
        · split at h
          · rename_i y' q hc
            split at h
            · rename_i e
              split at h
              · rename_i m1 hm
                exact clF_s hc e.1 e.2 (hF _ _ _ _ hm) (ih _ _ _ _ _ h)
              · cases h
            · cases h
          · split at h
            · rename_i hs
              exact stF_s hs (ih _ _ _ _ _ h)
            · cases h
      · cases h
    · cases h
def runF : Nat → Nat → List Value → MM → Option MM
  | 0 => fun _ _ _ => none
  | d + 1 => fun y as m => if as.length ≤ mL y ∧ catS as = as.length then loopF (runF d) y 3000 0 (as ++ List.replicate (mL y - as.length) (.retAddr 0)) [] m else none
theorem runF_s {n : Nat} {xs : Nat → Int32} : ∀ d y as m m', runF d y as m = some m' → EvD d y as (IA xs m.1) LZ (SS n m) (.inl none, IA xs m'.1, LZ, SS n m') := by
  intro d
  induction d with
  | zero => intro y as m m' h; cases h
  | succ d ih =>
    intro y as m m' h
    unfold runF at h
    split at h
    · rename_i e
      exact ⟨e.1, e.2, loopF_s ih _ _ _ _ _ _ h⟩
    · cases h
theorem runF_up {n d : Nat} {xs : Nat → Int32} {y : Nat} {as : List Value} {m m' : MM} (h : runF d y as m = some m') : ∀ k, EvD (d + k) y as (IA xs m.1) LZ (SS n m) (.inl none, IA xs m'.1, LZ, SS n m')
  | 0 => runF_s _ _ _ _ _ h
  | k + 1 => EvD_up _ _ _ _ _ _ _ (runF_up h k)
