theorem brR_mono {c : ClassFile.Cond} {x y : Int32} {A B A' B' : Prop} (hA : A → A') (hB : B → B') (h : brR c x y A B) : brR c x y A' B' := by
  cases c <;> simp only [brR] at h ⊢ <;> split <;> rename_i e <;> first | (rw [if_pos e] at h; first | exact hA h | exact hB h) | (rw [if_neg e] at h; first | exact hA h | exact hB h)
theorem swR_mono {K K' : Int → Prop} (h : ∀ o, K o → K' o) {x : Int32} {d : Int} : ∀ {ps : List (Int × Int)}, swR ps x K d → swR ps x K' d
  | [], h1 => h _ h1
  | (a, o) :: r, h1 => by
    unfold swR at h1 ⊢
    split
    · rename_i e; rw [if_pos e] at h1; exact h _ h1
    · rename_i e; rw [if_neg e] at h1; exact swR_mono h h1
theorem cont_mono {vt : Bool} {y pc nx : Nat} {ls st : List Value} {K K' : KK} {r r' : Res} (h : ∀ pc ls st I L S, K pc ls st I L S → K' pc ls st I L S) (h1 : cont vt y pc nx ls st K r r') : cont vt y pc nx ls st K' r r' := by
  obtain ⟨a, I, L, S⟩ := r'
  cases a with
  | inl v => exact h _ _ _ _ _ _ h1
  | inr E =>
    simp only [cont] at h1 ⊢
    refine ⟨h1.1, h1.2.1, ?_⟩
    replace h1 := h1.2.2
    generalize hn y pc E = o at h1 ⊢
    cases o with
    | none => exact h1
    | some q => exact ⟨h1.1, h _ _ _ _ _ _ h1.2⟩
theorem callR_mono {vt : Bool} {C : CC} {y pc nx y' n : Nat} {ls st : List Value} {I : VI} {L : VL} {S : SW} {K K' : KK} {r : Res} (h : ∀ pc ls st I L S, K pc ls st I L S → K' pc ls st I L S) (h1 : callR vt C y pc nx y' n ls st I L S K r) : callR vt C y pc nx y' n ls st I L S K' r := by
  obtain ⟨a, b, r', c, d⟩ := h1
  exact ⟨a, b, r', c, cont_mono h d⟩
set_option maxHeartbeats 4000000 in
theorem stepI_mono {C : CC} {y pc nx : Nat} {i : Instr} {ls st : List Value} {I : VI} {L : VL} {S : SW} {K K' : KK} {r : Res} (h : ∀ pc ls st I L S, K pc ls st I L S → K' pc ls st I L S) (h1 : stepI C y pc nx i ls st I L S K r) : stepI C y pc nx i ls st I L S K' r := by
  cases i
  case ifCond c o =>
    simp only [stepI] at h1 ⊢
    split at h1
    · exact ⟨h1.1, brR_mono (h _ _ _ _ _ _) (h _ _ _ _ _ _) h1.2⟩
    · exact h1.elim
  case if_icmp c o =>
    simp only [stepI] at h1 ⊢
    split at h1
    · exact ⟨h1.1, brR_mono (h _ _ _ _ _ _) (h _ _ _ _ _ _) h1.2⟩
    · exact h1.elim
  case tableswitch d lo hi offs =>
    simp only [stepI] at h1 ⊢
    split at h1
    · rename_i x st
      by_cases hq : x.toInt < lo ∨ hi < x.toInt
      · simp only [if_pos hq] at h1 ⊢
        exact ⟨h1.1, h _ _ _ _ _ _ h1.2⟩
      · simp only [if_neg hq] at h1 ⊢
        generalize offs[(x.toInt - lo).toNat]? = w at h1 ⊢
        cases w with
        | none => exact h1
        | some o => exact ⟨h1.1, h _ _ _ _ _ _ h1.2⟩
    · exact h1.elim
  case lookupswitch d ps =>
    simp only [stepI] at h1 ⊢
    split at h1
    · exact ⟨h1.1, swR_mono (fun o q => ⟨q.1, h _ _ _ _ _ _ q.2⟩) h1.2⟩
    · exact h1.elim
  case getfield j =>
    simp only [stepI] at h1 ⊢
    generalize fk (mO y) j = w at h1 ⊢
    split at h1
    · rename_i ci f ty _ _ k st
      refine ⟨h1.1, ?_⟩
      have h2 := h1.2
      by_cases hq : ty = 0
      · simp only [if_pos hq] at h2 ⊢
        exact h _ _ _ _ _ _ h2
      · simp only [if_neg hq] at h2 ⊢
        exact h _ _ _ _ _ _ h2
    · exact h1.elim
  case putfield j =>
    simp only [stepI] at h1 ⊢
    generalize fk (mO y) j = w at h1 ⊢
    split at h1
    · exact ⟨h1.1, h1.2.1, h1.2.2.1, h _ _ _ _ _ _ h1.2.2.2⟩
    · obtain ⟨a1, a2, a3, a4, a5, a6, a7, a8, a9⟩ := h1
      exact ⟨a1, a2, a3, a4, a5, a6, a7, a8, h _ _ _ _ _ _ a9⟩
    · exact h1.elim
  case new j =>
    simp only [stepI] at h1 ⊢
    generalize th y pc = w at h1 ⊢
    cases w with
    | some E => exact h1
    | none =>
      dsimp only at h1 ⊢
      generalize ck (mO y) j = w at h1 ⊢
      cases w with
      | none => exact h1
      | some q => exact ⟨h1.1, h _ _ _ _ _ _ h1.2⟩
  case newarray a =>
    simp only [stepI] at h1 ⊢
    split at h1
    · obtain ⟨a1, a2, a3, a4, a5⟩ := h1
      exact ⟨a1, a2, a3, a4, h _ _ _ _ _ _ a5⟩
    · exact h1.elim
  case multianewarray j d =>
    simp only [stepI] at h1 ⊢
    split at h1
    · obtain ⟨a1, a2, a3, a4, a5, a6, a7, a8, a9⟩ := h1
      exact ⟨a1, a2, a3, a4, a5, a6, a7, a8, h _ _ _ _ _ _ a9⟩
    · exact h1.elim
  case invokestatic j =>
    simp only [stepI] at h1 ⊢
    by_cases hq : sp (mO y) j = 2
    · simp only [if_pos hq] at h1 ⊢
      split at h1
      · obtain ⟨a1, a2, a3, a4, a5, a6, a7⟩ := h1
        exact ⟨a1, a2, a3, a4, a5, a6, h _ _ _ _ _ _ a7⟩
      · exact h1.elim
    · simp only [if_neg hq] at h1 ⊢
      generalize mk (mO y) j = w at h1 ⊢
      cases w with
      | none => exact h1
      | some q => exact ⟨h1.1, callR_mono h h1.2⟩
  case invokevirtual j =>
    simp only [stepI] at h1 ⊢
    by_cases hq : sp (mO y) j = 3
    · simp only [if_pos hq] at h1 ⊢
      split at h1
      · exact ⟨h1.1, h1.2.1, h _ _ _ _ _ _ h1.2.2⟩
      · exact h1.elim
    · simp only [if_neg hq] at h1 ⊢
      by_cases hq : sp (mO y) j = 4
      · simp only [if_pos hq] at h1 ⊢
        split at h1
        · exact ⟨h1.1, h1.2.1, h1.2.2.1, h _ _ _ _ _ _ h1.2.2.2⟩
        · exact h1.elim
      · simp only [if_neg hq] at h1 ⊢
        generalize mk (mO y) j = w at h1 ⊢
        cases w with
        | none => exact h1
        | some q => exact ⟨h1.1, h1.2.1, callR_mono h h1.2.2⟩
  case invokespecial j =>
    simp only [stepI] at h1 ⊢
    by_cases hq : sp (mO y) j = 1
    · simp only [if_pos hq] at h1 ⊢
      split at h1
      · exact ⟨h1.1, h1.2.1, h _ _ _ _ _ _ h1.2.2⟩
      · exact h1.elim
    · simp only [if_neg hq] at h1 ⊢
      generalize mk (mO y) j = w at h1 ⊢
      cases w with
      | none => exact h1
      | some q => exact ⟨h1.1, h1.2.1, callR_mono h h1.2.2⟩
  case lload_n k =>
    simp only [stepI] at h1 ⊢
    generalize ls[k.val]? = w1 at h1 ⊢
    generalize ls[k.val + 1]? = w2 at h1 ⊢
    split at h1
    · exact h _ _ _ _ _ _ h1
    · exact h1.elim
  case lload k =>
    simp only [stepI] at h1 ⊢
    generalize ls[k]? = w1 at h1 ⊢
    generalize ls[k + 1]? = w2 at h1 ⊢
    split at h1
    · exact h _ _ _ _ _ _ h1
    · exact h1.elim
  case iload_n k =>
    simp only [stepI] at h1 ⊢
    generalize ls[k.val]? = w1 at h1 ⊢
    split at h1
    · exact h _ _ _ _ _ _ h1
    · exact h1.elim
  case iload k =>
    simp only [stepI] at h1 ⊢
    generalize ls[k]? = w1 at h1 ⊢
    split at h1
    · exact h _ _ _ _ _ _ h1
    · exact h1.elim
  case aload_n k =>
    simp only [stepI] at h1 ⊢
    generalize ls[k.val]? = w1 at h1 ⊢
    split at h1
    · exact h _ _ _ _ _ _ h1
    · exact h1.elim
  case aload k =>
    simp only [stepI] at h1 ⊢
    generalize ls[k]? = w1 at h1 ⊢
    split at h1
    · exact h _ _ _ _ _ _ h1
    · exact h1.elim
  case iinc k n =>
    simp only [stepI] at h1 ⊢
    generalize ls[k]? = w1 at h1 ⊢
    split at h1
    · exact h _ _ _ _ _ _ h1
    · exact h1.elim
  case ldc j =>
    simp only [stepI] at h1 ⊢
    generalize kc (mO y) j = w1 at h1 ⊢
    split at h1
    · exact h _ _ _ _ _ _ h1
    · exact h _ _ _ _ _ _ h1
    · exact h1.elim
  case ldc_w j =>
    simp only [stepI] at h1 ⊢
    generalize kc (mO y) j = w1 at h1 ⊢
    split at h1
    · exact h _ _ _ _ _ _ h1
    · exact h1.elim
  case ldc2_w j =>
    simp only [stepI] at h1 ⊢
    generalize kc (mO y) j = w1 at h1 ⊢
    split at h1
    · exact h _ _ _ _ _ _ h1
    · exact h1.elim
  case getstatic j =>
    simp only [stepI] at h1 ⊢
    exact ⟨h1.1, h1.2.1, h _ _ _ _ _ _ h1.2.2⟩
  case ireturn => exact h1
  case lreturn => exact h1
  case return_ => exact h1
  case goto o => exact ⟨h1.1, h _ _ _ _ _ _ h1.2⟩
  case iconst v => exact h _ _ _ _ _ _ h1
  case bipush v => exact h _ _ _ _ _ _ h1
  case sipush v => exact h _ _ _ _ _ _ h1
  case lconst v => exact h _ _ _ _ _ _ h1
  all_goals first
    | exact False.elim h1
    | (simp only [stepI] at h1 ⊢; split at h1 <;> first | exact h1.elim | exact h _ _ _ _ _ _ h1 | exact ⟨h1.1, h _ _ _ _ _ _ h1.2⟩ | exact ⟨h1.1, h1.2.1, h _ _ _ _ _ _ h1.2.2⟩ | exact ⟨h1.1, h1.2.1, h1.2.2.1, h _ _ _ _ _ _ h1.2.2.2⟩)
theorem stepR_mono {C : CC} {y pc : Nat} {ls st : List Value} {I : VI} {L : VL} {S : SW} {K K' : KK} {r : Res} (h : ∀ pc ls st I L S, K pc ls st I L S → K' pc ls st I L S) (h1 : stepR C y pc ls st I L S K r) : stepR C y pc ls st I L S K' r := by
  unfold stepR at h1 ⊢
  generalize decode (mB y) pc = w at h1 ⊢
  split at h1
  · exact ⟨h1.1, stepI_mono h h1.2⟩
  · exact h1.elim
theorem EvC_closed {C : CC} {y : Nat} {r : Res} : closed C y r (EvC C y r) := fun _ _ _ _ _ _ h P hP => hP _ _ _ _ _ _ (stepR_mono (fun _ _ _ _ _ _ q => q P hP) h)
theorem EvC_iff {C : CC} {y : Nat} {r : Res} {pc : Nat} {ls st : List Value} {I : VI} {L : VL} {S : SW} : EvC C y r pc ls st I L S ↔ stepR C y pc ls st I L S (EvC C y r) r := by
  refine ⟨fun h => ?_, fun h => EvC_closed _ _ _ _ _ _ h⟩
  exact h (fun pc ls st I L S => stepR C y pc ls st I L S (EvC C y r) r) (fun _ _ _ _ _ _ q => stepR_mono (fun _ _ _ _ _ _ q => EvC_closed _ _ _ _ _ _ q) q)
/-- an instruction of a known code -/
theorem ev_at {d y pc n : Nat} {i : Instr} {ls st : List Value} {I : VI} {L : VL} {S : SW} {r : Res} (h : decode (mB y) pc = .ok (i, n)) (hl : ilen i n = true) : Ev d y pc ls st I L S r ↔ stepI (EvD d) y pc (pc + n) i ls st I L S (fun pc ls st I L S => Ev d y pc ls st I L S r) r := by
  unfold Ev
  rw [EvC_iff]
  unfold stepR
  rw [h]
  exact ⟨fun q => q.2, fun q => ⟨hl, q⟩⟩
