theorem brR_any {c : ClassFile.Cond} {x y : Int32} {A B X : Prop} (hA : A → X) (hB : B → X) (h : brR c x y A B) : X := by
  cases c <;> simp only [brR] at h <;> split at h <;> first | exact hA h | exact hB h
theorem swR_any {K : Int → Prop} {X : Prop} (h : ∀ o, K o → X) {x : Int32} {d : Int} : ∀ {ps : List (Int × Int)}, swR ps x K d → X
  | [], h1 => h _ h1
  | (a, o) :: r, h1 => by
    unfold swR at h1
    split at h1
    · exact h _ h1
    · exact swR_any h h1
/-- cells and slots that were made so far -/
def KU (rc rs : Nat) : KK := fun _ _ _ _ _ S => S.2.2.1 ≤ rc ∧ S.2.2.2 ≤ rs
theorem callR_used {vt : Bool} {C : CC} {y pc nx y' n : Nat} {ls st : List Value} {I : VI} {L : VL} {S : SW} {r : Res} (hC : ∀ y' as I L S r', y' < 319 → C y' as I L S r' → S.2.2.1 ≤ r'.2.2.2.2.2.1 ∧ S.2.2.2 ≤ r'.2.2.2.2.2.2) (hy : y' < 319) (h1 : callR vt C y pc nx y' n ls st I L S (KU r.2.2.2.2.2.1 r.2.2.2.2.2.2) r) : S.2.2.1 ≤ r.2.2.2.2.2.1 ∧ S.2.2.2 ≤ r.2.2.2.2.2.2 := by
  obtain ⟨a, b, r', c, d⟩ := h1
  have h2 := hC _ _ _ _ _ _ hy c
  obtain ⟨w, I', L', S'⟩ := r'
  cases w with
  | inl v =>
    obtain ⟨d1, d2⟩ := d
    exact ⟨Nat.le_trans h2.1 d1, Nat.le_trans h2.2 d2⟩
  | inr E =>
    simp only [cont] at d
    replace d := d.2.2
    generalize hn y pc E = o at d
    cases o with
    | none =>
      have e1 := d.2
      subst e1
      exact h2
    | some q =>
      obtain ⟨-, d1, d2⟩ := d
      exact ⟨Nat.le_trans h2.1 d1, Nat.le_trans h2.2 d2⟩
theorem mk_lt {o j o' j' y' kd nest : Nat} {ps : List Nat} (h : mk o j = some (o', j', y', kd, nest, ps)) : y' < 319 := (mk_facts h).2.2.2.2.2.2.2.2.2.2.2.2.2
set_option maxHeartbeats 4000000 in
theorem stepI_used {C : CC} {y pc nx : Nat} {i : Instr} {ls st : List Value} {I : VI} {L : VL} {S : SW} {r : Res} (hC : ∀ y' as I L S r', y' < 319 → C y' as I L S r' → S.2.2.1 ≤ r'.2.2.2.2.2.1 ∧ S.2.2.2 ≤ r'.2.2.2.2.2.2) (h1 : stepI C y pc nx i ls st I L S (KU r.2.2.2.2.2.1 r.2.2.2.2.2.2) r) : S.2.2.1 ≤ r.2.2.2.2.2.1 ∧ S.2.2.2 ≤ r.2.2.2.2.2.2 := by
  cases i
  case ifCond c o =>
    simp only [stepI] at h1
    split at h1
    · exact brR_any (fun z => z) (fun z => z) h1.2
    · exact h1.elim
  case if_icmp c o =>
    simp only [stepI] at h1
    split at h1
    · exact brR_any (fun z => z) (fun z => z) h1.2
    · exact h1.elim
  case tableswitch d lo hi offs =>
    simp only [stepI] at h1
    split at h1
    · rename_i x st
      by_cases hq : x.toInt < lo ∨ hi < x.toInt
      · simp only [if_pos hq] at h1
        exact h1.2
      · simp only [if_neg hq] at h1
        generalize offs[(x.toInt - lo).toNat]? = w at h1
        cases w with
        | none => exact h1.elim
        | some o => exact h1.2
    · exact h1.elim
  case lookupswitch d ps =>
    simp only [stepI] at h1
    split at h1
    · exact swR_any (fun o q => q.2) h1.2
    · exact h1.elim
  case getfield j =>
    simp only [stepI] at h1
    generalize fk (mO y) j = w at h1
    split at h1
    · rename_i ci f ty _ _ k st
      have h2 := h1.2
      by_cases hq : ty = 0
      · rw [if_pos hq] at h2
        exact h2
      · rw [if_neg hq] at h2
        exact h2
    · exact h1.elim
  case putfield j =>
    simp only [stepI] at h1
    generalize fk (mO y) j = w at h1
    split at h1
    · exact h1.2.2.2
    · obtain ⟨a1, a2, a3, a4, a5, a6, a7, a8, a9⟩ := h1
      exact a9
    · exact h1.elim
  case new j =>
    simp only [stepI] at h1
    generalize th y pc = w at h1
    cases w with
    | some E =>
      have e1 := h1.2
      subst e1
      simp only [bump]
      omega
    | none =>
      dsimp only at h1
      generalize ck (mO y) j = w at h1
      cases w with
      | none => exact h1.elim
      | some q =>
        have h2 := h1.2
        simp only [KU, grow] at h2
        omega
  case newarray a =>
    simp only [stepI] at h1
    split at h1
    · obtain ⟨a1, a2, a3, a4, a5⟩ := h1
      simp only [KU, grow] at a5
      omega
    · exact h1.elim
  case multianewarray j d =>
    simp only [stepI] at h1
    split at h1
    · obtain ⟨a1, a2, a3, a4, a5, a6, a7, a8, a9⟩ := h1
      simp only [KU, growM] at a9
      omega
    · exact h1.elim
  case invokestatic j =>
    simp only [stepI] at h1
    by_cases hq : sp (mO y) j = 2
    · simp only [if_pos hq] at h1
      split at h1
      · obtain ⟨a1, a2, a3, a4, a5, a6, a7⟩ := h1
        exact a7
      · exact h1.elim
    · simp only [if_neg hq] at h1
      cases hmk : mk (mO y) j with
      | none => rw [hmk] at h1; exact h1.elim
      | some q => rw [hmk] at h1; exact callR_used hC (mk_lt hmk) h1.2
  case invokevirtual j =>
    simp only [stepI] at h1
    by_cases hq : sp (mO y) j = 3
    · simp only [if_pos hq] at h1
      split at h1
      · exact h1.2.2
      · exact h1.elim
    · simp only [if_neg hq] at h1
      by_cases hq : sp (mO y) j = 4
      · simp only [if_pos hq] at h1
        split at h1
        · exact h1.2.2.2
        · exact h1.elim
      · simp only [if_neg hq] at h1
        cases hmk : mk (mO y) j with
        | none => rw [hmk] at h1; exact h1.elim
        | some q => rw [hmk] at h1; exact callR_used hC (mk_lt hmk) h1.2.2
  case invokespecial j =>
    simp only [stepI] at h1
    by_cases hq : sp (mO y) j = 1
    · simp only [if_pos hq] at h1
      split at h1
      · exact h1.2.2
      · exact h1.elim
    · simp only [if_neg hq] at h1
      cases hmk : mk (mO y) j with
      | none => rw [hmk] at h1; exact h1.elim
      | some q => rw [hmk] at h1; exact callR_used hC (mk_lt hmk) h1.2.2
  case lload_n k =>
    simp only [stepI] at h1
    generalize ls[k.val]? = w1 at h1
    generalize ls[k.val + 1]? = w2 at h1
    split at h1
    · exact h1
    · exact h1.elim
  case lload k =>
    simp only [stepI] at h1
    generalize ls[k]? = w1 at h1
    generalize ls[k + 1]? = w2 at h1
    split at h1
    · exact h1
    · exact h1.elim
  case iload_n k =>
    simp only [stepI] at h1
    generalize ls[k.val]? = w1 at h1
    split at h1
    · exact h1
    · exact h1.elim
  case iload k =>
    simp only [stepI] at h1
    generalize ls[k]? = w1 at h1
    split at h1
    · exact h1
    · exact h1.elim
  case aload_n k =>
    simp only [stepI] at h1
    generalize ls[k.val]? = w1 at h1
    split at h1
    · exact h1
    · exact h1.elim
  case aload k =>
    simp only [stepI] at h1
    generalize ls[k]? = w1 at h1
    split at h1
    · exact h1
    · exact h1.elim
  case iinc k n =>
    simp only [stepI] at h1
    generalize ls[k]? = w1 at h1
    split at h1
    · exact h1
    · exact h1.elim
  case ldc j =>
    simp only [stepI] at h1
    generalize kc (mO y) j = w1 at h1
    split at h1
    · exact h1
    · exact h1
    · exact h1.elim
  case ldc_w j =>
    simp only [stepI] at h1
    generalize kc (mO y) j = w1 at h1
    split at h1
    · exact h1
    · exact h1.elim
  case ldc2_w j =>
    simp only [stepI] at h1
    generalize kc (mO y) j = w1 at h1
    split at h1
    · exact h1
    · exact h1.elim
  case getstatic j =>
    simp only [stepI] at h1
    exact h1.2.2
  case ireturn =>
    simp only [stepI] at h1
    split at h1
    · have e1 := h1.2
      subst e1
      exact ⟨Nat.le_refl _, Nat.le_refl _⟩
    · exact h1.elim
  case lreturn =>
    simp only [stepI] at h1
    split at h1
    · have e1 := h1.2
      subst e1
      exact ⟨Nat.le_refl _, Nat.le_refl _⟩
    · exact h1.elim
  case return_ =>
    simp only [stepI] at h1
    split at h1
    · have e1 := h1.2
      subst e1
      exact ⟨Nat.le_refl _, Nat.le_refl _⟩
    · exact h1.elim
  case goto o => exact h1.2
  case iconst v => exact h1
  case bipush v => exact h1
  case sipush v => exact h1
  case lconst v => exact h1
  all_goals first
    | exact False.elim h1
    | (simp only [stepI] at h1; split at h1 <;> first | exact h1.elim | exact h1 | exact h1.2 | exact h1.2.2 | exact h1.2.2.2)
/-- WHAT THE SMALL MACHINE SAYS HOLDS OF THE MACHINE -/
theorem used_of (d : Nat) : ∀ (y : Nat) (as : List Value) (I : VI) (L : VL) (S : SW) (r : Res), y < 319 → EvD d y as I L S r → S.2.2.1 ≤ r.2.2.2.2.2.1 ∧ S.2.2.2 ≤ r.2.2.2.2.2.2 := by
  induction d with
  | zero => exact fun _ _ _ _ _ _ _ h => h.elim
  | succ d ih =>
    intro y as I L S r hy h
    refine h.2.2 (KU r.2.2.2.2.2.1 r.2.2.2.2.2.2) ?_
    intro pc ls st I L S hs
    unfold stepR at hs
    split at hs
    · exact stepI_used ih hs.2
    · exact hs.elim
section Snd
variable {p : Program} {l : Launch} {e : Env} {R : Room} {s : State} {m : MethodId} {args : Array Value} {below : List Frame} {meth : Method} {c : Code} {Q : State → Prop} {G : GX} {B0 y uc us rc rs : Nat}
theorem body_ctx {S : Spec} {s₁ : State} (hg : ∀ k, 16 ≤ k → G.1 k = B0 + (k - 16)) (hcls : (mY y).cls = oR (mO y)) {as : List Value} {I : VI} {L : VL} {W0 : SW} (B : BodyLoose p l (mY y) S (mB y) (mL y) (mR y) e s m args below meth c s₁) (hml : c.maxLocals = mL y) (hpre : ∀ w ∈ wsG, w.before args s = true) (hv : PcM G B0 as I L W0 args s) : At0 p s m args c G B0 y :=
  ⟨B.exec, B.bytes, hml, by rw [← hcls]; exact findClass_of_methodNamed B.named, hpre, hv.2.2.1, hv.2.2.2.2, hv.2.2.2.1, hg⟩
/-- from the small machine's run to the body's walk -/
theorem body_walk {d : Nat} {as : List Value} {I : VI} {L : VL} {S : SW} {r : Res} (ctx : At0 p s m args c G B0 y) (hR : RmD R d S.2.2.1 S.2.2.2 r.2.2.2.2.2.1 r.2.2.2.2.2.2) (hin : (mY y).name = "<init>" → meth.name = "<init>") (hC : ∀ y' as I L S r', y' < 319 → EvD d y' as I L S r' → SndR l G B0 d y' as I L S r')
    (hE : Ends p l e R s m args below meth c Q G B0 y S.2.2.1 S.2.2.2 r) (hev : EvD (d + 1) y as I L S r) (hM : Mem G B0 I L S s.heap) : W p l e R s m args below meth c s.heap [] 0 0 Q (entryFrame m (as.map (conc G.1)).toArray (mL y)) := by
  obtain ⟨h1, h2, h3⟩ := hev
  have hall := catS_all as h2
  have hcc : ∀ v ∈ as.map (conc G.1), v.category = 1 := by
    intro v hv
    obtain ⟨w, hw, rfl⟩ := List.mem_map.mp hv
    rw [conc_map_rest]
    exact hall w hw
  have hP := h3 _ (snd_closed ctx hR hin hC hE) (Nat.le_refl _) (Nat.le_refl _) (by simp; omega)
  rw [lg_entry_eq]
  have hl := lv_entry (as.map (conc G.1)) (n := mL y) (by rw [lg_sl_len _ hcc, List.length_map]; exact h1)
  have := hP.2 s.heap [] _ hM (lv_mono hl (clm_entry hall)) va_S.rf
  rw [Nat.sub_self, Nat.sub_self] at this
  exact this
end Snd
