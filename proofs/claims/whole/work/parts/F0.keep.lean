/-! WHAT EVERY RUN KEEPS: the old cells; what it answers -/
def shp (y : Nat) : Option Value ⊕ Nat → Prop
  | .inl (some (.int v)) => ∃ ty, mR y = some ty ∧ narrow ty (.int v) = .int v ∧ ∃ pc n, decode (mB y) pc = .ok (.ireturn, n)
  | .inl (some (.long _)) => mR y = some .long
  | .inl none => mR y = none
  | .inr _ => True
  | _ => False
def old (I I' : VI) : Prop := ∀ c, c < 16 → I' c = I c
theorem old_t {I I' I'' : VI} (h : old I I') (h' : old I' I'') : old I I'' := fun c hc => (h' c hc).trans (h c hc)
theorem old_u {I : VI} {k j : Nat} {x : Int32} (h : 16 ≤ k) : old I (u2 I k j x) := fun c hc => u_row (by omega)
def KP (y : Nat) (r : Res) : KK := fun _ _ _ I _ S => 16 ≤ S.1.length → (old I r.2.1 ∧ 16 ≤ r.2.2.2.1.length) ∧ shp y r.1
def CK (C : CC) : Prop := ∀ y as I L S r, C y as I L S r → 16 ≤ S.1.length → (old I r.2.1 ∧ 16 ≤ r.2.2.2.1.length) ∧ shp y r.1
theorem kp_brR {c : ClassFile.Cond} {x y : Int32} {A B P : Prop} (hA : A → P) (hB : B → P) (h : brR c x y A B) : P := by
  unfold brR at h
  split at h <;> split at h <;> first | exact hA h | exact hB h
theorem kp_swR {K : Int → Prop} {P : Prop} (h : ∀ o, K o → P) {x : Int32} {d : Int} : ∀ {ps : List (Int × Int)}, swR ps x K d → P
  | [], h1 => h _ h1
  | (a, o) :: r, h1 => by
    unfold swR at h1
    split at h1
    · exact h _ h1
    · exact kp_swR h h1
theorem kp_call {vt : Bool} {C : CC} {y pc nx y' n : Nat} {ls st : List Value} {I : VI} {L : VL} {S : SW} {r : Res} (hC : CK C) (hy : vt = true → True) (h : callR vt C y pc nx y' n ls st I L S (KP y r) r) (hl : 16 ≤ S.1.length) : (old I r.2.1 ∧ 16 ≤ r.2.2.2.1.length) ∧ shp y r.1 := by
  obtain ⟨_, _, ⟨r1, I1, L1, S1⟩, h1, h2⟩ := h
  obtain ⟨⟨a1, a2⟩, _⟩ := hC _ _ _ _ _ _ h1 hl
  dsimp only at a1 a2
  cases r1 with
  | inl v =>
    have h3 := h2 a2
    exact ⟨⟨old_t a1 h3.1.1, h3.1.2⟩, h3.2⟩
  | inr E =>
    obtain ⟨_, _, h3⟩ := h2
    split at h3
    · obtain ⟨_, h4⟩ := h3
      subst h4
      exact ⟨⟨a1, a2⟩, trivial⟩
    · have h4 := h3.2 a2
      exact ⟨⟨old_t a1 h4.1.1, h4.1.2⟩, h4.2⟩
theorem setR_len {S : SW} {k f a : Nat} : (setR S k f a).1.length = S.1.length := by unfold setR; simp
theorem kstep {C : CC} {y pc nx : Nat} {i : Instr} {ls st : List Value} {I : VI} {L : VL} {S : SW} {r : Res} (hC : CK C) {nn : Nat} (hd : decode (mB y) pc = .ok (i, nn)) (h1 : stepI C y pc nx i ls st I L S (KP y r) r) (hl : 16 ≤ S.1.length) : (old I r.2.1 ∧ 16 ≤ r.2.2.2.1.length) ∧ shp y r.1 := by
  cases i
  case ifCond c o =>
    simp only [stepI] at h1
    split at h1
    · exact kp_brR (fun q => q hl) (fun q => q hl) h1.2
    · exact h1.elim
  case if_icmp c o =>
    simp only [stepI] at h1
    split at h1
    · exact kp_brR (fun q => q hl) (fun q => q hl) h1.2
    · exact h1.elim
  case tableswitch d lo hi offs =>
    simp only [stepI] at h1
    split at h1
    · split at h1
      · exact h1.2 hl
      · split at h1
        · exact h1.2 hl
        · exact h1.elim
    · exact h1.elim
  case lookupswitch d ps =>
    simp only [stepI] at h1
    split at h1
    · exact kp_swR (fun o q => q.2 hl) h1.2
    · exact h1.elim
  case getfield j =>
    simp only [stepI] at h1
    split at h1
    · split at h1
      · exact h1.2 hl
      · exact h1.2 hl
    · exact h1.elim
  case putfield j =>
    simp only [stepI] at h1
    split at h1
    · obtain ⟨_, _, hk, h2⟩ := h1
      have h3 := h2 hl
      exact ⟨⟨old_t (old_u hk) h3.1.1, h3.1.2⟩, h3.2⟩
    · obtain ⟨_, _, _, _, _, _, _, _, h2⟩ := h1
      exact h2 (by rw [setR_len]; exact hl)
    · exact h1.elim
  case iastore =>
    simp only [stepI] at h1
    split at h1
    · obtain ⟨_, hk, _, h2⟩ := h1
      have h3 := h2 hl
      exact ⟨⟨old_t (old_u hk) h3.1.1, h3.1.2⟩, h3.2⟩
    · exact h1.elim
  case bastore =>
    simp only [stepI] at h1
    split at h1
    · obtain ⟨_, hk, _, h2⟩ := h1
      have h3 := h2 hl
      exact ⟨⟨old_t (old_u hk) h3.1.1, h3.1.2⟩, h3.2⟩
    · exact h1.elim
  case new j =>
    simp only [stepI] at h1
    split at h1
    · obtain ⟨_, h2⟩ := h1
      subst h2
      exact ⟨⟨fun _ _ => rfl, hl⟩, trivial⟩
    · split at h1
      · have h3 := h1.2 (by unfold grow; simp; omega)
        have e : old I (zI I S.1.length) := fun c hc => by funext j; unfold zI; rw [if_neg (by omega)]
        exact ⟨⟨old_t e h3.1.1, h3.1.2⟩, h3.2⟩
      · exact h1.elim
  case newarray a =>
    simp only [stepI] at h1
    split at h1
    · obtain ⟨_, _, _, _, h2⟩ := h1
      have h3 := h2 (by unfold grow; simp; omega)
      have e : old I (zI I S.1.length) := fun c hc => by funext j; unfold zI; rw [if_neg (by omega)]
      exact ⟨⟨old_t e h3.1.1, h3.1.2⟩, h3.2⟩
    · exact h1.elim
  case multianewarray j d =>
    simp only [stepI] at h1
    split at h1
    · obtain ⟨_, _, _, _, _, _, _, _, h2⟩ := h1
      have h3 := h2 (by unfold growM; simp; omega)
      have e : ∀ q, old I (zIs I S.1.length q) := fun q c hc => by funext j; unfold zIs; rw [if_neg (by omega)]
      exact ⟨⟨old_t (e _) h3.1.1, h3.1.2⟩, h3.2⟩
    · exact h1.elim
  case invokestatic j =>
    simp only [stepI] at h1
    split at h1
    · split at h1
      · obtain ⟨_, ⟨_, hb⟩, _, _, _, _, h2⟩ := h1
        have h3 := h2 hl
        exact ⟨⟨old_t (fun c hc => cp_g (Nat.ne_of_lt (Nat.lt_of_lt_of_le hc hb))) h3.1.1, h3.1.2⟩, h3.2⟩
      · exact h1.elim
    · split at h1
      · exact kp_call hC (fun _ => trivial) h1.2 hl
      · exact h1.elim
  case invokevirtual j =>
    simp only [stepI] at h1
    split at h1
    · split at h1
      · exact h1.2.2 hl
      · exact h1.elim
    · split at h1
      · split at h1
        · exact h1.2.2.2 hl
        · exact h1.elim
      · split at h1
        · exact kp_call hC (fun _ => trivial) h1.2.2 hl
        · exact h1.elim
  case invokespecial j =>
    simp only [stepI] at h1
    split at h1
    · split at h1
      · exact h1.2.2 hl
      · exact h1.elim
    · split at h1
      · exact kp_call hC (fun _ => trivial) h1.2.2 hl
      · exact h1.elim
  case ireturn =>
    simp only [stepI] at h1
    split at h1
    · obtain ⟨h2, h3⟩ := h1
      subst h3
      refine ⟨⟨fun _ _ => rfl, hl⟩, ?_⟩
      unfold shp
      dsimp only
      split at h2
      · rename_i ty e; exact ⟨ty, e, h2, _, _, hd⟩
      · exact h2.elim
    · exact h1.elim
  case lreturn =>
    simp only [stepI] at h1
    split at h1
    · obtain ⟨h2, h3⟩ := h1
      subst h3
      exact ⟨⟨fun _ _ => rfl, hl⟩, h2⟩
    · exact h1.elim
  case return_ =>
    simp only [stepI] at h1
    split at h1
    · obtain ⟨h2, h3⟩ := h1
      subst h3
      exact ⟨⟨fun _ _ => rfl, hl⟩, h2⟩
    · exact h1.elim
  all_goals first
    | exact False.elim h1
    | exact h1 hl
    | (simp only [stepI] at h1; (repeat' split at h1) <;> first | exact h1.elim | exact h1 hl | exact h1.2 hl | exact h1.2.2 hl | exact h1.2.2.2 hl)
theorem keep : ∀ d, CK (EvD d) := by
  intro d
  induction d with
  | zero => intro y as I L S r h; exact h.elim
  | succ d ih =>
    intro y as I L S r h hl
    obtain ⟨_, _, h⟩ := h
    refine h (KP y r) (fun pc ls st I L S hs hl => ?_) hl
    unfold stepR at hs
    split at hs
    · rename_i hd; exact kstep ih hd hs.2 hl
    · exact hs.elim
theorem dec_out {code : ByteArray} {pc : Nat} (h : ¬ pc < code.size) (q : Instr × Nat) : decode code pc ≠ .ok q := by
  intro hd
  have hu : ∃ e, (ClassFile.Reader.u1 : ClassFile.Decoder Nat) code pc = .error e := by
    refine ⟨ClassFile.HasTruncated.truncated pc, ?_⟩
    show (dite (pc < code.size) _ (fun _ => throw (ClassFile.HasTruncated.truncated pc)) : ClassFile.Decoder Nat) code pc = _
    rw [dif_neg h]
    rfl
  obtain ⟨e, hu⟩ := hu
  have : decode code pc = .error e := by
    unfold decode
    show Except.bind (Except.bind ((ClassFile.Reader.u1 : ClassFile.Decoder Nat) code pc) _) _ = _
    rw [hu]
    rfl
  rw [this] at hd
  cases hd
def isIr : Except ClassFile.DecodeError (Instr × Nat) → Bool
  | .ok (.ireturn, _) => true
  | _ => false
theorem noIr {y : Nat} (h : (List.range (mB y).size).all (fun pc => !isIr (decode (mB y) pc)) = true) {pc n : Nat} (hd : decode (mB y) pc = .ok (.ireturn, n)) : False := by
  by_cases hp : pc < (mB y).size
  · have := List.all_eq_true.mp h pc (List.mem_range.mpr hp)
    rw [hd] at this
    cases this
  · exact dec_out hp _ hd
theorem noIr142 : (List.range (mB 142).size).all (fun pc => !isIr (decode (mB 142) pc)) = true := by decide +kernel
theorem noIr266 : (List.range (mB 266).size).all (fun pc => !isIr (decode (mB 266) pc)) = true := by decide +kernel
theorem callR_C {vt : Bool} {C C' : CC} {y pc nx y' n : Nat} {ls st : List Value} {I : VI} {L : VL} {S : SW} {K : KK} {r : Res} (hC : ∀ y as I L S r, C y as I L S r → C' y as I L S r) (h : callR vt C y pc nx y' n ls st I L S K r) : callR vt C' y pc nx y' n ls st I L S K r := by
  obtain ⟨h1, h2, r', h3, h4⟩ := h
  exact ⟨h1, h2, r', hC _ _ _ _ _ _ h3, h4⟩
theorem stepI_C {C C' : CC} {y pc nx : Nat} {i : Instr} {ls st : List Value} {I : VI} {L : VL} {S : SW} {K : KK} {r : Res} (hC : ∀ y as I L S r, C y as I L S r → C' y as I L S r) (h1 : stepI C y pc nx i ls st I L S K r) : stepI C' y pc nx i ls st I L S K r := by
  cases i
  case invokestatic j =>
    simp only [stepI] at h1 ⊢
    by_cases hq : sp (mO y) j = 2
    · simp only [if_pos hq] at h1 ⊢; exact h1
    · simp only [if_neg hq] at h1 ⊢
      generalize mk (mO y) j = w at h1 ⊢
      split at h1
      · exact ⟨h1.1, callR_C hC h1.2⟩
      · exact h1.elim
  case invokevirtual j =>
    simp only [stepI] at h1 ⊢
    by_cases hq : sp (mO y) j = 3
    · simp only [if_pos hq] at h1 ⊢; exact h1
    · simp only [if_neg hq] at h1 ⊢
      by_cases hq2 : sp (mO y) j = 4
      · simp only [if_pos hq2] at h1 ⊢; exact h1
      · simp only [if_neg hq2] at h1 ⊢
        generalize mk (mO y) j = w at h1 ⊢
        split at h1
        · exact ⟨h1.1, h1.2.1, callR_C hC h1.2.2⟩
        · exact h1.elim
  case invokespecial j =>
    simp only [stepI] at h1 ⊢
    by_cases hq : sp (mO y) j = 1
    · simp only [if_pos hq] at h1 ⊢; exact h1
    · simp only [if_neg hq] at h1 ⊢
      generalize mk (mO y) j = w at h1 ⊢
      split at h1
      · exact ⟨h1.1, h1.2.1, callR_C hC h1.2.2⟩
      · exact h1.elim
  all_goals exact h1
theorem EvD_up : ∀ d y as I L S r, EvD d y as I L S r → EvD (d + 1) y as I L S r := by
  intro d
  induction d with
  | zero => intro y as I L S r h; exact h.elim
  | succ d ih =>
    intro y as I L S r h
    obtain ⟨h1, h2, h3⟩ := h
    refine ⟨h1, h2, fun P hP => h3 P (fun pc ls st I L S hs => hP pc ls st I L S ?_)⟩
    unfold stepR at hs ⊢
    generalize decode (mB y) pc = w at hs ⊢
    split at hs
    · exact ⟨hs.1, stepI_C ih hs.2⟩
    · exact hs.elim
/-- the component a call deeper than the reference -/
def PairM (n d yC yM : Nat) (as : List Value) (ex : List (Nat × Nat)) (I : VI) (L : VL) (S : SW) : Prop :=
  (∃ v I1, (∀ r, EvD d yC (.ref 16 :: as) I L S r ↔ r = (.inl (some v), I1, L, S)) ∧ (old I I1 ∧ shp yC (.inl (some v))) ∧ ∀ L S, S.1 = W0 n → ∃ I2 L', L' 562 0 = L 562 0 ∧ (∀ r, EvD (d + 1) yM (.ref 71 :: as) I1 L S r ↔ r = (.inl (some v), I2, L', S)) ∧ old I I2 ∧ Inv I2 ∧ I2 71 0 = i32 0 ∧ I2 1 = I 1) ∨
  (∃ E w v I1, (E, w) ∈ ex ∧ (∀ r, EvD d yC (.ref 16 :: as) I L S r ↔ r = (.inr E, I1, L, bump S)) ∧ old I I1 ∧ ∀ L S, S.1 = W0 n → ∃ I2, (∀ r, EvD (d + 1) yM (.ref 71 :: as) I1 L S r ↔ r = (.inl (some v), I2, L, S)) ∧ shp yM (.inl (some v)) ∧ old I I2 ∧ Inv I2 ∧ I2 71 0 = i32 w ∧ I2 1 = I 1)
theorem W0_len {n : Nat} : 16 ≤ (W0 n).length := by unfold W0; simp [w16]
theorem mixP {n d yC yM : Nat} {as : List Value} {ex : List (Nat × Nat)} {I : VI} {L : VL} {S : SW} (hS : S.1 = W0 n) (h : PairQ n d yC yM as ex I L S) (h' : PairQ n (d + 1) yC yM as ex I L S) : PairM n d yC yM as ex I L S := by
  have hl : 16 ≤ S.1.length := by rw [hS]; exact W0_len
  rcases h with ⟨v, I1, a1, a2⟩ | ⟨E, w, v, I1, ae, a1, a2⟩
  · have k1 := keep d _ _ _ _ _ _ ((a1 _).mpr rfl) hl
    have u1 := EvD_up _ _ _ _ _ _ _ ((a1 _).mpr rfl)
    rcases h' with ⟨v', I1', b1, b2⟩ | ⟨E', w', v', I1', be, b1, b2⟩
    · have e := (b1 _).mp u1
      simp only [Prod.mk.injEq, Sum.inl.injEq, Option.some.injEq] at e
      obtain ⟨rfl, rfl, -, -⟩ := e
      refine Or.inl ⟨v, I1, a1, ⟨k1.1.1, k1.2⟩, fun L S hS => ?_⟩
      obtain ⟨I2, L', c1, c2, c3, c4, c5⟩ := b2 L S hS
      have k2 := keep _ _ _ _ _ _ _ ((c2 _).mpr rfl) (by rw [hS]; exact W0_len)
      exact ⟨I2, L', c1, c2, old_t k1.1.1 k2.1.1, c3, c4, c5⟩
    · have e := (b1 _).mp u1
      simp at e
  · have k1 := keep d _ _ _ _ _ _ ((a1 _).mpr rfl) hl
    have u1 := EvD_up _ _ _ _ _ _ _ ((a1 _).mpr rfl)
    rcases h' with ⟨v', I1', b1, b2⟩ | ⟨E', w', v', I1', be, b1, b2⟩
    · have e := (b1 _).mp u1
      simp at e
    · have e := (b1 _).mp u1
      simp only [Prod.mk.injEq, Sum.inr.injEq] at e
      obtain ⟨rfl, rfl, -, -⟩ := e
      refine Or.inr ⟨E, w', v', I1, be, a1, k1.1.1, fun L S hS => ?_⟩
      obtain ⟨I2, c2, c3, c4, c5⟩ := b2 L S hS
      have k2 := keep _ _ _ _ _ _ _ ((c2 _).mpr rfl) (by rw [hS]; exact W0_len)
      exact ⟨I2, c2, k2.2, old_t k1.1.1 k2.1.1, c3, c4, c5⟩
