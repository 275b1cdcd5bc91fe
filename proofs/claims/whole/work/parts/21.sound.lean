section Snd
variable {l : Launch} {G : GX} {B0 : Nat}
theorem yfacts {y : Nat} (h : y < 319) : (mY y).cls = oR (mO y) ∧ plainFor (mY y) = true ∧ (12 < mO y ∨ plainName (mY y).cls = true) ∧ (isH y = true ↔ mO y = 12) := by
  have key : (List.range 319).all (fun y => decide ((mY y).cls = oR (mO y)) && plainFor (mY y) && (decide (12 < mO y) || plainName (mY y).cls) && decide (isH y = true ↔ mO y = 12)) = true := by decide +kernel
  have h1 := List.all_eq_true.mp key y (List.mem_range.mpr h)
  simp only [Bool.and_eq_true, Bool.or_eq_true] at h1
  exact ⟨of_decide_eq_true h1.1.1.1, h1.1.1.2, h1.1.2.imp of_decide_eq_true id, of_decide_eq_true h1.2⟩
theorem th_lt {y pc E : Nat} (h : th y pc = some E) : y = 158 ∨ y = 160 ∨ y = 161 := by
  unfold th at h
  cases hf : thTab.find? (fun e => e.1 == y && e.2.1 == pc) with
  | none => rw [hf] at h; cases h
  | some q =>
    have h1 := List.find?_some hf
    have h2 := List.mem_of_find?_eq_some hf
    rw [Bool.and_eq_true] at h1
    obtain ⟨q1, q2, q3⟩ := q
    have e1 := eq_of_beq h1.1
    dsimp only at e1
    subst e1
    have h3 : (q1 = 158 ∧ q2 = 20 ∧ q3 = 0) ∨ (q1 = 160 ∧ q2 = 25 ∧ q3 = 1) ∨ (q1 = 161 ∧ q2 = 25 ∧ q3 = 1) := by simpa [thTab] using h2
    omega
set_option maxHeartbeats 4000000 in
theorem sound (hl : l.stackTraces = false) (hg : ∀ k, 16 ≤ k → G.1 k = B0 + (k - 16)) (d : Nat) : ∀ (y : Nat) (as : List Value) (I : VI) (L : VL) (S : SW) (r : Res), y < 319 → EvD d y as I L S r → SndR l G B0 d y as I L S r := by
  induction d with
  | zero => exact fun _ _ _ _ _ _ _ h => h.elim
  | succ d ih =>
    intro y as I L S r hy hev
    have hu := used_of (d + 1) y as I L S r hy hev
    obtain ⟨y1, y2, y3, y4⟩ := yfacts hy
    refine ⟨hu, ?_⟩
    obtain ⟨w, I', L', S'⟩ := r
    dsimp only at hu
    cases w with
    | inl v =>
      dsimp only
      have hroom : RmD (rmD (d + 1) (S'.2.2.1 - S.2.2.1) (S'.2.2.2 - S.2.2.2)) d S.2.2.1 S.2.2.2 S'.2.2.1 S'.2.2.2 := ⟨by simp only [rmD]; omega, by simp only [rmD]; omega, Nat.le_refl _, Nat.le_refl _⟩
      have main : ∀ (p : Program) (e : Env) (s : State) (m : MethodId) (args : Array Value) (below : List Frame) (meth : Method) (c : Code) (s₁ : State), BodyLoose p l (mY y) (headSpec (wsY y) (rmD (d + 1) (S'.2.2.1 - S.2.2.1) (S'.2.2.2 - S.2.2.2))) (mB y) (mL y) (mR y) e s m args below meth c s₁ → c.maxLocals = mL y → PcM G B0 as I L S args s → (isH y = true → c.exceptionTable.toList = tableOf (hh y)) →
          W p l e (headSpec (wsY y) (rmD (d + 1) (S'.2.2.1 - S.2.2.1) (S'.2.2.2 - S.2.2.2))).room s m args below meth c s.heap [] 0 0 (MQ below (QcM G B0 v I' L' S') args s (S'.2.2.1 - S.2.2.1) (S'.2.2.2 - S.2.2.2) (AB B0)) (entryFrame m args (mL y)) := by
        intro p e s m args below meth c s₁ B hml hv htab
        have hts := atoms_spec (ws := wsY y) B.pre
        have ctx := body_ctx hg y1 B hml (fun w hw => hts w (List.mem_cons_of_mem _ hw)) hv
        have hin : (mY y).name = "<init>" → meth.name = "<init>" := fun h => (name_of_methodNamed B.named B.method).1.trans h
        obtain ⟨rfl, hM, -⟩ := id hv
        refine body_walk (d := d) (I := I) (L := L) (S := S) (r := (.inl v, I', L', S')) ctx hroom hin ih ⟨?_, ?_, ?_, ?_⟩ hev hM
        · intro v0 I0 L0 S0 H locs lr pc hr hM0 hS hq
          cases hr
          exact ends_ret ctx B.returns B.notSynchronized hM0 hS hq
        · intro E I0 L0 S0 H locs lr pc j rest _ _ hr
          cases hr
        · intro E I0 L0 S0 H locs lr pc rest q ce hr
          cases hr
        · intro E h n pc cells slots H locs lr ls rest q ce hq hE hn1 hn2 hlv z1 z2 z3 kk
          have hH := (hn_ok hq).2
          exact ends_cat ctx (htab hH) hq hE (y4.mp hH) hn1 hn2 hlv z1 z2 z3 kk
      cases hH : isH y with
      | false =>
        have hcw : wsY y = Cond.code (mY y) (mB y) (mL y) (mR y) :: wsG := by unfold wsY cdW; rw [hH]; rfl
        exact va_MetF y2 hcw (fun p e s m args below meth c s₁ B hml hv => main p e s m args below meth c s₁ B hml hv (fun h => by rw [hH] at h; cases h))
      | true =>
        have hcw : wsY y = Cond.codeWith (mY y) (mB y) (mL y) (mR y) (hh y) :: wsG := by unfold wsY cdW; rw [hH]; rfl
        have hO := y4.mp hH
        have hpn : plainName (mY y).cls = true := by
          rcases y3 with q | q
          · omega
          · exact q
        refine va_MetW hpn hcw (fun p e s m args below meth c s₁ B hml hv => main p e s m args below meth c s₁ B hml hv (fun _ => ?_))
        exact vx_table (x := mY y) B (atoms_spec (ws := wsY y) B.pre _ (by rw [hcw]; exact List.mem_cons_self))
    | inr E =>
      dsimp only
      have hroom : RmD (rmD (d + 1) (S'.2.2.1 - S.2.2.1) (S'.2.2.2 - S.2.2.2)) d S.2.2.1 S.2.2.2 S'.2.2.1 S'.2.2.2 := ⟨by simp only [rmD]; omega, by simp only [rmD]; omega, Nat.le_refl _, Nat.le_refl _⟩
      by_cases hO : mO y < 12
      · have hnH : isH y = false := by
          cases hH : isH y with
          | false => rfl
          | true => have := y4.mp hH; omega
        have hpn : plainName (mY y).cls = true := by
          rcases y3 with q | q
          · omega
          · exact q
        have hcw : wsY y = Cond.code (mY y) (mB y) (mL y) (mR y) :: wsG := by unfold wsY cdW; rw [hnH]; rfl
        refine vx_ofW hpn hcw ?_
        intro p e s m args below meth c s₁ B hml hno hv
        have hts := atoms_spec (ws := wsY y) B.pre
        have ctx := body_ctx hg y1 B hml (fun w hw => hts w (List.mem_cons_of_mem _ hw)) hv
        have hin : (mY y).name = "<init>" → meth.name = "<init>" := fun h => (name_of_methodNamed B.named B.method).1.trans h
        obtain ⟨rfl, hM, -⟩ := id hv
        refine body_walk (d := d) (I := I) (L := L) (S := S) (r := (.inr E, I', L', S')) ctx hroom hin ih ⟨?_, ?_, ?_, ?_⟩ hev hM
        · intro v0 I0 L0 S0 H locs lr pc hr
          cases hr
        · intro E0 I0 L0 S0 H locs lr pc j rest q1 q2 hr hth hd hM0 hsz hS hcat
          cases hr
          refine ends_thr (mc := (bump S0).2.2.1 - S.2.2.1) (ms := (bump S0).2.2.2 - S.2.2.2) hl ctx B.notSynchronized hno ?_ ?_ hth hd hM0 hsz hS hcat ?_ ?_ (Nat.le_refl _) (Nat.le_refl _)
          · show 8 ≤ d + 1 + 8
            omega
          · show 200 ≤ 40 * (d + 1) + 200
            omega
          · simp only [bump]; omega
          · simp only [bump]; omega
        · intro E0 I0 L0 S0 H locs lr pc rest q ce hr _ _ hM0 hS z1 z2 z3
          cases hr
          exact ends_out B.notSynchronized hno hM0 hS z1 z2 z3 (Nat.le_refl _) (Nat.le_refl _)
        · intro E0 h n pc cells slots H locs lr ls rest q ce hq
          have hH := (hn_ok hq).2
          rw [hnH] at hH
          cases hH
      · have main : ∀ (p : Program) (e : Env) (s : State) (m : MethodId) (args : Array Value) (below : List Frame) (meth : Method) (c : Code) (s₁ : State), BodyLoose p l (mY y) (headSpec (wsY y) (rmD (d + 1) (S'.2.2.1 - S.2.2.1) (S'.2.2.2 - S.2.2.2))) (mB y) (mL y) (mR y) e s m args below meth c s₁ → c.maxLocals = mL y → PcM G B0 as I L S args s → (isH y = true → c.exceptionTable.toList = tableOf (hh y)) →
            W p l e (headSpec (wsY y) (rmD (d + 1) (S'.2.2.1 - S.2.2.1) (S'.2.2.2 - S.2.2.2))).room s m args below meth c s.heap [] 0 0 (MQ below (fun _ _ _ _ => False) args s (S'.2.2.1 - S.2.2.1) (S'.2.2.2 - S.2.2.2) (AB B0)) (entryFrame m args (mL y)) := by
          intro p e s m args below meth c s₁ B hml hv htab
          have hts := atoms_spec (ws := wsY y) B.pre
          have ctx := body_ctx hg y1 B hml (fun w hw => hts w (List.mem_cons_of_mem _ hw)) hv
          have hin : (mY y).name = "<init>" → meth.name = "<init>" := fun h => (name_of_methodNamed B.named B.method).1.trans h
          obtain ⟨rfl, hM, -⟩ := id hv
          refine body_walk (d := d) (I := I) (L := L) (S := S) (r := (.inr E, I', L', S')) ctx hroom hin ih ⟨?_, ?_, ?_, ?_⟩ hev hM
          · intro v0 I0 L0 S0 H locs lr pc hr
            cases hr
          · intro E0 I0 L0 S0 H locs lr pc j rest q1 q2 hr hth
            exfalso
            rcases th_lt hth with e1 | e1 | e1 <;> subst e1 <;> exact hO (by decide)
          · intro E0 I0 L0 S0 H locs lr pc rest q ce hr _ hO2
            exact absurd hO2 hO
          · intro E0 h n pc cells slots H locs lr ls rest q ce hq hE hn1 hn2 hlv z1 z2 z3 kk
            have hH := (hn_ok hq).2
            exact ends_cat ctx (htab hH) hq hE (y4.mp hH) hn1 hn2 hlv z1 z2 z3 kk
        have up : Met l (mY y) (wsY y) (rmD (d + 1) (S'.2.2.1 - S.2.2.1) (S'.2.2.2 - S.2.2.2)) (PcM G B0 as I L S) (fun _ _ _ _ => False) (S'.2.2.1 - S.2.2.1) (S'.2.2.2 - S.2.2.2) (AB B0) := by
          cases hH : isH y with
          | false =>
            have hcw : wsY y = Cond.code (mY y) (mB y) (mL y) (mR y) :: wsG := by unfold wsY cdW; rw [hH]; rfl
            exact va_MetF y2 hcw (fun p e s m args below meth c s₁ B hml hv => main p e s m args below meth c s₁ B hml hv (fun h => by rw [hH] at h; cases h))
          | true =>
            have hcw : wsY y = Cond.codeWith (mY y) (mB y) (mL y) (mR y) (hh y) :: wsG := by unfold wsY cdW; rw [hH]; rfl
            have hO9 := y4.mp hH
            have hpn : plainName (mY y).cls = true := by
              rcases y3 with q | q
              · omega
              · exact q
            refine va_MetW hpn hcw (fun p e s m args below meth c s₁ B hml hv => main p e s m args below meth c s₁ B hml hv (fun _ => ?_))
            exact vx_table (x := mY y) B (atoms_spec (ws := wsY y) B.pre _ (by rw [hcw]; exact List.mem_cons_self))
        intro p e ha hc hk s m args below hf happ hP hK9
        obtain ⟨t, o, a1, a2, a3, a4⟩ := up p e ha hc hk s m args below hf happ hP hK9
        exact ⟨t, o, a1, a2, a3, Or.inl a4⟩
end Snd
