section Snd
/-- the room of a method at depth d -/
def rmD (d mc ms : Nat) : Room := { frames := d + 8, cells := mc, slots := ms, locals := 40 * d + 200 }
def wsY (y : Nat) : List Cond := cdW y :: wsG
def PcM (G : GX) (B0 : Nat) (as : List Value) (I : VI) (L : VL) (S : SW) : Array Value → State → Prop := va_Pc (as.map (conc G.1)) (fun U => Mem G B0 I L S U.heap ∧ va_K G.2.1 vwCl (gTys G) U ∧ Fx G B0 U U.heap ∧ B0 ≤ U.heap.size)
def QcM (G : GX) (B0 : Nat) (v : Option Value) (I : VI) (L : VL) (S : SW) : Array Value → State → Outcome → State → Prop := fun _ st o t => o = .returned (v.map (conc G.1)) ∧ Mem G B0 I L S t.heap ∧ va_F (AB B0) st t
def exN (E : Nat) : String := if E = 0 then "java/lang/IllegalArgumentException" else "java/util/NoSuchElementException"
def XcM (G : GX) (B0 E : Nat) (I : VI) (L : VL) (S : SW) : String → State → State → Prop := fun En st t => En = exN E ∧ Mem G B0 I L S t.heap ∧ va_F (AB B0) st t
/-- a method's contract over the machine, out of what the small machine says of it -/
def SndR (l : Launch) (G : GX) (B0 d y : Nat) (as : List Value) (I : VI) (L : VL) (S : SW) (r : Res) : Prop :=
  (S.2.2.1 ≤ r.2.2.2.2.2.1 ∧ S.2.2.2 ≤ r.2.2.2.2.2.2) ∧ match r.1 with
  | .inl v => Met l (mY y) (wsY y) (rmD d (r.2.2.2.2.2.1 - S.2.2.1) (r.2.2.2.2.2.2 - S.2.2.2)) (PcM G B0 as I L S) (QcM G B0 v r.2.1 r.2.2.1 r.2.2.2) (r.2.2.2.2.2.1 - S.2.2.1) (r.2.2.2.2.2.2 - S.2.2.2) (AB B0)
  | .inr E => vx_Met l (mY y) (wsY y) (rmD d (r.2.2.2.2.2.1 - S.2.2.1) (r.2.2.2.2.2.2 - S.2.2.2)) (PcM G B0 as I L S) (fun _ _ _ _ => False) (XcM G B0 E r.2.1 r.2.2.1 r.2.2.2) (r.2.2.2.2.2.1 - S.2.2.1) (r.2.2.2.2.2.2 - S.2.2.2) (AB B0)
theorem wsY_good {y y' : Nat} (h : y' < 319) : GoodIn (wsY y) (wsY y') := by
  intro w hw
  rcases List.mem_cons.mp hw with rfl | hw
  · exact ⟨List.mem_cons_of_mem _ (cd_ok h), good_of_word (cd_good y')⟩
  · exact ⟨List.mem_cons_of_mem _ hw, good_of_word (List.mem_filter.mp hw).2⟩
theorem wsG_good {y' : Nat} (h : y' < 319) : GoodIn wsG (wsY y') := by
  intro w hw
  rcases List.mem_cons.mp hw with rfl | hw
  · exact ⟨cd_ok h, good_of_word (cd_good y')⟩
  · exact ⟨hw, good_of_word (List.mem_filter.mp hw).2⟩
theorem PcM_blind {G : GX} {B0 : Nat} {as : List Value} {I : VI} {L : VL} {S : SW} : FrameBlind (PcM G B0 as I L S) := by
  intro a U g mk h
  obtain ⟨h1, h2, h3, h4, h5⟩ := h
  exact ⟨h1, h2, va_K.moved (u := U) (U := U.calling g mk a) (Vm.Alike.refl U.vm) h3, Fx.go (U := U.calling g mk a) h4 (State.WarmedH.refl U) (fun _ _ _ => rfl), h5⟩
variable {p : Program} {l : Launch} {e : Env} {R : Room} {s : State} {m : MethodId} {args : Array Value} {below : List Frame} {meth : Method} {c : Code} {Q : State → Prop} {G : GX} {B0 y uc us rc rs : Nat}
/-- at a call: the callee's precondition -/
theorem pc_at {I : VI} {L : VL} {S : SW} {H : Heap} {locs : List Loc} {as : List Value} (ctx : At0 p s m args c G B0 y) (hM : Mem G B0 I L S H) (hS : va_S (AB B0) s.heap H locs) : ∀ U : State, U.heap = H → s.WarmedH U.vm → PcM G B0 as I L S (as.map (conc G.1)).toArray U := by
  intro U hU hW
  obtain ⟨hx, hb, hml, hown, hts, hK, hB, hF, hg⟩ := ctx
  exact ⟨rfl, by rw [hU]; exact hM, hK.moved hW.alike, by rw [hU]; exact Fx.go hF hW hS.2.1, by rw [hU]; have := hS.1; omega⟩
/-- behind a call that returns -/
theorem pp_ret {pc nx : Nat} {ls st0 rest : List Value} {I I' : VI} {L L' : VL} {S S' : SW} {v : Option Value} {a : Array Value} (h : PP p l e R s m args below meth c Q G B0 y uc us rc rs nx ls (v.toList ++ rest) I' L' S') (hnx : nx = pc + 3) (g1 : S.2.2.1 ≤ S'.2.2.1) (g2 : S.2.2.2 ≤ S'.2.2.2)
    (run : uc ≤ S.2.2.1 → us ≤ S.2.2.2 → S'.2.2.1 ≤ rc → S'.2.2.2 ≤ rs → ∀ (H : Heap) (locs : List Loc) (lr : Array Slot), Mem G B0 I L S H → lr.size = mL y → va_S (AB B0) s.heap H locs → va_Run p l e R s m args below meth c H locs (S.2.2.1 - uc) (S.2.2.2 - us) (S'.2.2.1 - S.2.2.1) (S'.2.2.2 - S.2.2.2) (F0 m pc lr (st0.map (conc G.1))) (rest.map (conc G.1)) (QcM G B0 v I' L' S' a) (AB B0)) :
    PP p l e R s m args below meth c Q G B0 y uc us rc rs pc ls st0 I L S := by
  intro b1 b2 b3
  obtain ⟨⟨r1, r2⟩, h3⟩ := h (by omega) (by omega) b3
  refine ⟨⟨by omega, by omega⟩, fun H locs lr hM hlv hS => ?_⟩
  intro T hT X
  obtain ⟨v0, st₀, t, T', Lc, e0, X', hL, e1, e2, ⟨hv, hM', hz, hk⟩, go⟩ := run b1 b2 r1 r2 H locs lr hM hlv.1 hS T hT X
  have hv' : v0 = v.map (conc G.1) := by injection hv
  subst hv'
  rw [e0] at hz hk
  have hS' : va_S (AB B0) s.heap t.heap (locs ++ Lc) := ⟨Nat.le_trans hS.1 hz, fun q h1 h2 => (hk q (Nat.lt_of_lt_of_le h1 hS.1) h2).trans (hS.2.1 q h1 h2), fun q hq => by
    rcases List.mem_append.mp hq with hq | hq
    · exact hS.2.2 q hq
    · exact hL q hq⟩
  have h4 := h3 t.heap (locs ++ Lc) lr hM' hlv hS'
  rw [show S'.2.2.1 - uc = S.2.2.1 - uc + (S'.2.2.1 - S.2.2.1) by omega, show S'.2.2.2 - us = S.2.2.2 - us + (S'.2.2.2 - S.2.2.2) by omega] at h4
  obtain ⟨tt, a1, b1'⟩ := h4 T' e1 X'
  refine ⟨tt, go tt ?_, b1'⟩
  subst hnx
  have e5 : (v.toList ++ rest).map (conc G.1) = (v.map (conc G.1)).toList ++ rest.map (conc G.1) := by cases v <;> simp
  rw [e5] at a1
  exact a1
theorem mk_facts {o j o' j' y' kd nest : Nat} {ps : List Nat} (h : mk o j = some (o', j', y', kd, nest, ps)) :
    (if nest = 0 then Cond.methodLink (oR o) j (mY y') ∈ wsG else Cond.methodLinkNest (oR o) j (mY y') "DebtMiller" ∈ lw_tbl) ∧ (if kd = 2 then Cond.static (mY y') ∈ wsG else Cond.instanceMethod (mY y') ∈ wsG) ∧ (kd = 0 → Cond.selects (mY y').cls (mY y') (mY y') ∈ wsG) ∧ (kd = 1 → (mY y').name = "<init>" ∧ mR y' = none) ∧ Cond.initialized (mY y').cls ∈ wsG ∧
    ((mY y').cls ≠ "java/lang/invoke/MethodHandle" ∧ (mY y').cls ≠ "java/lang/invoke/VarHandle" ∧ (parseMethodDescriptor (mY y').desc).map (fun d => d.parameters.length) = some (mP y')) ∧ (mY y').cls = oR (mO y') ∧ plainFor (mY y') = true ∧ (12 < mO y' ∨ plainName (mY y').cls = true) ∧ mL y' ≤ 20 ∧ (kd = 2 ∨ mO y' < 12) ∧ (kd = 1 ∨ nest = 0) ∧ (kd = 2 ∨ isH y' = false) ∧ y' < 319 := by
  obtain ⟨h1, h2, h3⟩ := mk_ok h
  have hm : (o', j', y', kd, nest, ps) ∈ mkTab := List.mem_of_find?_eq_some h
  have h4 := List.all_eq_true.mp mk_kd _ hm
  dsimp only at h1 h2
  subst h1 h2
  unfold mkOK at h3
  simp only [Bool.and_eq_true, Bool.or_eq_true] at h3 h4
  obtain ⟨⟨⟨⟨⟨⟨⟨⟨⟨⟨⟨a1, a2⟩, a3⟩, a4⟩, a5⟩, a6⟩, a7⟩, a8⟩, a9⟩, a10⟩, a11⟩, a12⟩ := h3
  obtain ⟨⟨⟨c1, c2⟩, c3⟩, c4⟩ := h4
  refine ⟨?_, ?_, fun hk => ?_, fun hk => ?_, inG_mem a5, ⟨of_decide_eq_true a6, of_decide_eq_true a7, of_decide_eq_true a8⟩, of_decide_eq_true a9, a10, ?_, of_decide_eq_true a12, ?_, ?_, ?_, of_decide_eq_true c4⟩
  · by_cases hn : nest = 0
    · rw [if_pos hn] at a1 ⊢; exact inG_mem a1
    · rw [if_neg hn] at a1 ⊢; exact inT_mem a1
  · by_cases hn : kd = 2
    · rw [if_pos hn] at a2 ⊢; exact inG_mem a2
    · rw [if_neg hn] at a2 ⊢; exact inG_mem a2
  · rw [if_pos hk] at a3; exact inG_mem a3
  · rw [if_pos hk, Bool.and_eq_true] at a4; exact ⟨of_decide_eq_true a4.1, of_decide_eq_true a4.2⟩
  · exact a11.imp of_decide_eq_true id
  · exact c1.imp of_decide_eq_true of_decide_eq_true
  · exact c2.imp of_decide_eq_true of_decide_eq_true
  · exact c3.imp of_decide_eq_true (fun z => by simpa using z)
end Snd
