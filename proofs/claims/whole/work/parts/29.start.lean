/-! THE LAW'S ENTRY: the memory of the small machine at the start, and the claim out of its run -/
def R_law : String := "DebtMillerLaw"
def I0 (xs : Nat → Int32) : VI := fun k j => if k = 1 then xs j else if k = 2 then usual j else 0
def S00 (n : Nat) : SW := (w16 n, true, 0, 0)
def lw_P (b : Addr) (xs : List Int32) (args : Array Value) (s : State) : Prop := args = #[.ref b] ∧ s.IntsAt b xs ∧ xs.length ≤ 5120 ∧ (Jvm.Cond.and given_1 narrow_1).before args s = true
def lw_Q (_ : Array Value) (s : State) (o : Outcome) (t : State) : Prop := o = .returned (some (.int 1)) ∧ Framed s o t [] 601024 7293034
def lw_Z (below : List Frame) (a : Array Value) (s : State) : State → Prop := fun t => ∃ o, t.status = .running ∧ Ended t below o ∧ lw_Q a s o t
theorem lw_ret {p : Program} {l : Launch} {e : Env} {s : State} {m : MethodId} {below : List Frame} {meth : Method} {c : Code} {b : Nat} (hx : p.tables.exec = Jvm.exec) (hb : c.code = code) (hr : meth.sig.returnType = ret) (hlocks : meth.locks = false) {pc : Nat} {H : Heap} {ls : Array Slot} (hdg : decode code pc = .ok (.ireturn, 1)) : W p l e room_1 s m #[Value.ref b] below meth c H [] 601024 7293034 (lw_Z below #[Value.ref b] s) (F0 m pc ls [.int 1]) := by
  intro T hT X
  obtain ⟨fs, hret, hrun, hended, hW, hframe⟩ := X.leave (v := some (.int 1)) (hlocks := hlocks) (fun h => by rw [hr] at h; cases h)
  have hmeth' : T.vm.method? m = some meth := X.method'
  refine ⟨T.setFrames fs, ?_, .returned (some (.int 1)), hrun, hended, rfl, ⟨_, rfl⟩, hW, hframe⟩
  jvm_step X.here [X.here.top, hx, hb, hdg, hmeth', hr, ret, narrow_b1]
  (try refine ⟨rfl, ?_⟩); (try refine ⟨rfl, ?_⟩)
  first | (intro acts; rw [hret _ acts rfl rfl rfl]) | rw [hret _ _ rfl rfl rfl]
  exact Steps.refl _
def lw_At (p : Program) (s : State) (m : MethodId) (meth : Method) (c : Code) (b L : Nat) (xs : Nat → Int32) : Prop :=
  p.tables.exec = Jvm.exec ∧ c.code = code ∧ meth.sig.returnType = ret ∧ c.maxLocals = 8 ∧ s.vm.findClass R_law = some m.cls ∧ (∀ w ∈ lw_tbl, w.before #[Value.ref b] s = true) ∧ va_X b L xs s s.heap ∧ b < s.heap.size ∧ meth.locks = false ∧ (Jvm.Cond.and given_1 narrow_1).before #[Value.ref b] s = true
def stT (i : Nat) : Term := ([.string "DebtMiller$Valley" 58, .string "DebtMiller$Law" 68, .string "DebtMiller$Steps" 61] : List Term).getD i (.string "" 0)
theorem atoms_str : (List.range 3).all (fun i => decide (Cond.exactly (stT i) "java/lang/String" ∈ flatC (Jvm.Cond.and given_1 narrow_1)) && decide (Cond.eq (.field (stT i) "java/lang/String" "coder" "B") (.int 0) ∈ flatC (Jvm.Cond.and given_1 narrow_1)) && decide (Cond.arrayOf (.field (stT i) "java/lang/String" "value" "[B") .byte ∈ flatC (Jvm.Cond.and given_1 narrow_1)) && decide (Cond.eq (.length (.field (stT i) "java/lang/String" "value" "[B")) (.int (Int32.ofNat (txLen.getD i 0))) ∈ flatC (Jvm.Cond.and given_1 narrow_1))) = true := by decide +kernel
theorem atoms_byt : (List.range 3).all (fun i => (List.range (txLen.getD i 0)).all (fun j => decide (Cond.eq (.elem (.field (stT i) "java/lang/String" "value" "[B") (.int (Int32.ofNat j))) (.int ((txTab.getD i []).getD j 0)) ∈ flatC (Jvm.Cond.and given_1 narrow_1)))) = true := by decide +kernel
theorem atoms_ne : (List.range 3).all (fun i => (List.range 3).all (fun j => decide (i = j) || decide (Cond.not (Cond.eq (stT i) (stT j)) ∈ flatC (Jvm.Cond.and given_1 narrow_1)) || decide (Cond.not (Cond.eq (stT j) (stT i)) ∈ flatC (Jvm.Cond.and given_1 narrow_1)))) = true := by decide +kernel
theorem atoms_us : (List.range 9).all (fun j => decide (Cond.eq (.elem (.static "DebtMiller$Law" "USUAL" "[I") (.int (Int32.ofNat j))) (.int (usual j)) ∈ flatC (Jvm.Cond.and given_1 narrow_1))) = true := by decide +kernel
theorem inst_mem : ∀ ci, ci < 12 → Cond.instantiable (cC ci).1 (cC ci).2.2 ∈ wsG
  | 0, _ => inG_mem (p := 237) (by decide +kernel)
  | 1, _ => inG_mem (p := 216) (by decide +kernel)
  | 2, _ => inG_mem (p := 288) (by decide +kernel)
  | 3, _ => inG_mem (p := 308) (by decide +kernel)
  | 4, _ => inG_mem (p := 400) (by decide +kernel)
  | 5, _ => inG_mem (p := 339) (by decide +kernel)
  | 6, _ => inG_mem (p := 255) (by decide +kernel)
  | 7, _ => inG_mem (p := 345) (by decide +kernel)
  | 8, _ => inG_mem (p := 125) (by decide +kernel)
  | 9, _ => inG_mem (p := 157) (by decide +kernel)
  | 10, _ => inG_mem (p := 117) (by decide +kernel)
  | 11, _ => inG_mem (p := 1387) (by decide +kernel)
  | n + 12, h => absurd h (by omega)
theorem b_all {n : Nat} {p : Nat → Bool} (h : (List.range n).all p = true) {i : Nat} (hi : i < n) : p i = true := List.all_eq_true.mp h i (List.mem_range.mpr hi)
/-- addresses: the old ones as they lie, the new ones behind each other -/
def gam (b u t0 t1 t2 B0 : Nat) : Nat → Nat := fun k => if 16 ≤ k then B0 + (k - 16) else if k = 1 then b else if k = 2 then u else if k = 3 then t0 else if k = 4 then t1 else t2
theorem gam_new {b u t0 t1 t2 B0 : Nat} : ∀ k, 16 ≤ k → gam b u t0 t1 t2 B0 k = B0 + (k - 16) := fun k h => by unfold gam; rw [if_pos h]
theorem arr_rc {args : Array Value} {s : State} {t : FieldType} (h : (Cond.arrayClass t).before args s = true) (ho : ∀ C, t ≠ .object C) : ∃ c : ClassId, ArrOfT s c t ∧ va_RA s c t := by
  obtain ⟨c, k, comp, h1, h2, h3⟩ := Cond.arrayClass_spec h
  refine ⟨c, fun N z => ⟨(fun q hq => by cases hq), k, h2, comp, h3⟩, ?_⟩
  cases t <;> first | exact h1 | exact absurd rfl (ho _)
theorem arr_ao {args : Array Value} {s : State} {t : FieldType} (h : (Cond.arrayOver (.array t)).before args s = true) : ∃ c : ClassId, ArrOfT s c (.array t) ∧ va_RA s c (.array t) := by
  obtain ⟨comp, c, k, h1, h2, h3, h4, h5⟩ := arrayOverA_spec h
  exact ⟨c, fun N z => ⟨(fun q hq => by cases hq), k, h3, comp, h4⟩, h5⟩
set_option maxHeartbeats 4000000 in
/-- at the law's entry the small machine's memory lies in the heap -/
theorem start_fx {p : Program} {s : State} {m : MethodId} {meth : Method} {c : Code} {b n : Nat} {xs : Nat → Int32} (hn : n ≤ 5120) (C0 : lw_At p s m meth c b n xs) : ∃ G : GX, G.1 1 = b ∧ G.2.2.2 = (xs, n) ∧ At0 p s m #[Value.ref b] c G s.heap.size 319 ∧ Mem G s.heap.size (I0 xs) (fun _ _ => 0) (S00 n) s.heap := by
  obtain ⟨hx, hb, hr, hml, hown, hts, hX, hbl, hlocks, hgv⟩ := C0
  have hfl := flat_of_before _ hgv
  have hA : ∀ a : Nat, a < s.heap.size → ¬ AB s.heap.size a := fun a h => Nat.not_le.mpr h
  have hG : ∀ w ∈ wsG, w.before #[Value.ref b] s = true := fun w hw => hts w (List.mem_filter.mp hw).1
  have hKn : ∀ ci, ci < 12 → ∃ (cC0 : ClassId) (iS : Nat → Nat), u_Kn s (cC ci).1 (cC ci).2.1 (cC ci).2.2 cC0 iS := by
    intro ci hci
    have hi := hG _ (inst_mem ci hci)
    exact u_known hG (cl_ok ci hci).2.1 hi
  obtain ⟨dC, dI, hKd⟩ : ∃ (dC : Nat → ClassId) (dI : Nat → Nat → Nat), ∀ ci, ci < 12 → u_Kn s (cC ci).1 (cC ci).2.1 (cC ci).2.2 (dC ci) (dI ci) := by
    have h1 : ∀ ci, ∃ q : ClassId × (Nat → Nat), ci < 12 → u_Kn s (cC ci).1 (cC ci).2.1 (cC ci).2.2 q.1 q.2 := fun ci => by
      by_cases h : ci < 12
      · obtain ⟨a, b, q⟩ := hKn ci h
        exact ⟨(a, b), fun _ => q⟩
      · exact ⟨(0, fun _ => 0), fun z => absurd z h⟩
    exact ⟨fun ci => (h1 ci).choose.1, fun ci => (h1 ci).choose.2, fun ci h => (h1 ci).choose_spec h⟩
  obtain ⟨cI, aI⟩ := arr_rc (hG _ w_ai) (fun _ h => by cases h)
  obtain ⟨cB, aB⟩ := arr_rc (hG _ w_ab) (fun _ h => by cases h)
  obtain ⟨cJ, aJ⟩ := arr_rc (hG _ w_al) (fun _ h => by cases h)
  have hao : (Cond.arrayOver (.array .int)).before #[Value.ref b] s = true := hts _ (inT_mem (p := 1393) (by decide +kernel))
  obtain ⟨cO, aO⟩ := arr_ao hao
  have e1 : (Term.length (.static "DebtMiller$Law" "USUAL" "[I")).eval #[Value.ref b] s none [] s = some (.int (Int32.ofNat 9)) := va_eqt (hfl _ (by decide +kernel))
  obtain ⟨u, hu1, hu2⟩ := va_Tof (ty := .int) (N := 9) (f := fun j => .int (usual j)) (A := AB s.heap.size) (by decide) (hfl (Cond.arrayOf (.static "DebtMiller$Law" "USUAL" "[I") .int) (by decide +kernel)) e1 (fun j hj => va_eqt (hfl _ (of_decide_eq_true (b_all atoms_us hj)))) hA
  have hu3 : va_Z RX1 "USUAL" "[I" (.ref u) (AB s.heap.size) s s.heap := va_Zref (hts _ (inT_mem (p := 222) (by decide +kernel))) (hts _ (inT_mem (p := 94) (by decide +kernel))) hu1 hA
  have hst : ∀ i, i < 3 → (Cond.exactly (stT i) "java/lang/String").before #[Value.ref b] s = true ∧ (Cond.eq (.field (stT i) "java/lang/String" "coder" "B") (.int 0)).before #[Value.ref b] s = true ∧ (Cond.arrayOf (.field (stT i) "java/lang/String" "value" "[B") .byte).before #[Value.ref b] s = true ∧ (Cond.eq (.length (.field (stT i) "java/lang/String" "value" "[B")) (.int (Int32.ofNat (txLen.getD i 0)))).before #[Value.ref b] s = true := by
    intro i hi
    have h1 := b_all atoms_str hi
    simp only [Bool.and_eq_true] at h1
    exact ⟨hfl _ (of_decide_eq_true h1.1.1.1), hfl _ (of_decide_eq_true h1.1.1.2), hfl _ (of_decide_eq_true h1.1.2), hfl _ (of_decide_eq_true h1.2)⟩
  obtain ⟨adK, adV, hS1, hS2⟩ := vk_Sof (N := 3) (tm := stT) (len := txLen) (byt := txTab) (A := AB s.heap.size) (by decide) (fun i hi => (hst i hi).1) (fun i hi => (hst i hi).2.1) (fun i hi => (hst i hi).2.2.1) (fun i hi => (hst i hi).2.2.2) (fun i hi j hj => hfl _ (of_decide_eq_true (b_all (b_all atoms_byt hi) hj))) (fun i j hi hj hij => by
      have h1 := b_all (b_all atoms_ne hi) hj
      simp only [Bool.or_eq_true] at h1
      rcases h1 with (h1 | h1) | h1
      · exact absurd (of_decide_eq_true h1) hij
      · exact Or.inl (hfl _ (of_decide_eq_true h1))
      · exact Or.inr (hfl _ (of_decide_eq_true h1))) hA
  have hfc : ∀ ci, ci < 12 → s.vm.findClass (oR ci) = some (dC ci) := fun ci h => by rw [← cC_oR ci h]; exact (hKd ci h).2.1
  have hstr : ∀ (o k : Nat) (tx : String), o < 12 → (Cond.stringRef (oR o) k tx).before #[Value.ref b] s = true → ∃ a, vk_R (oR o) k tx a s ∧ (Term.string (oR o) k).eval #[Value.ref b] s none [] s = some (.ref a) := by
    intro o k tx ho h
    obtain ⟨_, _, _, a, -, -, -, -, -, h6⟩ := Cond.stringRef_spec (hfc o ho) h
    exact ⟨a, vk_R.of h h6, h6⟩
  obtain ⟨a3, r3, v3⟩ := hstr 9 58 "house debt flour water" (by decide) (hts _ (inT_mem (p := 646) (by decide +kernel)))
  obtain ⟨a4, r4, v4⟩ := hstr 1 68 "weight kind age pride mouths owed others hunger debt least most" (by decide) (hts _ (inT_mem (p := 803) (by decide +kernel)))
  obtain ⟨a5, r5, v5⟩ := hstr 6 61 "grind forgive swell give rain day again" (by decide) (hts _ (inT_mem (p := 845) (by decide +kernel)))
  obtain ⟨a6, r6, -⟩ := hstr 10 382 "out of its range" (by decide) (hts _ (inT_mem (p := 599) (by decide +kernel)))
  obtain ⟨a7, r7, -⟩ := hstr 10 389 "no such house" (by decide) (hts _ (inT_mem (p := 1045) (by decide +kernel)))
  obtain ⟨a8, r8, -⟩ := hstr 10 392 "no such debt" (by decide) (hts _ (inT_mem (p := 1077) (by decide +kernel)))
  have q3 : adK 0 = a3 := by have := (hS2 0 (by decide)).symm.trans v3; injection this with h; injection h
  have q4 : adK 1 = a4 := by have := (hS2 1 (by decide)).symm.trans v4; injection this with h; injection h
  have q5 : adK 2 = a5 := by have := (hS2 2 (by decide)).symm.trans v5; injection this with h; injection h
  refine ⟨(gam b u (adK 0) (adK 1) (adK 2) s.heap.size, (dC, dI), (cI, cB, cJ, cO), xs, n), rfl, rfl, ⟨hx, hb, hml, hown, hG, ⟨?_, ?_⟩, Nat.le_refl _, ?_, gam_new⟩, ?_⟩
  · intro k q hk
    have hk12 : k < 12 := by
      have := (List.getElem?_eq_some_iff.mp hk).1
      simpa [vwCl] using this
    have h2 := (cl_ok k hk12).1.symm.trans hk
    injection h2 with h2
    subst h2
    exact hKd k hk12
  · intro k q hk
    match k, hk with
    | 0, hk => cases hk; exact aI
    | 1, hk => cases hk; exact aB
    | 2, hk => cases hk; exact aJ
    | 3, hk => cases hk; exact aO
    | k + 4, hk => simp [gTys] at hk
  · refine ⟨?_, hu2, hu3, ?_, ⟨⟨adV, ?_⟩, ?_, ?_, ?_, ?_, ?_⟩, ⟨?_, ?_, ⟨a6, r6⟩, ⟨a7, r7⟩, ⟨a8, r8⟩, ?_⟩, hao⟩
    · obtain ⟨scr, h1, h2, h3, h4, h5⟩ := hX
      exact ⟨scr, h1, h2, h3, Nat.le_of_eq h4.symm, by rw [h4], h5, hA _ hbl⟩
    · intro w hw hb9
      exact va_Nw.of (nw_on hb9) (hts w hw)
    · refine ⟨fun i hi => ?_, fun i j hi hj => ?_⟩
      · match i, hi with
        | 0, _ => exact hS1.1 0 (by decide)
        | 1, _ => exact hS1.1 1 (by decide)
        | 2, _ => exact hS1.1 2 (by decide)
      · match i, hi, j, hj with
        | 0, _, 0, _ => exact fun _ => rfl
        | 0, _, 1, _ => exact fun h => hS1.2 0 1 (by decide) (by decide) h
        | 0, _, 2, _ => exact fun h => hS1.2 0 2 (by decide) (by decide) h
        | 1, _, 0, _ => exact fun h => hS1.2 1 0 (by decide) (by decide) h
        | 1, _, 1, _ => exact fun _ => rfl
        | 1, _, 2, _ => exact fun h => hS1.2 1 2 (by decide) (by decide) h
        | 2, _, 0, _ => exact fun h => hS1.2 2 0 (by decide) (by decide) h
        | 2, _, 1, _ => exact fun h => hS1.2 2 1 (by decide) (by decide) h
        | 2, _, 2, _ => exact fun _ => rfl
    · exact va_Zof (hts _ (inT_mem (p := 668) (by decide +kernel))) (hts _ (inT_mem (p := 109) (by decide +kernel))) (va_eqi (hfl _ (by decide +kernel))) hA
    · exact va_Zqof (hts _ (inT_mem (p := 684) (by decide +kernel))) (hts _ (inT_mem (p := 111) (by decide +kernel))) (hfl _ (by decide +kernel)) hA
    · show vk_R RX9 58 _ (adK 0) s
      rw [q3]; exact r3
    · show vk_R RX1 68 _ (adK 1) s
      rw [q4]; exact r4
    · show vk_R RX6 61 _ (adK 2) s
      rw [q5]; exact r5
    · exact vx_Zqof (hts _ (inT_mem (p := 586) (by decide +kernel))) (hts _ (inT_mem (p := 105) (by decide +kernel))) (hfl _ (by decide +kernel)) hA
    · exact vx_Zqof (hts _ (inT_mem (p := 588) (by decide +kernel))) (hts _ (inT_mem (p := 105) (by decide +kernel))) (hfl _ (by decide +kernel)) hA
    · exact va_Nc.of (hfl _ (by decide +kernel))
  · refine ⟨?_, wl_D gam_new, fun _ => ?_, ?_, ?_, ?_, ?_⟩
    · intro k q hk
      have : wl (gam b u (adK 0) (adK 1) (adK 2) s.heap.size, (dC, dI), (cI, cB, cJ, cO), xs, n) (I0 xs) (fun _ _ => 0) (S00 n).1 = [] := rfl
      rw [this] at hk
      cases hk
    · show s.heap.size = gam b u (adK 0) (adK 1) (adK 2) s.heap.size 16
      rw [gam_new 16 (by omega)]
      omega
    · funext j; simp [I0]
    · funext j; simp [I0]
    · rfl
    · intro k q hk hlt
      exfalso
      have h1 := List.mem_of_getElem? hk
      simp [S00, w16] at h1
      rcases h1 with rfl | rfl | rfl | rfl | h1
      · simp at hlt
      · simp at hlt
      · simp at hlt
      · simp at hlt
      · rw [h1] at hlt; simp at hlt
set_option maxHeartbeats 4000000 in
/-- the law's walk out of the small machine's run -/
theorem law_walk {p : Program} {e : Env} {s : State} {m : MethodId} {below : List Frame} {meth : Method} {c : Code} {l : Launch} (hl : l.stackTraces = false) {b n : Nat} {xs : Nat → Int32} (hn : n ≤ 5120) (C0 : lw_At p s m meth c b n xs) {I' : VI} {L' : VL} {S' : SW} (hev : EvD 101 319 [.ref 1] (I0 xs) (fun _ _ => 0) (S00 n) (.inl (some (.int 1)), I', L', S')) (hc : S'.2.2.1 ≤ 601024) (hs : S'.2.2.2 ≤ 7293034) :
    W p l e room_1 s m #[Value.ref b] below meth c s.heap [] 0 0 (lw_Z below #[Value.ref b] s) (entryFrame m ([Value.ref b] : List Value).toArray 8) := by
  obtain ⟨G, g1, g2, ctx, hM⟩ := start_fx hn C0
  obtain ⟨hx, hb, hr, hml, hown, hts, hX, hbl, hlocks, hgv⟩ := id C0
  have hg := ctx.2.2.2.2.2.2.2.2
  have hroom : RmD room_1 100 (S00 n).2.2.1 (S00 n).2.2.2 S'.2.2.1 S'.2.2.2 := ⟨by decide, by decide, by show S'.2.2.1 - 0 ≤ 601024; omega, by show S'.2.2.2 - 0 ≤ 7293034; omega⟩
  have h := body_walk (l := l) (e := e) (below := below) (meth := meth) (R := room_1) (Q := lw_Z below #[Value.ref b] s) (d := 100) (as := [.ref 1]) (I := I0 xs) (L := fun _ _ => 0) (S := S00 n) (r := (.inl (some (.int 1)), I', L', S')) ctx hroom (fun h => absurd h (by decide +kernel : ¬ (mY 319).name = "<init>")) (sound hl hg 100) ⟨?_, ?_, ?_, ?_⟩ hev hM
  · have e1 : ([Value.ref 1] : List Value).map (conc G.1) = [Value.ref b] := by show [Value.ref (G.1 1)] = _; rw [g1]
    rw [e1] at h
    exact h
  · intro v I L S H locs lr pc hr9 hM9 hS hq
    cases hr9
    obtain ⟨hd, -⟩ := hq
    refine va_forget (fun q hq => hS.2.2 q hq) ?_
    exact W.widen (k := 601024) (n := 7293034) (by show S'.2.2.1 - 0 ≤ _; omega) (by show S'.2.2.2 - 0 ≤ _; omega) (lw_ret hx hb hr hlocks hd)
  · intro E I L S H locs lr pc j rest _ _ hr9
    cases hr9
  · intro E I L S H locs lr pc rest q ce hr9
    cases hr9
  · intro E h n pc cells slots H locs lr ls rest q ce hq
    have hH := (hn_ok hq).2
    exact absurd hH (by decide)
