section Snd
variable {p : Program} {l : Launch} {e : Env} {R : Room} {s : State} {m : MethodId} {args : Array Value} {below : List Frame} {meth : Method} {c : Code} {Q : State → Prop} {G : GX} {B0 y uc us rc rs : Nat}
theorem ends_ret {v : Option Value} {I : VI} {L : VL} {S : SW} (ctx : At0 p s m args c G B0 y) (hr : meth.sig.returnType = mR y) (hlocks : meth.locks = false) {H : Heap} {locs : List Loc} {lr : Array Slot} {pc : Nat} (hM : Mem G B0 I L S H) (hS : va_S (AB B0) s.heap H locs) (hq : retOK y pc v) {cells slots : Nat} :
    W p l e R s m args below meth c H locs cells slots (MQ below (QcM G B0 v I L S) args s cells slots (AB B0)) (F0 m pc lr (v.toList.map (conc G.1))) := by
  obtain ⟨hx, hb, hml, hown, hts, hK, hB, hF, hg⟩ := ctx
  have hqq : ∀ t : State, t.heap = H → s.WarmedH t.vm → QcM G B0 v I L S args s (.returned (v.map (conc G.1))) t := fun t ht _ => ⟨rfl, by rw [ht]; exact hM, hS.F ht⟩
  cases v with
  | none => exact W.vret hx hb (hr.trans hq.2) hqq hS.2.2 hq.1 hlocks
  | some w =>
    cases w with
    | int x =>
      obtain ⟨hd, ty, e1, e2⟩ := hq
      exact W.zret hx hb (hr.trans e1) e2 hqq hS.2.2 hd hlocks
    | long x => exact W.lret hx hb (hr.trans hq.2) hqq hS.2.2 hq.1 hlocks
    | _ => exact hq.elim
theorem th_at : (vx_atS RX10 384 "java/lang/IllegalArgumentException" ["java/lang/RuntimeException", "java/lang/Exception"]).all (fun w => decide (w ∈ lw_tbl) && (goodWord w || nwB w) && vx_ot w) = true := by decide +kernel
theorem th_at2 : ((own13 RX10 391).filter vx_no).all (fun w => decide (w ∈ lw_tbl) && (goodWord w || nwB w) && vx_ot w) = true := by decide +kernel
theorem nw_on {w : Cond} (h : nwB w = true) : w.onTables = true := by
  cases w <;> first | rfl | cases h
theorem th_use {L : List Cond} (h : L.all (fun w => decide (w ∈ lw_tbl) && (goodWord w || nwB w) && vx_ot w) = true) (hts : ∀ w ∈ wsG, w.before args s = true) (hN : NW s) : (∀ w ∈ L, w.before args s = true) ∧ ∀ w ∈ L, vx_ot w = true := by
  refine ⟨fun w hw => ?_, fun w hw => ?_⟩
  · have h1 := List.all_eq_true.mp h w hw
    simp only [Bool.and_eq_true, Bool.or_eq_true] at h1
    have h2 := of_decide_eq_true h1.1.1
    rcases h1.1.2 with h3 | h3
    · exact hts w (List.mem_filter.mpr ⟨h2, h3⟩)
    · exact va_Nw.use (nw_on h3) (hN w h2 h3)
  · have h1 := List.all_eq_true.mp h w hw
    simp only [Bool.and_eq_true] at h1
    exact h1.2
theorem mem_bump {I : VI} {L : VL} {S : SW} {H H1 : Heap} (hM : Mem G B0 I L S H) (hk : ∀ q : Nat, q < H.size → H1[q]? = H[q]?) : Mem G B0 I L (bump S) H1 := by
  obtain ⟨m1, m2, m3, m4, m5, m6, m7⟩ := hM
  exact ⟨m1.kept (fun i q h => hk _ (m1 i q h).lt), m2, (fun z => by cases z), m4, m5, m6, m7⟩
set_option maxHeartbeats 4000000 in
theorem ends_thr {E : Nat} {I : VI} {L : VL} {S : SW} (hl : l.stackTraces = false) (ctx : At0 p s m args c G B0 y) (hlocks : meth.locks = false) (hno : ∀ x ∈ c.exceptionTable.toList, False) (hR1 : 8 ≤ R.frames) (hR2 : 200 ≤ R.locals) {H : Heap} {locs : List Loc} {lr : Array Slot} {pc j : Nat} {rest : List Value} (hth : th y pc = some E) (hd : decode (mB y) pc = .ok (.new j, 3)) (hM : Mem G B0 I L S H) (hsz : lr.size = mL y) (hS : va_S (AB B0) s.heap H locs) (hcat : catS rest ≤ 8) {cells slots mc ms : Nat} (hc1 : cells + 1 ≤ mc) (hc2 : slots + 6 ≤ ms) (hr1 : mc ≤ R.cells) (hr2 : ms ≤ R.slots) {Qc : Array Value → State → Outcome → State → Prop} :
    W p l e R s m args below meth c H locs cells slots (vx_MQ below Qc (XcM G B0 E I L (bump S)) args s mc ms (AB B0)) (F0 m pc lr (rest.map (conc G.1))) := by
  obtain ⟨hx, hb, hml, hown, hts, hK, hB, hF, hg⟩ := ctx
  obtain ⟨t1, t2, ⟨sa, t3⟩, ⟨sb, t4⟩, ⟨sc, t5⟩, t6⟩ := hF.2.2.2.2.2.1
  have key : (y = 158 ∧ pc = 20 ∧ E = 0) ∨ (y = 160 ∧ pc = 25 ∧ E = 1) ∨ (y = 161 ∧ pc = 25 ∧ E = 1) := by
    unfold th at hth
    cases hf : thTab.find? (fun e => e.1 == y && e.2.1 == pc) with
    | none => rw [hf] at hth; cases hth
    | some q =>
      rw [hf] at hth
      have h1 := List.find?_some hf
      have h2 := List.mem_of_find?_eq_some hf
      rw [Bool.and_eq_true] at h1
      obtain ⟨q1, q2, q3⟩ := q
      have e1 := eq_of_beq h1.1
      have e2 := eq_of_beq h1.2
      dsimp only at e1 e2
      simp only [Option.map_some, Option.some.injEq] at hth
      subst e1 e2 hth
      simpa [thTab] using h2
  have hx9 : ∀ (En : String), En = exN E → ∀ t : State, s.vm.Alike t.vm → H.size ≤ t.heap.size → (∀ q : Nat, q < H.size → t.heap[q]? = H[q]?) → XcM G B0 E I L (bump S) En s t := fun En he t _ h1 h2 =>
    ⟨he, mem_bump hM h2, Nat.le_trans hS.1 h1, fun q q1 q2 => (h2 q (Nat.lt_of_lt_of_le q1 hS.1)).trans (hS.2.1 q q1 q2)⟩
  have hloc : ((rest.map (conc G.1)).map fun v => v.category).sum + (13 * (["java/lang/RuntimeException", "java/lang/Exception"].length + 1) + 43) ≤ R.locals := by
    rw [catS_conc]
    show _ + (13 * 3 + 43) ≤ _
    omega
  have hfr : ["java/lang/RuntimeException", "java/lang/Exception"].length + 3 < R.frames := by show 2 + 3 < _; omega
  rcases key with ⟨rfl, rfl, rfl⟩ | ⟨rfl, rfl, rfl⟩ | ⟨rfl, rfl, rfl⟩
  · obtain ⟨u1, u2⟩ := th_use th_at hts hF.2.2.2.1
    exact vx_throwSW hx hb hl (own := RX10) (cls := "java/lang/IllegalArgumentException") (names := ["java/lang/RuntimeException", "java/lang/Exception"]) hown (by decide +kernel) (by decide +kernel) (hts (Cond.classLink RX10 380 "java/lang/IllegalArgumentException") (inG_mem (p := 559) (by decide +kernel))) (hts _ (inG_mem (p := 108) (by decide +kernel))) t3 u1
      (fun w hw => by
        rcases List.mem_cons.mp hw with rfl | hw
        · rfl
        rcases List.mem_cons.mp hw with rfl | hw
        · rfl
        · exact u2 w hw) t1 t2 hS (by rw [hml]; exact hsz) (by decide +kernel) (by decide +kernel) (by decide +kernel) (by decide +kernel) (by decide +kernel) (fun x hx => (hno x hx).elim) hfr hloc (by omega) (by omega) hlocks (hx9 _ rfl) hS.2.2 hc1 hc2
  · obtain ⟨u1, u2⟩ := th_use th_at2 hts hF.2.2.2.1
    exact vx_throw13 hx hb hl (own := RX10) hown (hts (Cond.classLink RX10 387 "java/util/NoSuchElementException") (inG_mem (p := 1036) (by decide +kernel))) (hts _ (inG_mem (p := 115) (by decide +kernel))) t4 u1
      (fun w hw => by
        rcases List.mem_cons.mp hw with rfl | hw
        · rfl
        rcases List.mem_cons.mp hw with rfl | hw
        · rfl
        · exact u2 w hw) t1 t2 hS (by rw [hml]; exact hsz) (by decide +kernel) (by decide +kernel) (by decide +kernel) (by decide +kernel) (by decide +kernel) (fun x hx => (hno x hx).elim) hfr hloc (by omega) (by omega) hlocks (hx9 _ rfl) hS.2.2 hc1 hc2
  · obtain ⟨u1, u2⟩ := th_use th_at2 hts hF.2.2.2.1
    exact vx_throw13 hx hb hl (own := RX10) hown (hts (Cond.classLink RX10 387 "java/util/NoSuchElementException") (inG_mem (p := 1036) (by decide +kernel))) (hts _ (inG_mem (p := 115) (by decide +kernel))) t5 u1
      (fun w hw => by
        rcases List.mem_cons.mp hw with rfl | hw
        · rfl
        rcases List.mem_cons.mp hw with rfl | hw
        · rfl
        · exact u2 w hw) t1 t2 hS (by rw [hml]; exact hsz) (by decide +kernel) (by decide +kernel) (by decide +kernel) (by decide +kernel) (by decide +kernel) (fun x hx => (hno x hx).elim) hfr hloc (by omega) (by omega) hlocks (hx9 _ rfl) hS.2.2 hc1 hc2
theorem ends_out {E : Nat} {I : VI} {L : VL} {S : SW} (hlocks : meth.locks = false) (hno : ∀ x ∈ c.exceptionTable.toList, False) {H : Heap} {locs : List Loc} {lr : Array Slot} {pc : Nat} {rest : List Value} {q : Addr} {ce : Cell} (hM : Mem G B0 I L S H) (hS : va_S (AB B0) s.heap H locs) (z1 : H[q]? = some ce) (z2 : ce.vm = .none) (z3 : s.vm.findClass (exN E) = some ce.cls) {cells slots mc ms : Nat} (hc1 : cells ≤ mc) (hc2 : slots ≤ ms) {Qc : Array Value → State → Outcome → State → Prop} :
    vx_W p l e R s m args below meth c H locs cells slots (vx_MQ below Qc (XcM G B0 E I L S) args s mc ms (AB B0)) (F0 m pc lr rest) q :=
  vx_out (fun x hx => (hno x hx).elim) hlocks z1 z2 z3 (fun t ht _ => ⟨rfl, by rw [ht]; exact hM, hS.F ht⟩) hS.2.2 hc1 hc2
set_option maxHeartbeats 4000000 in
/-- what a helper of the law catches -/
theorem ends_cat (ctx : At0 p s m args c G B0 y) (htab : c.exceptionTable.toList = tableOf (hh y)) {E h n pc cells slots : Nat} {H : Heap} {locs : List Loc} {lr : Array Slot} {ls rest : List Value} {q : Addr} {ce : Cell} (hq : hn y pc E = some (h, n)) (hE : E < 2) (hO : mO y = 12) (hn1 : n < ls.length) (hn2 : ls.length = mL y) (hlv : lv_has lr (mL y) (clm G.1 ls)) (z1 : H[q]? = some ce) (z2 : ce.vm = .none) (z3 : s.vm.findClass (exN E) = some ce.cls)
    (kk : ∀ lr' : Array Slot, lv_has lr' (mL y) (clm G.1 (ls.set n (.retAddr 0))) → W p l e R s m args below meth c H locs cells slots Q (F0 m h lr' [])) : vx_W p l e R s m args below meth c H locs cells slots Q (F0 m pc lr rest) q := by
  obtain ⟨hx, hb, hml, hown, hts, hK, hB, hF, hg⟩ := ctx
  rw [hO] at hown
  have hown : s.vm.findClass RL = some m.cls := hown
  have c13 : (Cond.classLink RL 13 "java/lang/IllegalArgumentException").before args s = true := hts _ (inG_mem (p := 543) (by decide +kernel))
  have c31 : (Cond.classLink RL 31 "java/util/NoSuchElementException").before args s = true := hts _ (inG_mem (p := 1027) (by decide +kernel))
  have k0 : (Cond.castable "java/lang/IllegalArgumentException" "java/lang/IllegalArgumentException").before args s = true := va_Nw.use rfl (hF.2.2.2.1 _ (inT_mem (p := 561) (by decide +kernel)) rfl)
  have k1 : (Cond.castable "java/util/NoSuchElementException" "java/util/NoSuchElementException").before args s = true := va_Nw.use rfl (hF.2.2.2.1 _ (inT_mem (p := 1038) (by decide +kernel)) rfl)
  have hnc := hF.2.2.2.2.2.1.2.2.2.2.2
  have go : ∀ h', stOK y h' h n = true → W p l e R s m args below meth c H locs cells slots Q (F0 m h' lr [.ref q]) := by
    intro h' hs
    unfold stOK at hs
    split at hs
    · rename_i k e1
      rw [Bool.and_eq_true] at hs
      have e2 := eq_of_beq hs.1
      have e3 := eq_of_beq hs.2
      subst e2 e3
      exact lv_astore_n hx hb e1 rfl hlv (by rw [← hn2]; exact hn1) rfl (fun lr' h' => kk lr' (lv_mono h' (clm_setU hn1)))
    · rename_i k e1
      rw [Bool.and_eq_true] at hs
      have e2 := eq_of_beq hs.1
      have e3 := eq_of_beq hs.2
      subst e2 e3
      exact lv_astore hx hb e1 hlv (by rw [← hn2]; exact hn1) rfl (fun lr' h' => kk lr' (lv_mono h' (clm_setU hn1)))
    · cases hs
  have hok := (hn_ok hq).1
  unfold hnOK at hok
  dsimp only at hok
  split at hok
  · rename_i a b h' ct e1
    simp only [Bool.and_eq_true, Bool.or_eq_true] at hok
    obtain ⟨⟨⟨o1, o2⟩, o3⟩, o4⟩ := hok
    have hcov : covers ⟨a, b, h', ct⟩ pc = true := by simp [covers, of_decide_eq_true o2, of_decide_eq_true o3]
    rcases o1 with ⟨o1, o5⟩ | ⟨o1, o5⟩
    · have e2 := eq_of_beq o1
      have e3 := eq_of_beq o5
      subst e2 e3
      exact vx_catch hown [] ⟨a, b, h', 13⟩ [] (by rw [htab, e1]; rfl) (fun z hz => absurd hz List.not_mem_nil) hcov (show (13 : Nat) ≠ 0 by decide) c13 k0 z1 z2 z3 (go h' o4)
    · have e2 := eq_of_beq o1
      have e3 := eq_of_beq o5
      subst e2 e3
      exact vx_catch hown [] ⟨a, b, h', 31⟩ [] (by rw [htab, e1]; rfl) (fun z hz => absurd hz List.not_mem_nil) hcov (show (31 : Nat) ≠ 0 by decide) c31 k1 z1 z2 z3 (go h' o4)
  · rename_i a1 b1 h1 ct1 a b h' ct e1
    simp only [Bool.and_eq_true] at hok
    obtain ⟨⟨o1, o2⟩, o3⟩ := hok
    have e2 := eq_of_beq o1
    have e3 := eq_of_beq o2
    subst e2 e3
    by_cases hE1 : E = 1
    · subst hE1
      rw [if_pos rfl] at o3
      simp only [Bool.and_eq_true] at o3
      have hcov : covers ⟨a1, b1, h1, 31⟩ pc = true := by simp [covers, of_decide_eq_true o3.1.1, of_decide_eq_true o3.1.2]
      exact vx_catch hown [] ⟨a1, b1, h1, 31⟩ [⟨a, b, h', 13⟩] (by rw [htab, e1]; rfl) (fun z hz => absurd hz List.not_mem_nil) hcov (show (31 : Nat) ≠ 0 by decide) c31 k1 z1 z2 z3 (go h1 o3.2)
    · rw [if_neg hE1] at o3
      simp only [Bool.and_eq_true] at o3
      have hE0 : E = 0 := by omega
      subst hE0
      have hcov : covers ⟨a, b, h', 13⟩ pc = true := by simp [covers, of_decide_eq_true o3.1.1.2, of_decide_eq_true o3.1.2]
      refine vx_catch hown [⟨a1, b1, h1, 31⟩] ⟨a, b, h', 13⟩ [] (by rw [htab, e1]; rfl) (fun z hz => ?_) hcov (show (13 : Nat) ≠ 0 by decide) c13 k0 z1 z2 z3 (go h' o3.2)
      have hz2 : z = ⟨a1, b1, h1, 31⟩ := by simpa using hz
      subst hz2
      exact Or.inr ⟨show (31 : Nat) ≠ 0 by decide, _, c31, hnc⟩
  · cases hok
end Snd
