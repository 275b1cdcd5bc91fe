section Snd
variable {p : Program} {l : Launch} {e : Env} {R : Room} {s : State} {m : MethodId} {args : Array Value} {below : List Frame} {meth : Method} {c : Code} {Q : State → Prop} {G : GX} {B0 y uc us rc rs : Nat}
/-- room for callees of depth d -/
def RmD (R : Room) (d uc us rc rs : Nat) : Prop := d + 9 ≤ R.frames ∧ 40 * d + 239 ≤ R.locals ∧ rc - uc ≤ R.cells ∧ rs - us ≤ R.slots
theorem st_split {st : List Value} {P : Nat} {v : Value} (h : st[P]? = some v) : ∃ top rest, st = top ++ v :: rest ∧ top.length = P := by
  obtain ⟨hl, e1⟩ := List.getElem?_eq_some_iff.mp h
  refine ⟨st.take P, st.drop (P + 1), ?_, by rw [List.length_take]; omega⟩
  rw [← e1, ← List.drop_eq_getElem_cons hl, List.take_append_drop]
theorem take_top {top rest : List Value} {v : Value} {P : Nat} (h : top.length = P) : ((top ++ v :: rest).take (P + 1)).reverse = v :: top.reverse ∧ (top ++ v :: rest).drop (P + 1) = rest := by
  subst h
  constructor
  · rw [show top ++ v :: rest = (top ++ [v]) ++ rest by simp, List.take_append_of_le_length (by simp), List.take_of_length_le (by simp)]
    simp
  · rw [show top ++ v :: rest = (top ++ [v]) ++ rest by simp, List.drop_append_of_le_length (by simp), List.drop_of_length_le (by simp)]
    rfl
theorem recv_at {I : VI} {L : VL} {S : SW} {H : Heap} (hK : va_K G.2.1 vwCl (gTys G) s) (hM : Mem G B0 I L S H) {b ci : Nat} (hci : ci < 12) (ht : tagW S.1 b = ci) : ∃ cell : Cell, H[G.1 b]? = some cell ∧ cell.vm.isStatics = false ∧ s.vm.findClass (oR ci) = some cell.cls := by
  obtain ⟨nn, rs', hq, -, -⟩ := tag_some ht (by omega)
  have hk16 := old_no hM hq (by omega) (by omega) (by omega)
  have he := wl_get (G := G) (I := I) (L := L) hk16 hq
  rw [ent_o hci] at he
  have h := va_recv hK hM.1 (cl_ok ci hci).1 he
  rw [cC_oR ci hci] at h
  exact h
set_option maxHeartbeats 4000000 in
/-- a call of an object's method, or of a constructor, that returns -/
theorem snd_callV {C : CC} {r : Res} {d : Nat} (ctx : At0 p s m args c G B0 y) (hR : RmD R d uc us rc rs) (hC : ∀ y' as I L S r', y' < 319 → C y' as I L S r' → SndR l G B0 d y' as I L S r')
    {pc j y' kd nest o' j' : Nat} {ps : List Nat} {ls st : List Value} {I I' : VI} {L L' : VL} {S S' : SW} {v : Option Value} (hmk : mk (mO y) j = some (o', j', y', kd, nest, ps)) (hkd : (kd = 0 ∧ decode (mB y) pc = .ok (.invokevirtual j, 3)) ∨ (kd = 1 ∧ decode (mB y) pc = .ok (.invokespecial j, 3)))
    (hrc : ∃ b, st[mP y']? = some (.ref b) ∧ tagW S.1 b = mO y') (hcat : catS (st.drop (mP y' + 1)) ≤ 8) (hc : C y' (st.take (mP y' + 1)).reverse I L S (.inl v, I', L', S'))
    (h : PP p l e R s m args below meth c Q G B0 y uc us rc rs (pc + 3) ls (v.toList ++ st.drop (mP y' + 1)) I' L' S') : PP p l e R s m args below meth c Q G B0 y uc us rc rs pc ls st I L S := by
  obtain ⟨f1, f2, f3, f4, f5, f6, f7, f8, f9, f10, f11, f12, f13, f14⟩ := mk_facts hmk
  obtain ⟨⟨g1, g2⟩, hMet⟩ := hC _ _ _ _ _ _ f14 hc
  dsimp only at g1 g2 hMet
  obtain ⟨b, hb1, hb2⟩ := hrc
  obtain ⟨top, rest, rfl, htl⟩ := st_split hb1
  obtain ⟨t1, t2⟩ := take_top (rest := rest) (v := Value.ref b) htl
  rw [t1] at hMet
  rw [t2] at h hcat
  have hO : mO y' < 12 := by
    rcases f11 with q | q
    · rcases hkd with ⟨k0, -⟩ | ⟨k0, -⟩ <;> omega
    · exact q
  have hnH : isH y' = false := by
    rcases f13 with q | q
    · rcases hkd with ⟨k0, -⟩ | ⟨k0, -⟩ <;> omega
    · exact q
  have hcw : wsY y' = Cond.code (mY y') (mB y') (mL y') (mR y') :: wsG := by unfold wsY cdW; rw [hnH]; rfl
  refine pp_ret (a := (Value.ref (G.1 b) :: top.reverse.map (conc G.1)).toArray) h rfl g1 g2 fun b1 b2 r1 r2 H locs lr hM hsz hS => ?_
  obtain ⟨hx, hb, hml, hown, hts, hK, hB, hF, hg⟩ := id ctx
  have hpc := pc_at (as := .ref b :: top.reverse) ctx hM hS
  have hrv := recv_at hK hM hO hb2
  have hfit : S.2.2.1 - uc + (S'.2.2.1 - S.2.2.1) ≤ R.cells ∧ S.2.2.2 - us + (S'.2.2.2 - S.2.2.2) ≤ R.slots := ⟨by have := hR.2.2.1; omega, by have := hR.2.2.2; omega⟩
  have hst : (top ++ Value.ref b :: rest).map (conc G.1) = ((top.reverse.map (conc G.1)).reverse) ++ Value.ref (G.1 b) :: rest.map (conc G.1) := by simp [conc]
  have hroom : (rmD d (S'.2.2.1 - S.2.2.1) (S'.2.2.2 - S.2.2.2)).frames + 1 ≤ R.frames ∧ 8 + (mL y' + 11) + (rmD d (S'.2.2.1 - S.2.2.1) (S'.2.2.2 - S.2.2.2)).locals ≤ R.locals := by
    have a1 := hR.1
    have a2 := hR.2.1
    simp only [rmD]
    omega
  have hcs : 2 * (F0 m pc lr ((top ++ Value.ref b :: rest).map (conc G.1))).monitorRoom + ((rest.map (conc G.1)).map fun v => v.category).sum ≤ 8 := by
    rw [catS_conc]
    show 2 * 0 + _ ≤ 8
    omega
  rcases hkd with ⟨k0, hd⟩ | ⟨k0, hd⟩
  · have hn0 : nest = 0 := by
      rcases f12 with q | q
      · omega
      · exact q
    rw [if_pos hn0] at f1
    rw [if_neg (by omega)] at f2
    exact va_runV (C := (mY y').cls) (b := G.1 b) (As := top.reverse.map (conc G.1)) (n := mP y') ⟨hx, hb, hml, hown, hts⟩ hMet
      ⟨callB_of _ hts (wsG_good f14) hcw rfl rfl (hts _ f5) (hts _ f1) f6 hroom, hts _ f2, hts _ (f3 k0)⟩
      ⟨PcM_blind, by rw [f7]; exact hrv, hpc⟩ rfl (by simp [htl]) hsz hst hcs hd hfit
  · rw [if_neg (by omega)] at f2
    obtain ⟨f4a, f4b⟩ := f4 k0
    have hcw' : wsY y' = Cond.code (mY y') (mB y') (mL y') none :: wsG := by rw [hcw, f4b]
    by_cases hn0 : nest = 0
    · rw [if_pos hn0] at f1
      exact va_runI (b := G.1 b) (As := top.reverse.map (conc G.1)) (n := mP y') ⟨hx, hb, hml, hown, hts⟩ hMet
        ⟨callB_of _ hts (wsG_good f14) hcw' rfl rfl (hts _ f5) (hts _ f1) f6 hroom, f4a, hts _ f2⟩
        ⟨PcM_blind, hpc⟩ rfl (by simp [htl]) hsz hst hcs hd hfit
    · rw [if_neg hn0] at f1
      exact va_runIN (b := G.1 b) (As := top.reverse.map (conc G.1)) (n := mP y') ⟨hx, hb, hml, hown, hts⟩ hMet
        ⟨va_cnB _ hts (wsG_good f14) hcw' rfl rfl (hF.2.2.2.1 _ f1 rfl) (hts _ f5) f6 hroom, f4a, hts _ f2⟩
        ⟨PcM_blind, hpc⟩ rfl (by simp [htl]) hsz hst hcs hd hfit
set_option maxHeartbeats 4000000 in
/-- a static call that returns -/
theorem snd_callS {C : CC} {r : Res} {d : Nat} (ctx : At0 p s m args c G B0 y) (hR : RmD R d uc us rc rs) (hC : ∀ y' as I L S r', y' < 319 → C y' as I L S r' → SndR l G B0 d y' as I L S r')
    {pc j y' nest o' j' : Nat} {ps : List Nat} {ls st : List Value} {I I' : VI} {L L' : VL} {S S' : SW} {v : Option Value} (hmk : mk (mO y) j = some (o', j', y', 2, nest, ps)) (hd : decode (mB y) pc = .ok (.invokestatic j, 3))
    (hlen : mP y' ≤ st.length) (hcat : catS (st.drop (mP y')) ≤ 8) (hc : C y' (st.take (mP y')).reverse I L S (.inl v, I', L', S'))
    (h : PP p l e R s m args below meth c Q G B0 y uc us rc rs (pc + 3) ls (v.toList ++ st.drop (mP y')) I' L' S') : PP p l e R s m args below meth c Q G B0 y uc us rc rs pc ls st I L S := by
  obtain ⟨f1, f2, f3, f4, f5, f6, f7, f8, f9, f10, f11, f12, f13, f14⟩ := mk_facts hmk
  obtain ⟨⟨g1, g2⟩, hMet⟩ := hC _ _ _ _ _ _ f14 hc
  dsimp only at g1 g2 hMet
  refine pp_ret (a := ((st.take (mP y')).reverse.map (conc G.1)).toArray) h rfl g1 g2 fun b1 b2 r1 r2 H locs lr hM hsz hS => ?_
  obtain ⟨hx, hb, hml, hown, hts, hK, hB, hF, hg⟩ := id ctx
  have hpc := pc_at (as := (st.take (mP y')).reverse) ctx hM hS
  have hfit : S.2.2.1 - uc + (S'.2.2.1 - S.2.2.1) ≤ R.cells ∧ S.2.2.2 - us + (S'.2.2.2 - S.2.2.2) ≤ R.slots := ⟨by have := hR.2.2.1; omega, by have := hR.2.2.2; omega⟩
  have hst : st.map (conc G.1) = (((st.take (mP y')).reverse.map (conc G.1)).reverse) ++ (st.drop (mP y')).map (conc G.1) := by
    rw [← List.map_reverse, List.reverse_reverse, ← List.map_append, List.take_append_drop]
  have hroom : (rmD d (S'.2.2.1 - S.2.2.1) (S'.2.2.2 - S.2.2.2)).frames + 1 ≤ R.frames ∧ 8 + (mL y' + 11) + (rmD d (S'.2.2.1 - S.2.2.1) (S'.2.2.2 - S.2.2.2)).locals ≤ R.locals := by
    have a1 := hR.1
    have a2 := hR.2.1
    simp only [rmD]
    omega
  have hcs : 2 * (F0 m pc lr (st.map (conc G.1))).monitorRoom + (((st.drop (mP y')).map (conc G.1)).map fun v => v.category).sum ≤ 8 := by
    rw [catS_conc]
    show 2 * 0 + _ ≤ 8
    omega
  have hn0 : nest = 0 := by
    rcases f12 with q | q
    · omega
    · exact q
  rw [if_pos hn0] at f1
  rw [if_pos rfl] at f2
  have hal : ((st.take (mP y')).reverse.map (conc G.1)).length = mP y' := by simp [Nat.min_eq_left hlen]
  cases hH : isH y' with
  | false =>
    have hcw : wsY y' = Cond.code (mY y') (mB y') (mL y') (mR y') :: wsG := by unfold wsY cdW; rw [hH]; rfl
    exact va_runS (As := (st.take (mP y')).reverse.map (conc G.1)) (n := mP y') ⟨hx, hb, hml, hown, hts⟩ hMet
      ⟨callB_of _ hts (wsG_good f14) hcw rfl rfl (hts _ f5) (hts _ f1) f6 hroom, hts _ f2⟩
      ⟨PcM_blind, hpc⟩ rfl hal hsz hst hcs hd hfit
  | true =>
    have hcw : wsY y' = Cond.codeWith (mY y') (mB y') (mL y') (mR y') (hh y') :: wsG := by unfold wsY cdW; rw [hH]; rfl
    have hgi := wsG_good f14
    have hcm : Cond.codeWith (mY y') (mB y') (mL y') (mR y') (hh y') ∈ wsY y' := by rw [hcw]; exact List.mem_cons_self
    exact vx_runSW (As := (st.take (mP y')).reverse.map (conc G.1)) (n := mP y') ⟨hx, hb, hml, hown, hts⟩ hMet
      ⟨⟨rfl, rfl, hroom.1, hroom.2, pay_in hts hgi, hcm⟩, hts _ (hgi _ hcm).1, hts _ f5, ⟨f6.1, f6.2.1⟩, fun sig hsig => by
        have h2 := f6.2.2
        rw [hsig] at h2
        exact (Option.some.inj h2).symm, hts _ f1, hts _ f2⟩
      ⟨PcM_blind, hpc⟩ rfl hal hsz hst hcs hd hfit
set_option maxHeartbeats 4000000 in
/-- a call of an object's method that throws -/
theorem snd_callX {C : CC} {r : Res} {d : Nat} (ctx : At0 p s m args c G B0 y) (hR : RmD R d uc us rc rs) (hC : ∀ y' as I L S r', y' < 319 → C y' as I L S r' → SndR l G B0 d y' as I L S r')
    {pc j y' nest o' j' E : Nat} {ps : List Nat} {ls st : List Value} {I I' : VI} {L L' : VL} {S S' : SW} (hmk : mk (mO y) j = some (o', j', y', 0, nest, ps)) (hd : decode (mB y) pc = .ok (.invokevirtual j, 3))
    (hrc : ∃ b, st[mP y']? = some (.ref b) ∧ tagW S.1 b = mO y') (hcat : catS (st.drop (mP y' + 1)) ≤ 8) (hc : C y' (st.take (mP y' + 1)).reverse I L S (.inr E, I', L', S'))
    (h : uc ≤ S'.2.2.1 → us ≤ S'.2.2.2 → ls.length = mL y → (S'.2.2.1 ≤ rc ∧ S'.2.2.2 ≤ rs) ∧ ∀ (H : Heap) (locs : List Loc) (lr : Array Slot) (rest : List Value) (q : Addr) (ce : Cell), Mem G B0 I' L' S' H → lv_has lr (mL y) (clm G.1 ls) → va_S (AB B0) s.heap H locs → H[q]? = some ce → ce.vm = .none → s.vm.findClass (exN E) = some ce.cls →
      vx_W p l e R s m args below meth c H locs (S'.2.2.1 - uc) (S'.2.2.2 - us) Q (F0 m pc lr rest) q) : PP p l e R s m args below meth c Q G B0 y uc us rc rs pc ls st I L S := by
  obtain ⟨f1, f2, f3, f4, f5, f6, f7, f8, f9, f10, f11, f12, f13, f14⟩ := mk_facts hmk
  obtain ⟨⟨g1, g2⟩, hMet⟩ := hC _ _ _ _ _ _ f14 hc
  dsimp only at g1 g2 hMet
  obtain ⟨b, hb1, hb2⟩ := hrc
  obtain ⟨top, rest, rfl, htl⟩ := st_split hb1
  obtain ⟨t1, t2⟩ := take_top (rest := rest) (v := Value.ref b) htl
  rw [t1] at hMet
  rw [t2] at hcat
  have hO : mO y' < 12 := by
    rcases f11 with q | q
    · omega
    · exact q
  have hnH : isH y' = false := by
    rcases f13 with q | q
    · omega
    · exact q
  have hcw : wsY y' = Cond.code (mY y') (mB y') (mL y') (mR y') :: wsG := by unfold wsY cdW; rw [hnH]; rfl
  intro b1 b2 b3
  obtain ⟨⟨r1, r2⟩, h3⟩ := h (by omega) (by omega) b3
  refine ⟨⟨by omega, by omega⟩, fun H locs lr hM hlv hS => ?_⟩
  obtain ⟨hx, hb, hml, hown, hts, hK, hB, hF, hg⟩ := id ctx
  have hpc := pc_at (as := .ref b :: top.reverse) ctx hM hS
  have hrv := recv_at hK hM hO hb2
  have hfit : S.2.2.1 - uc + (S'.2.2.1 - S.2.2.1) ≤ R.cells ∧ S.2.2.2 - us + (S'.2.2.2 - S.2.2.2) ≤ R.slots := ⟨by have := hR.2.2.1; omega, by have := hR.2.2.2; omega⟩
  have hst : (top ++ Value.ref b :: rest).map (conc G.1) = ((top.reverse.map (conc G.1)).reverse) ++ Value.ref (G.1 b) :: rest.map (conc G.1) := by simp [conc]
  have hroom : (rmD d (S'.2.2.1 - S.2.2.1) (S'.2.2.2 - S.2.2.2)).frames + 1 ≤ R.frames ∧ 8 + (mL y' + 11) + (rmD d (S'.2.2.1 - S.2.2.1) (S'.2.2.2 - S.2.2.2)).locals ≤ R.locals := by
    have a1 := hR.1
    have a2 := hR.2.1
    simp only [rmD]
    omega
  have hcs : 2 * (F0 m pc lr ((top ++ Value.ref b :: rest).map (conc G.1))).monitorRoom + ((rest.map (conc G.1)).map fun v => v.category).sum ≤ 8 := by
    rw [catS_conc]
    show 2 * 0 + _ ≤ 8
    omega
  have hn0 : nest = 0 := by
    rcases f12 with q | q
    · omega
    · exact q
  rw [if_pos hn0] at f1
  rw [if_neg (by omega)] at f2
  have run := vx_runV (p := p) (e := e) (below := below) (meth := meth) (locs := locs) (C := (mY y').cls) (b := G.1 b) (As := top.reverse.map (conc G.1)) (n := mP y') (rest := rest.map (conc G.1)) (g := F0 m pc lr ((top ++ Value.ref b :: rest).map (conc G.1))) ⟨hx, hb, hml, hown, hts⟩ hMet
      ⟨callB_of _ hts (wsG_good f14) hcw rfl rfl (hts _ f5) (hts _ f1) f6 hroom, hts _ f2, hts _ (f3 rfl)⟩
      ⟨PcM_blind, by rw [f7]; exact hrv, hpc⟩ rfl (by simp [htl]) hlv.1 hst hcs hd hfit
  intro T hT X
  rcases run T hT X with ⟨v0, st₀, t, T', Lc, e0, X', hL, e1, e2, hno, -⟩ | ⟨q, st₀, t, T', Lc, En, ce, e0, X', hL, e1, e2, ⟨rfl, hM', hz, hk⟩, hce, hcv, hcl, stp⟩
  · exact hno.elim
  · rw [e0] at hz hk
    have hS' : va_S (AB B0) s.heap T'.heap (locs ++ Lc) := by
      rw [e1]
      exact ⟨Nat.le_trans hS.1 hz, fun q h1 h2 => (hk q (Nat.lt_of_lt_of_le h1 hS.1) h2).trans (hS.2.1 q h1 h2), fun q hq => by
        rcases List.mem_append.mp hq with hq | hq
        · exact hS.2.2 q hq
        · exact hL q hq⟩
    have h4 := h3 T'.heap (locs ++ Lc) lr (rest.map (conc G.1)) q ce (by rw [e1]; exact hM') hlv hS' (by rw [e1]; exact hce) hcv hcl
    rw [show S'.2.2.1 - uc = S.2.2.1 - uc + (S'.2.2.1 - S.2.2.1) by omega, show S'.2.2.2 - us = S.2.2.2 - us + (S'.2.2.2 - S.2.2.2) by omega] at h4
    obtain ⟨tt, a1, b1'⟩ := h4 T' rfl X'
    exact ⟨tt, stp.trans a1, b1'⟩
end Snd
