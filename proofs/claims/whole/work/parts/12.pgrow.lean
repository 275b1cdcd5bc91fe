section Snd
variable {p : Program} {l : Launch} {e : Env} {R : Room} {s : State} {m : MethodId} {args : Array Value} {below : List Frame} {meth : Method} {c : Code} {Q : State → Prop} {G : GX} {B0 y uc us rc rs : Nat}
/-- the room that a method has -/
def Rm (R : Room) (uc us rc rs : Nat) : Prop := 8 ≤ R.frames ∧ 200 ≤ R.locals ∧ rc - uc ≤ R.cells ∧ rs - us ≤ R.slots
theorem wl_D {I : VI} {L : VL} {W : List (Nat × Nat × List Nat)} (hg : ∀ k, 16 ≤ k → G.1 k = B0 + (k - 16)) : va_D (AB B0) (wl G I L W) := by
  refine ⟨fun i j p q hi hj hpq => ?_, fun k q hk => ?_⟩
  · rw [wl_at] at hi hj
    cases h1 : W[16 + i]? with
    | none => rw [h1] at hi; cases hi
    | some c1 =>
      cases h2 : W[16 + j]? with
      | none => rw [h2] at hj; cases hj
      | some c2 =>
        rw [h1] at hi
        rw [h2] at hj
        cases hi
        cases hj
        dsimp only at hpq
        rw [hg _ (by omega), hg _ (by omega)] at hpq
        omega
  · rw [wl_at] at hk
    cases h1 : W[16 + k]? with
    | none => rw [h1] at hk; cases hk
    | some c1 =>
      rw [h1] at hk
      cases hk
      show B0 ≤ G.1 (16 + k)
      rw [hg _ (by omega)]
      omega
theorem Mem.len {I : VI} {L : VL} {S : SW} {H : Heap} (hM : Mem G B0 I L S H) : 16 ≤ S.1.length := by
  have h := congrArg List.length hM.2.2.2.2.2.1
  simp [w16] at h
  omega
theorem Mem.lt {I : VI} {L : VL} {S : SW} {H : Heap} (hM : Mem G B0 I L S H) : ∀ (i : Nat) (q : Nat × va_E), (wl G I L S.1)[i]? = some q → q.1 < H.size := fun i q h => (hM.1 i q h).lt
/-- cells come behind the others -/
theorem Mem.grow {I I' : VI} {L L' : VL} {S S' : SW} {H H1 : Heap} {cs : List (Nat × Nat × List Nat)} (hM : Mem G B0 I L S H) (hg : ∀ k, 16 ≤ k → G.1 k = B0 + (k - 16)) (hS' : S'.1 = S.1 ++ cs) (hold : ∀ q, q < H.size → H1[q]? = H[q]?) (hI : ∀ k, k < S.1.length → I' k = I k) (hL : ∀ k, k < S.1.length → L' k = L k)
    (hnew : ∀ (i : Nat) (q : Nat × Nat × List Nat), cs[i]? = some q → va_at G.2.1 vwCl (G.1 (S.1.length + i), ent G I' L' (S.1.length + i) q) H1) (hz : S'.2.1 = true → H1.size = G.1 S'.1.length) (hok : ∀ (i : Nat) (q : Nat × Nat × List Nat), cs[i]? = some q → q.1 < 12 → q.2.1 = (cC q.1).2.2 ∧ q.2.2.length = q.2.1) : Mem G B0 I' L' S' H1 := by
  have hlen := hM.len
  obtain ⟨m1, m2, m3, m4, m5, m6, m7⟩ := hM
  refine ⟨?_, wl_D hg, hz, by rw [hI 1 (by omega)]; exact m4, by rw [hI 2 (by omega)]; exact m5, ?_, ?_⟩
  · intro i q hi
    rw [wl_at, hS'] at hi
    by_cases h1 : 16 + i < S.1.length
    · rw [List.getElem?_append_left h1] at hi
      have h2 : (wl G I L S.1)[i]? = some q := by
        rw [wl_at]
        rw [← hi]
        congr 1
        funext c'
        rw [ent_cong (hI _ h1) (hL _ h1)]
      exact (m1 i q h2).kept (hold _ (m1 i q h2).lt)
    · rw [List.getElem?_append_right (by omega)] at hi
      cases h3 : cs[16 + i - S.1.length]? with
      | none => rw [h3] at hi; cases hi
      | some q' =>
        rw [h3] at hi
        cases hi
        have h4 := hnew _ _ h3
        rw [show S.1.length + (16 + i - S.1.length) = 16 + i by omega] at h4
        exact h4
  · rw [hS', List.take_append_of_le_length hlen]; exact m6
  · rw [hS']
    intro k q hk hlt
    by_cases h1 : k < S.1.length
    · rw [List.getElem?_append_left h1] at hk
      exact m7 k q hk hlt
    · rw [List.getElem?_append_right (by omega)] at hk
      exact hok _ _ hk hlt
theorem vS_grow {H H1 : Heap} {locs : List Loc} (hS : va_S (AB B0) s.heap H locs) (hz : H.size ≤ H1.size) (hold : ∀ q, q < H.size → H1[q]? = H[q]?) : va_S (AB B0) s.heap H1 locs :=
  ⟨Nat.le_trans hS.1 hz, fun q h1 h2 => (hold q (Nat.lt_of_lt_of_le h1 hS.1)).trans (hS.2.1 q h1 h2), hS.2.2⟩
theorem cTy_def {ci f : Nat} (h : ci < 12) (hf : f < (cC ci).2.2) : defaultValue (cTy ci f) = if cTy ci f = .int then .int 0 else .null := by
  have key : (List.range 12).all (fun ci => (List.range (cC ci).2.2).all (fun f => decide (cTy ci f = .int) || (match cTy ci f with | .object _ => true | .array _ => true | _ => false))) = true := by decide +kernel
  have h1 := List.all_eq_true.mp (List.all_eq_true.mp key ci (List.mem_range.mpr h)) f (List.mem_range.mpr hf)
  rw [Bool.or_eq_true] at h1
  rcases h1 with h1 | h1
  · have e := of_decide_eq_true h1
    rw [e]; rfl
  · split at h1
    · rename_i q e1; rw [e1]; rfl
    · rename_i q e1; rw [e1]; rfl
    · cases h1
set_option maxHeartbeats 4000000 in
theorem snd_new {C : CC} {r : Res} (ctx : At0 p s m args c G B0 y) (hR : Rm R uc us rc rs) {pc n j : Nat} {ls st : List Value} {I : VI} {L : VL} {S : SW} (hd : decode (mB y) pc = .ok (.new j, n)) (hn : ilen (.new j) n = true)
    (h1 : stepI C y pc (pc + n) (.new j) ls st I L S (PP p l e R s m args below meth c Q G B0 y uc us rc rs) r) (hth : th y pc = none) : PP p l e R s m args below meth c Q G B0 y uc us rc rs pc ls st I L S := by
  obtain ⟨hx, hb, hml, hown, hts, hK, hB, hF, hg⟩ := ctx
  obtain rfl : n = 3 := eq_of_beq hn
  simp only [stepI, hth] at h1
  split at h1
  · rename_i ci nn hck
    obtain ⟨c1, c2, c3, c4, c5⟩ := ck_facts hck
    obtain ⟨hfr, h2⟩ := h1
    intro b1 b2 b3
    have b1' : uc ≤ (grow S (ci, nn, List.replicate nn 0) nn).2.2.1 := by simp only [grow]; omega
    have b2' : us ≤ (grow S (ci, nn, List.replicate nn 0) nn).2.2.2 := by simp only [grow]; omega
    obtain ⟨⟨r1, r2⟩, h3⟩ := h2 b1' b2' b3
    simp only [grow] at r1 r2 h3
    refine ⟨⟨by omega, by omega⟩, fun H locs lr hM hlv hS => ?_⟩
    obtain ⟨hcl, hlay, hty, hnm⟩ := cl_ok ci c1
    have hKn := hK.1 ci _ hcl
    refine W.newcK hx hb hown (hts _ c3) (hts _ c4) (hts _ c5) rfl hd (by have := hR.2.2.1; omega) (by have := hR.2.2.2; omega) hKn.2.1 (hM.2.2.1 hfr) fun H1 kC hkC e1 z1 o1 => ?_
    have hsz := hM.2.2.1 hfr
    have o1' : ∀ q, q < H.size → H1[q]? = H[q]? := fun q hq => o1 q (by rw [← hsz]; exact hq)
    have hM1 : Mem G B0 (zI I S.1.length) L (S.1 ++ [(ci, nn, List.replicate nn 0)], S.2.1, S.2.2.1 + 1, S.2.2.2 + nn) H1 := by
      refine hM.grow hg rfl o1' (fun k hk => ?_) (fun _ _ => rfl) (fun i q hi => ?_) (fun _ => ?_) (fun i q hi hlt => ?_)
      · funext j'; simp only [zI]; rw [if_neg (by omega)]
      · have hi0 : i = 0 := by
          have := (List.getElem?_eq_some_iff.mp hi).1
          simp at this
          exact this
        subst hi0
        cases hi
        rw [ent_o c1]
        refine ⟨_, hcl, (u_born (cTy ci) hts hlay hKn hkC (o := G.1 (S.1.length + 0)) e1 hty).to (fun j' hj' => ?_)⟩
        rw [cTy_def c1 hj']
        unfold vp_V
        rw [List.getD_eq_getElem?_getD, fields_at (by omega)]
        simp only [Nat.add_zero, zI, if_true, Option.getD_some]
        have e0 : (List.replicate nn 0).getD j' 0 = 0 := by
          rw [List.getD_eq_getElem?_getD, List.getElem?_replicate]
          split <;> rfl
        rw [e0]
        rfl
      · rw [z1, hg _ hM.len, hg _ (by simp; have := hM.len; omega)]
        simp
        have := hM.len
        omega
      · have hi0 : i = 0 := by
          have := (List.getElem?_eq_some_iff.mp hi).1
          simp at this
          exact this
        subst hi0
        cases hi
        exact ⟨c2, by simp⟩
    have h4 := h3 H1 locs lr hM1 hlv (vS_grow hS (by omega) o1')
    rw [show S.2.2.1 + 1 - uc = S.2.2.1 - uc + 1 by omega, show S.2.2.2 + nn - us = S.2.2.2 - us + nn by omega] at h4
    exact h4
  · exact h1.elim
set_option maxHeartbeats 4000000 in
theorem snd_newarray {C : CC} {r : Res} (ctx : At0 p s m args c G B0 y) (hR : Rm R uc us rc rs) {pc n : Nat} {a : ArrayType} {ls st : List Value} {I : VI} {L : VL} {S : SW} (hd : decode (mB y) pc = .ok (.newarray a, n)) (hn : ilen (.newarray a) n = true)
    (h1 : stepI C y pc (pc + n) (.newarray a) ls st I L S (PP p l e R s m args below meth c Q G B0 y uc us rc rs) r) : PP p l e R s m args below meth c Q G B0 y uc us rc rs pc ls st I L S := by
  obtain ⟨hx, hb, hml, hown, hts, hK, hB, hF, hg⟩ := ctx
  obtain rfl : n = 2 := eq_of_beq hn
  simp only [stepI] at h1
  split at h1
  · rename_i nn st'
    obtain ⟨hfr, hn0, hn1, hat, h2⟩ := h1
    intro b1 b2 b3
    have b1' : uc ≤ (grow S (atTag a, nn.toNatClampNeg, []) nn.toNatClampNeg).2.2.1 := by simp only [grow]; omega
    have b2' : us ≤ (grow S (atTag a, nn.toNatClampNeg, []) nn.toNatClampNeg).2.2.2 := by simp only [grow]; omega
    obtain ⟨⟨r1, r2⟩, h3⟩ := h2 b1' b2' b3
    simp only [grow] at r1 r2 h3
    refine ⟨⟨by omega, by omega⟩, fun H locs lr hM hlv hS => ?_⟩
    have harr : (Cond.arrayClass (newarray.typeOf a)).before args s = true := by
      cases a <;> first | exact hts _ w_ai | exact hts _ w_ab | exact hts _ w_al | (simp [atTag] at hat; done)
    have hby : nn.toNatClampNeg * componentBytes (newarray.typeOf a) ≤ 536870912 := by
      have : componentBytes (newarray.typeOf a) ≤ 8 := by cases a <;> decide
      calc nn.toNatClampNeg * componentBytes (newarray.typeOf a) ≤ 60000000 * 8 := Nat.mul_le_mul hn1 this
        _ ≤ 536870912 := by decide
    have hsz := hM.2.2.1 hfr
    refine va_newaK hx hb harr rfl hd rfl hn0 rfl hby (by have := hR.2.2.1; omega) (by have := hR.2.2.2; omega) hsz fun H1 cA e1 z1 o1 hA hfc => ?_
    have o1' : ∀ q, q < H.size → H1[q]? = H[q]? := fun q hq => o1 q (by rw [← hsz]; exact hq)
    have hM1 : Mem G B0 (zI I S.1.length) (zL L S.1.length) (S.1 ++ [(atTag a, nn.toNatClampNeg, [])], S.2.1, S.2.2.1 + 1, S.2.2.2 + nn.toNatClampNeg) H1 := by
      refine hM.grow hg rfl o1' (fun k hk => ?_) (fun k hk => ?_) (fun i q hi => ?_) (fun _ => ?_) (fun i q hi hlt => ?_)
      · funext j'; simp only [zI]; rw [if_neg (by omega)]
      · funext j'; simp only [zL]; rw [if_neg (by omega)]
      · have hi0 : i = 0 := by
          have := (List.getElem?_eq_some_iff.mp hi).1
          simp at this
          exact this
        subst hi0
        cases hi
        have ez : zI I S.1.length (S.1.length + 0) = fun _ => 0 := by funext j'; simp [zI]
        have ezl : zL L S.1.length (S.1.length + 0) = fun _ => 0 := by funext j'; simp [zL]
        cases a
        case int =>
          show va_at _ _ (_, ent G _ _ _ (100, _, _)) _
          rw [ent_i, ez]
          have : cA = G.2.2.1.1 := Option.some.inj (hfc.symm.trans (hK.2 0 _ rfl).2)
          rw [← this]
          exact e1
        case byte =>
          show va_at _ _ (_, ent G _ _ _ (101, _, _)) _
          rw [ent_b, ez]
          have : cA = G.2.2.1.2.1 := Option.some.inj (hfc.symm.trans (hK.2 1 _ rfl).2)
          rw [← this]
          exact e1
        case long =>
          show va_at _ _ (_, ent G _ _ _ (102, _, _)) _
          rw [ent_l, ezl]
          have : cA = G.2.2.1.2.2.1 := Option.some.inj (hfc.symm.trans (hK.2 2 _ rfl).2)
          rw [← this]
          exact e1
        all_goals (simp [atTag] at hat)
      · rw [z1, hg _ hM.len, hg _ (by simp; have := hM.len; omega)]
        simp
        have := hM.len
        omega
      · have hi0 : i = 0 := by
          have := (List.getElem?_eq_some_iff.mp hi).1
          simp at this
          exact this
        subst hi0
        cases hi
        exfalso
        cases a <;> simp [atTag] at hlt hat
    have h4 := h3 H1 locs lr hM1 hlv (vS_grow hS (by omega) o1')
    rw [show S.2.2.1 + 1 - uc = S.2.2.1 - uc + 1 by omega, show S.2.2.2 + nn.toNatClampNeg - us = S.2.2.2 - us + nn.toNatClampNeg by omega] at h4
    exact h4
  · exact h1.elim
set_option maxHeartbeats 4000000 in
theorem snd_multi {C : CC} {r : Res} (ctx : At0 p s m args c G B0 y) (hR : Rm R uc us rc rs) {pc n j d : Nat} {ls st : List Value} {I : VI} {L : VL} {S : SW} (hd : decode (mB y) pc = .ok (.multianewarray j d, n)) (hn : ilen (.multianewarray j d) n = true)
    (h1 : stepI C y pc (pc + n) (.multianewarray j d) ls st I L S (PP p l e R s m args below meth c Q G B0 y uc us rc rs) r) : PP p l e R s m args below meth c Q G B0 y uc us rc rs pc ls st I L S := by
  obtain ⟨hx, hb, hml, hown, hts, hK, hB, hF, hg⟩ := ctx
  obtain rfl : n = 4 := eq_of_beq hn
  simp only [stepI] at h1
  split at h1
  · rename_i mm nn st'
    obtain ⟨rfl, ho, rfl, hfr, hn0, hm0, hn1, hm1, h2⟩ := h1
    intro b1 b2 b3
    have b1' : uc ≤ (growM S nn.toNatClampNeg mm.toNatClampNeg).2.2.1 := by simp only [growM]; omega
    have b2' : us ≤ (growM S nn.toNatClampNeg mm.toNatClampNeg).2.2.2 := by simp only [growM]; omega
    obtain ⟨⟨r1, r2⟩, h3⟩ := h2 b1' b2' b3
    simp only [growM] at r1 r2 h3
    refine ⟨⟨by omega, by omega⟩, fun H locs lr hM hlv hS => ?_⟩
    have hsz := hM.2.2.1 hfr
    have hlen := hM.len
    have hown' : s.vm.findClass RX11 = some m.cls := by rw [ho] at hown; exact hown
    intro T hT Xs
    obtain ⟨vm₁, cA, comp, -, fA, fC, hO, -, X', step⟩ := Xs.multianewarray2F hx (own := RX11) (index := 29) (ty := .int) hown' (hts _ w_mn) (va_AOA.use hF.2.2.2.2.2.2) (hts _ w_ai) (g := F0 m pc lr (.int mm :: .int nn :: st'.map (conc G.1))) rfl (by rw [hb]; exact hd) rfl hn0 hm0 (by omega) (by show mm.toNatClampNeg * 4 ≤ _; omega) (by omega) rfl rfl (by have := hR.2.2.1; omega) (by have := hR.2.2.2; omega)
    generalize hFe : Jvm.Free.Multi.fill (T.setVm vm₁) cA comp nn.toNatClampNeg mm.toNatClampNeg (defaultValue .int) nn.toNatClampNeg = F at X' step
    have hTh : (T.setVm vm₁).heap = H := hT
    obtain ⟨f1, f2, -, -⟩ := Jvm.Free.Multi.fill_facts (T.setVm vm₁) cA comp nn.toNatClampNeg mm.toNatClampNeg (defaultValue .int) nn.toNatClampNeg
    rw [hFe, hTh] at f1 f2
    have hold : ∀ x : Nat, x < H.size → F.heap[x]? = H[x]? := fun x hx => by
      have := Jvm.Free.Multi.fill_old (T.setVm vm₁) cA comp nn.toNatClampNeg mm.toNatClampNeg (defaultValue .int) (a := x) (by rw [hTh]; exact hx) nn.toNatClampNeg
      rw [hFe, hTh] at this
      exact this
    have hrow : ∀ j : Nat, j < nn.toNatClampNeg → F.heap[H.size + 1 + j]? = some (arrV comp mm.toNatClampNeg (fun _ => .int 0)) := fun j hj => by
      have := Jvm.Free.Multi.fill_inner (T.setVm vm₁) cA comp nn.toNatClampNeg mm.toNatClampNeg (defaultValue .int) nn.toNatClampNeg j hj
      rw [hFe, hTh] at this
      rw [this, ← arrV_new]
      rfl
    rw [vr_outer] at f2
    have ecA : cA = G.2.2.1.2.2.2 := Option.some.inj (fA.symm.trans (hK.2 3 _ rfl).2)
    have ecI : comp = G.2.2.1.1 := Option.some.inj (fC.symm.trans (hK.2 0 _ rfl).2)
    subst ecA ecI
    have hM1 : Mem G B0 (zIs I S.1.length (nn.toNatClampNeg + 1)) L (S.1 ++ (103, nn.toNatClampNeg, (List.range nn.toNatClampNeg).map (fun i => S.1.length + 1 + i)) :: List.replicate nn.toNatClampNeg (100, mm.toNatClampNeg, []), S.2.1, S.2.2.1 + 1 + nn.toNatClampNeg, S.2.2.2 + nn.toNatClampNeg + nn.toNatClampNeg * mm.toNatClampNeg) F.heap := by
      refine hM.grow hg rfl hold (fun k hk => ?_) (fun _ _ => rfl) (fun i q hi => ?_) (fun _ => ?_) (fun i q hi hlt => ?_)
      · funext j'; simp only [zIs]; rw [if_neg (by omega)]
      · cases i with
        | zero =>
          cases hi
          rw [ent_a]
          show F.heap[G.1 (S.1.length + 0)]? = some (vp_cell _ _)
          rw [Nat.add_zero, ← hsz, f2]
          dsimp only
          rw [vp_cell_q]
          congr 2
          funext j'
          congr 1
          rw [List.getD_eq_getElem?_getD, List.getElem?_map]
          by_cases hj : j' < nn.toNatClampNeg
          · rw [if_pos hj, List.getElem?_range hj]
            simp only [Option.map_some, Option.getD_some, rfo]
            rw [if_neg (by omega), hg _ (by omega)]
            rw [hsz, hg _ hlen]
            congr 1
            omega
          · rw [if_neg hj, List.getElem?_eq_none (by rw [List.length_range]; omega)]
            rfl
        | succ i =>
          rw [List.getElem?_cons_succ, List.getElem?_replicate] at hi
          split at hi
          · rename_i hlt
            cases hi
            rw [ent_i]
            show F.heap[G.1 (S.1.length + (i + 1))]? = some (vp_cell _ _)
            dsimp only
            rw [vp_cell_i]
            have h5 := hrow i hlt
            rw [hsz, hg _ hlen] at h5
            rw [hg _ (by omega), show B0 + (S.1.length + (i + 1) - 16) = B0 + (S.1.length - 16) + 1 + i by omega, h5]
            congr 1
            congr 1
            funext j'
            simp only [zIs]
            rw [if_pos (by omega)]
          · cases hi
      · rw [f1, hsz, hg _ hlen, hg _ (by simp; omega)]
        simp
        omega
      · exfalso
        cases i with
        | zero => cases hi; simp at hlt
        | succ i =>
          rw [List.getElem?_cons_succ, List.getElem?_replicate] at hi
          split at hi
          · cases hi; simp at hlt
          · cases hi
    have h4 := h3 F.heap locs lr hM1 hlv (vS_grow hS (by omega) hold)
    obtain ⟨t, a1, b1⟩ := h4 F rfl (by
      rw [show S.2.2.1 + 1 + nn.toNatClampNeg - uc = S.2.2.1 - uc + 1 + nn.toNatClampNeg by omega, show S.2.2.2 + nn.toNatClampNeg + nn.toNatClampNeg * mm.toNatClampNeg - us = S.2.2.2 - us + nn.toNatClampNeg + nn.toNatClampNeg * mm.toNatClampNeg by omega]
      exact X')
    refine ⟨t, step t ?_, b1⟩
    have e : T.heap.size = G.1 S.1.length := by rw [hT]; exact hsz
    rw [e]
    exact a1
  · exact h1.elim
end Snd
