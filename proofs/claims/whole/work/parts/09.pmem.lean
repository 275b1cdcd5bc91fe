section Snd
variable {p : Program} {l : Launch} {e : Env} {R : Room} {s : State} {m : MethodId} {args : Array Value} {below : List Frame} {meth : Method} {c : Code} {Q : State → Prop} {G : GX} {B0 y uc us rc rs : Nat}
/-- a step that writes ints or longs of one cell -/
theorem pp_wr {pc pc' : Nat} {ls st st' : List Value} {I I' : VI} {L L' : VL} {S : SW} (h : PP p l e R s m args below meth c Q G B0 y uc us rc rs pc' ls st' I' L' S)
    (row : ∀ (H : Heap) (locs : List Loc) (lr : Array Slot) (cells slots : Nat), Mem G B0 I L S H → va_S (AB B0) s.heap H locs → (∀ (H1 : Heap) (locs1 : List Loc), Mem G B0 I' L' S H1 → va_S (AB B0) s.heap H1 locs1 → W p l e R s m args below meth c H1 locs1 cells slots Q (F0 m pc' lr (st'.map (conc G.1)))) → W p l e R s m args below meth c H locs cells slots Q (F0 m pc lr (st.map (conc G.1)))) :
    PP p l e R s m args below meth c Q G B0 y uc us rc rs pc ls st I L S := fun a b hl => ⟨(h a b hl).1, fun H locs lr hM hlv hS => row H locs lr _ _ hM hS (fun H1 locs1 hM1 hS1 => (h a b hl).2 H1 locs1 lr hM1 hlv hS1)⟩
theorem Mem.put {I I' : VI} {L L' : VL} {S : SW} {H H1 : Heap} {k : Nat} {q : Nat × Nat × List Nat} (hM : Mem G B0 I L S H) (hk : 16 ≤ k) (hq : S.1[k]? = some q) (hI : ∀ k', k' ≠ k → I' k' = I k') (hL : ∀ k', k' ≠ k → L' k' = L k')
    (hP : va_P G.2.1 vwCl ((wl G I L S.1).set (k - 16) (G.1 k, ent G I' L' k q)) H1) (hD : va_D (AB B0) ((wl G I L S.1).set (k - 16) (G.1 k, ent G I' L' k q))) (hz : H1.size = H.size) : Mem G B0 I' L' S H1 := by
  obtain ⟨h1, h2, h3, h4, h5, h6⟩ := hM
  rw [← wl_set hk hq hI hL] at hP hD
  exact ⟨hP, hD, fun z => hz.trans (h3 z), by rw [hI 1 (by omega)]; exact h4, by rw [hI 2 (by omega)]; exact h5, h6⟩
theorem ent_i {I : VI} {L : VL} {k n : Nat} {rs : List Nat} : ent G I L k (100, n, rs) = .inl (G.2.2.1.1, n, .inl (I k)) := by simp [ent]
theorem ent_b {I : VI} {L : VL} {k n : Nat} {rs : List Nat} : ent G I L k (101, n, rs) = .inl (G.2.2.1.2.1, n, .inl (I k)) := by simp [ent]
theorem ent_l {I : VI} {L : VL} {k n : Nat} {rs : List Nat} : ent G I L k (102, n, rs) = .inl (G.2.2.1.2.2.1, n, .inr (.inl (L k))) := by simp [ent]
theorem ent_a {I : VI} {L : VL} {k n : Nat} {rs : List Nat} : ent G I L k (103, n, rs) = .inl (G.2.2.1.2.2.2, n, .inr (.inr (.inr (.inr (fun j => rfo G.1 (rs.getD j 0)))))) := by simp [ent]
theorem ent_o {I : VI} {L : VL} {k ci n : Nat} {rs : List Nat} (h : ci < 12) : ent G I L k (ci, n, rs) = .inr (ci, fields G.1 I k ci n rs) := by
  unfold ent
  rw [if_neg (by show ¬ ci = 100; omega), if_neg (by show ¬ ci = 101; omega), if_neg (by show ¬ ci = 102; omega), if_neg (by show ¬ ci = 103; omega)]
theorem fields_at {g : Nat → Nat} {I : VI} {k ci n f : Nat} {rs : List Nat} (h : f < n) : (fields g I k ci n rs)[f]? = some (if cTy ci f = .int then .int (I k f) else conc g (rv (rs.getD f 0))) := by
  unfold fields
  rw [List.getElem?_map, List.getElem?_range h]
  simp only [Option.map_some]
  rw [va_rf_rv]
theorem fields_len {g : Nat → Nat} {I : VI} {k ci n : Nat} {rs : List Nat} : (fields g I k ci n rs).length = n := by simp [fields]
theorem fields_set {g : Nat → Nat} {I : VI} {k ci n f : Nat} {x : Int32} {rs : List Nat} (h : f < n) (ht : cTy ci f = .int) : (fields g I k ci n rs).set f (.int x) = fields g (u2 I k f x) k ci n rs := by
  apply List.ext_getElem?
  intro i
  by_cases hi : i = f
  · subst hi
    rw [List.getElem?_set_self (by rw [fields_len]; exact h), fields_at h, if_pos ht]
    simp [u2]
  · rw [List.getElem?_set_ne (Ne.symm hi)]
    by_cases hn : i < n
    · rw [fields_at hn, fields_at hn]
      simp [u2, hi]
    · rw [List.getElem?_eq_none (by rw [fields_len]; omega), List.getElem?_eq_none (by rw [fields_len]; omega)]
theorem old_tag {S : SW} {H : Heap} {I : VI} {L : VL} {k : Nat} (hM : Mem G B0 I L S H) (hk : k < 16) : S.1[k]? = (w16 G.2.2.2.2)[k]? := by
  rw [← hM.2.2.2.2.2.1, List.getElem?_take, if_pos hk]
theorem old_arr {S : SW} {H : Heap} {I : VI} {L : VL} {k n : Nat} {rs : List Nat} (hM : Mem G B0 I L S H) (hk : k < 16) (h : S.1[k]? = some (100, n, rs)) : (k = 1 ∧ n = G.2.2.2.2) ∨ (k = 2 ∧ n = 9) := by
  rw [old_tag hM hk] at h
  unfold w16 at h
  match k, hk with
  | 0, _ => simp at h
  | 1, _ => simp at h; exact Or.inl ⟨rfl, h.1.symm⟩
  | 2, _ => simp at h; exact Or.inr ⟨rfl, h.1.symm⟩
  | 3, _ => simp at h
  | 4, _ => simp at h
  | 5, _ => simp at h
  | 6, _ => simp at h
  | 7, _ => simp at h
  | 8, _ => simp at h
  | 9, _ => simp at h
  | 10, _ => simp at h
  | 11, _ => simp at h
  | 12, _ => simp at h
  | 13, _ => simp at h
  | 14, _ => simp at h
  | 15, _ => simp at h
theorem old_no {S : SW} {H : Heap} {I : VI} {L : VL} {k t n : Nat} {rs : List Nat} (hM : Mem G B0 I L S H) (h : S.1[k]? = some (t, n, rs)) (ht : t ≠ 100) (ht2 : t ≠ 104) (ht3 : t ≠ 999) : 16 ≤ k := by
  rcases Nat.lt_or_ge k 16 with hk | hk
  · rw [old_tag hM hk] at h
    have h1 : (t, n, rs) ∈ w16 G.2.2.2.2 := List.mem_of_getElem? h
    simp [w16] at h1
    omega
  · exact hk
theorem fk_facts {o j ci f ty nest pos o' j' : Nat} (h : fk o j = some (o', j', ci, f, ty, nest, pos)) : ci < 12 ∧ f < (cC ci).2.2 ∧
    (if nest = 0 then Cond.fieldLink (oR o) j ((cC ci).2.1 f).1 ((cC ci).2.1 f).2.1 ((cC ci).2.1 f).2.2.1 ∈ wsG else Cond.fieldLinkNest (oR o) j ((cC ci).2.1 f).1 ((cC ci).2.1 f).2.1 ((cC ci).2.1 f).2.2.1 "DebtMiller" ∈ lw_tbl) ∧
    (if ty = 0 then cTy ci f = .int ∧ ((cC ci).2.1 f).2.2.2 = false else cTy ci f ≠ .int ∧ ((cC ci).2.1 f).2.2.2 = true) := by
  obtain ⟨h1, h2, h3⟩ := fk_ok h
  dsimp only at h1 h2
  subst h1 h2
  unfold fkOK at h3
  simp only [Bool.and_eq_true] at h3
  obtain ⟨⟨⟨a1, a2⟩, a3⟩, a4⟩ := h3
  refine ⟨of_decide_eq_true a1, of_decide_eq_true a2, ?_, ?_⟩
  · by_cases hn : nest = 0
    · rw [if_pos hn] at a3 ⊢; exact inG_mem a3
    · rw [if_neg hn] at a3 ⊢; exact inT_mem a3
  · by_cases hn : ty = 0
    · rw [if_pos hn] at a4 ⊢; rw [Bool.and_eq_true] at a4; exact ⟨of_decide_eq_true a4.1, of_decide_eq_true a4.2⟩
    · rw [if_neg hn] at a4 ⊢; rw [Bool.and_eq_true] at a4; exact ⟨of_decide_eq_true a4.1, of_decide_eq_true a4.2⟩
set_option maxHeartbeats 4000000 in
theorem snd_getfield {C : CC} {r : Res} (ctx : At0 p s m args c G B0 y) {pc n j : Nat} {ls st : List Value} {I : VI} {L : VL} {S : SW} (hd : decode (mB y) pc = .ok (.getfield j, n)) (hn : ilen (.getfield j) n = true)
    (h1 : stepI C y pc (pc + n) (.getfield j) ls st I L S (PP p l e R s m args below meth c Q G B0 y uc us rc rs) r) : PP p l e R s m args below meth c Q G B0 y uc us rc rs pc ls st I L S := by
  obtain ⟨hx, hb, hml, hown, hts, hK, hB, hF, hg⟩ := ctx
  obtain rfl : n = 3 := eq_of_beq hn
  simp only [stepI] at h1
  split at h1
  · rename_i o' j' ci f ty nest pos k st' hfk
    obtain ⟨htag, h2⟩ := h1
    obtain ⟨f1, f2, f3, f4⟩ := fk_facts hfk
    obtain ⟨nn, rs', hq, hl1, hl2⟩ := tag_some htag (by omega)
    have key : PP p l e R s m args below meth c Q G B0 y uc us rc rs (pc + 3) ls ((if cTy ci f = .int then .int (I k f) else rv (refW S.1 k f)) :: st') I L S := by
      by_cases hty : ty = 0
      · rw [if_pos hty] at h2 f4; rw [if_pos f4.1]; exact h2
      · rw [if_neg hty] at h2 f4; rw [if_neg f4.1]; exact h2
    refine pp_go key fun H locs lr _ _ hl hM hS k0 => ?_
    have hk16 := old_no hM hq (by omega) (by omega) (by omega)
    obtain ⟨hcl, hlay, hty, hnm⟩ := cl_ok ci f1
    have hnn : nn = (cC ci).2.2 := (hM.2.2.2.2.2.2 k _ hq f1).1
    have he := wl_get (G := G) (I := I) (L := L) hk16 hq
    rw [ent_o f1] at he
    have hv := fields_at (g := G.1) (I := I) (k := k) (ci := ci) (rs := rs') (show f < nn by omega)
    have hcv : conc G.1 (if cTy ci f = .int then .int (I k f) else rv (refW S.1 k f)) = (if cTy ci f = .int then .int (I k f) else conc G.1 (rv (rs'.getD f 0))) := by
      rw [← hl2 f]
      split <;> rfl
    rw [← hcv] at hv
    by_cases hne : nest = 0
    · rw [if_pos hne] at f3
      exact va_get hx hb hts hlay hown hK hM.1 (k - 16) he hcl f f2 (hts _ f3) (fun _ z => z) hv hd k0
    · rw [if_neg hne] at f3
      exact va_getN hx hb hts hlay hown hK hM.1 (k - 16) he hcl f f2 (va_Nw.use rfl (hF.2.2.2.1 _ f3 rfl)) (fun _ z => z) hv hd k0
  · exact h1.elim
set_option maxHeartbeats 4000000 in
theorem snd_array {C : CC} {r : Res} (ctx : At0 p s m args c G B0 y) {pc n : Nat} {i : Instr} {ls st : List Value} {I : VI} {L : VL} {S : SW} (hd : decode (mB y) pc = .ok (i, n)) (hn : ilen i n = true)
    (h1 : stepI C y pc (pc + n) i ls st I L S (PP p l e R s m args below meth c Q G B0 y uc us rc rs) r) (hi : i = .iaload ∨ i = .iastore ∨ i = .baload ∨ i = .bastore ∨ i = .laload ∨ i = .lastore ∨ i = .aaload ∨ i = .arraylength) : PP p l e R s m args below meth c Q G B0 y uc us rc rs pc ls st I L S := by
  obtain ⟨hx, hb, hml, hown, hts, hK, hB, hF, hg⟩ := ctx
  rcases hi with rfl | rfl | rfl | rfl | rfl | rfl | rfl | rfl
  · simp only [stepI] at h1
    obtain rfl : n = 1 := eq_of_beq hn
    split at h1
    · rename_i j k st'
      obtain ⟨a1, a2, a3⟩ := h1
      obtain ⟨nn, rs', hq, hl1, hl2⟩ := tag_some a1 (by omega)
      rw [hl1] at a2
      refine pp_go a3 fun H locs lr _ _ hl hM hS k0 => ?_
      rcases Nat.lt_or_ge k 16 with hk | hk
      · rcases old_arr hM hk hq with ⟨rfl, e1⟩ | ⟨rfl, e1⟩
        · exact va_ti hx hb hF.1 hS (by rw [← e1]; exact a2) (v := .int (I 1 j.toNatClampNeg)) (by rw [hM.2.2.2.1]) hd k0
        · exact va_ti hx hb hF.2.1 hS (by rw [← e1]; exact a2) (v := .int (I 2 j.toNatClampNeg)) (by rw [hM.2.2.2.2.1]) hd k0
      · have he := wl_get (G := G) (I := I) (L := L) hk hq
        rw [ent_i] at he
        exact va_iald hx hb hK hM.1 (k - 16) 0 he rfl a2 hd k0
    · exact h1.elim
  · simp only [stepI] at h1
    obtain rfl : n = 1 := eq_of_beq hn
    split at h1
    · rename_i x j k st'
      obtain ⟨a1, ak, a2, a3⟩ := h1
      obtain ⟨nn, rs', hq, hl1, hl2⟩ := tag_some a1 (by omega)
      rw [hl1] at a2
      refine pp_wr a3 fun H locs lr _ _ hM hS k0 => ?_
      have he := wl_get (G := G) (I := I) (L := L) ak hq
      rw [ent_i] at he
      refine vz_iast hx hb hK hM.1 hM.2.1 hS (k - 16) 0 he rfl a2 hd fun H1 locs1 hP1 hD1 hS1 hz => ?_
      refine k0 H1 locs1 (hM.put ak hq (fun k' h => u2_ne h) (fun _ _ => rfl) ?_ ?_ hz) hS1
      · rw [ent_i, u2_at]; exact hP1
      · rw [ent_i, u2_at]; exact hD1
    · exact h1.elim
  · simp only [stepI] at h1
    obtain rfl : n = 1 := eq_of_beq hn
    split at h1
    · rename_i j k st'
      obtain ⟨a1, ak, a2, a3⟩ := h1
      obtain ⟨nn, rs', hq, hl1, hl2⟩ := tag_some a1 (by omega)
      rw [hl1] at a2
      refine pp_go a3 fun H locs lr _ _ hl hM hS k0 => ?_
      have he := wl_get (G := G) (I := I) (L := L) ak hq
      rw [ent_b] at he
      exact va_bald hx hb hK hM.1 (k - 16) 1 he rfl a2 hd k0
    · exact h1.elim
  · simp only [stepI] at h1
    obtain rfl : n = 1 := eq_of_beq hn
    split at h1
    · rename_i x j k st'
      obtain ⟨a1, ak, a2, a3⟩ := h1
      obtain ⟨nn, rs', hq, hl1, hl2⟩ := tag_some a1 (by omega)
      rw [hl1] at a2
      refine pp_wr a3 fun H locs lr _ _ hM hS k0 => ?_
      have he := wl_get (G := G) (I := I) (L := L) ak hq
      rw [ent_b] at he
      refine vz_bast hx hb hK hM.1 hM.2.1 hS (k - 16) 1 he rfl a2 hd fun H1 locs1 hP1 hD1 hS1 hz => ?_
      rw [vp_nar_byte] at hP1 hD1
      refine k0 H1 locs1 (hM.put ak hq (fun k' h => u2_ne h) (fun _ _ => rfl) ?_ ?_ hz) hS1
      · rw [ent_b, u2_at]; exact hP1
      · rw [ent_b, u2_at]; exact hD1
    · exact h1.elim
  · simp only [stepI] at h1
    obtain rfl : n = 1 := eq_of_beq hn
    split at h1
    · rename_i j k st'
      obtain ⟨a1, ak, a2, a3⟩ := h1
      obtain ⟨nn, rs', hq, hl1, hl2⟩ := tag_some a1 (by omega)
      rw [hl1] at a2
      refine pp_go a3 fun H locs lr _ _ hl hM hS k0 => ?_
      have he := wl_get (G := G) (I := I) (L := L) ak hq
      rw [ent_l] at he
      exact va_lald hx hb hK hM.1 (k - 16) 2 he rfl a2 hd k0
    · exact h1.elim
  · simp only [stepI] at h1
    obtain rfl : n = 1 := eq_of_beq hn
    split at h1
    · rename_i x j k st'
      obtain ⟨a1, ak, a2, a3⟩ := h1
      obtain ⟨nn, rs', hq, hl1, hl2⟩ := tag_some a1 (by omega)
      rw [hl1] at a2
      refine pp_wr a3 fun H locs lr _ _ hM hS k0 => ?_
      have he := wl_get (G := G) (I := I) (L := L) ak hq
      rw [ent_l] at he
      refine vz_last hx hb hK hM.1 hM.2.1 hS (k - 16) 2 he rfl a2 hd fun H1 locs1 hP1 hD1 hS1 hz => ?_
      refine k0 H1 locs1 (hM.put ak hq (fun _ _ => rfl) (fun k' h => uL_ne h) ?_ ?_ hz) hS1
      · rw [ent_l, uL_at]; exact hP1
      · rw [ent_l, uL_at]; exact hD1
    · exact h1.elim
  · simp only [stepI] at h1
    obtain rfl : n = 1 := eq_of_beq hn
    split at h1
    · rename_i j k st'
      obtain ⟨a1, ak, a2, a3⟩ := h1
      obtain ⟨nn, rs', hq, hl1, hl2⟩ := tag_some a1 (by omega)
      rw [hl1] at a2
      refine pp_go a3 fun H locs lr _ _ hl hM hS k0 => ?_
      have he := wl_get (G := G) (I := I) (L := L) ak hq
      rw [ent_a] at he
      refine vz_aald hx hb hK hM.1 (k - 16) 3 he rfl rfl a2 hd ?_
      rw [← hl2, va_rf_rv]
      exact k0
    · exact h1.elim
  · simp only [stepI] at h1
    obtain rfl : n = 1 := eq_of_beq hn
    split at h1
    · rename_i k st'
      obtain ⟨⟨a1, a2⟩, a3⟩ := h1
      obtain ⟨nn, rs', hq, hl1, hl2⟩ := tag_some (W := S.1) (k := k) (t := tagW S.1 k) rfl (by omega)
      refine pp_go a3 fun H locs lr _ _ hl hM hS k0 => ?_
      rw [hl1] at k0
      rcases Nat.lt_or_ge k 16 with hk | hk
      · have ht : tagW S.1 k = 100 := by
          have h2 := hq
          rw [old_tag hM hk] at h2
          have h3 := List.mem_of_getElem? h2
          simp [w16] at h3
          omega
        rw [ht] at hq
        rcases old_arr hM hk hq with ⟨rfl, e1⟩ | ⟨rfl, e1⟩
        · exact va_tlen hx hb hF.1 hS (by rw [← e1]) hd k0
        · exact va_tlen hx hb hF.2.1 hS (by rw [← e1]) hd k0
      · have he := wl_get (G := G) (I := I) (L := L) hk hq
        rcases (show tagW S.1 k = 100 ∨ tagW S.1 k = 101 ∨ tagW S.1 k = 102 ∨ tagW S.1 k = 103 by omega) with ht | ht | ht | ht
        · rw [ht, ent_i] at he; exact va_alen hx hb hK hM.1 (k - 16) 0 he rfl rfl hd k0
        · rw [ht, ent_b] at he; exact va_alen hx hb hK hM.1 (k - 16) 1 he rfl rfl hd k0
        · rw [ht, ent_l] at he; exact va_alen hx hb hK hM.1 (k - 16) 2 he rfl rfl hd k0
        · rw [ht, ent_a] at he; exact va_alen hx hb hK hM.1 (k - 16) 3 he rfl rfl hd k0
    · exact h1.elim
end Snd
