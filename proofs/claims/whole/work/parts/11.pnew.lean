section Rows
variable {p : Program} {l : Launch} {e : Env} {R : Room} {s : State} {m : MethodId} {args : Array Value} {below : List Frame} {meth : Method} {c : Code} {H : Heap} {locs : List Loc} {cells slots : Nat} {Q : State → Prop} {cc : ByteArray} {pc : Nat} {ls : Array Slot} {rest : List Value} {D : va_G} {cl : List vw_C} {tys : List (ClassId × FieldType)} {ws : va_W} {A : Nat → Prop} {H0 : Heap} {a : Nat}
/-- the kit's vk_copyt for ints, from any int array of H, telling the heap's size -/
theorem vz_copy (hexec : p.tables.exec = Jvm.exec) (hb : c.code = cc) (hml : c.maxLocals = ls.size) {own : String} {index : Nat} (hown : s.vm.findClass own = some m.cls) (hlink : (Cond.methodLink own index arraycopyName).before args s = true) (hnat : (Cond.native arraycopyName).before args s = true) (hstat : (Cond.static arraycopyName).before args s = true) (hini : (Cond.initialized "java/lang/System").before args s = true)
    (hK : va_K D cl tys s) (hP : va_P D cl ws H) (hD : va_D A ws) (hS : va_S A H0 H locs) {b0 n0 : Nat} {f : Nat → Int32} (hX : ∃ scr : Cell, H[b0]? = some scr ∧ s.isArrayOf scr .int ∧ scr.vm ≠ .unknown ∧ n0 ≤ scr.slots.size ∧ ∀ j : Nat, j < n0 → scr.slots[j]? = some (.int (f j))) (q1 t1 : Nat) {c1 : ClassId} {n1 : Nat} {g : Nat → Int32} (ha1 : ws[q1]? = some (a, .inl (c1, n1, .inl g))) (ht1 : tys[t1]? = some (c1, .int))
    {sp dp n : Int32} (h1 : ¬ sp < 0) (h2 : ¬ dp < 0) (h3 : ¬ n < 0) (h4 : sp.toNatClampNeg + n.toNatClampNeg ≤ n0) (h5 : dp.toNatClampNeg + n.toNatClampNeg ≤ n1)
    (hframes : 1 ≤ R.frames) (hlocals : (rest.map fun v => v.category).sum + (nativeFrameWords "java/lang/System" "arraycopy" 5 + 11) ≤ R.locals) (hdg : decode cc pc = .ok (.invokestatic index, 3))
    (kk : ∀ (H1 : Heap) (locs1 : List Loc), va_P D cl (ws.set q1 (a, .inl (c1, n1, .inl (va_cpy f g sp.toNatClampNeg dp.toNatClampNeg n.toNatClampNeg)))) H1 → va_D A (ws.set q1 (a, .inl (c1, n1, .inl (va_cpy f g sp.toNatClampNeg dp.toNatClampNeg n.toNatClampNeg)))) → va_S A H0 H1 locs1 → H1.size = H.size → W p l e R s m args below meth c H1 locs1 cells slots Q (F0 m (pc + 3) ls rest)) : W p l e R s m args below meth c H locs cells slots Q (F0 m pc ls (.int n :: .int dp :: .ref a :: .int sp :: .ref b0 :: rest)) := by
  have nn : ∀ z : Int32, ¬ z < 0 → z.toInt = (z.toNatClampNeg : Int) := by
    intro z hz
    have hz0 : (0 : Int) ≤ z.toInt := by
      have := Int32.not_lt.mp hz
      simpa using Int32.le_iff_toInt_le.mp this
    show z.toInt = ((z.toInt.toNat : Nat) : Int)
    omega
  intro T hT X
  obtain ⟨scr, hc0, hs2, hs3, hs4, hs5⟩ := hX
  have hc1 : H[a]? = some (vp_cell c1 (n1, .inl g)) := hP q1 _ ha1
  obtain ⟨hs6, k0, hk0, cm0, hkk0⟩ := hs2
  obtain ⟨-, k1, hk1, cm1, hkk1⟩ := (hK.2 t1 _ ht1).1 n1 (fun j => .int (g j))
  obtain ⟨vm', X', step⟩ := X.arraycopy hexec hown hlink hnat hstat hini (src := b0) (dst := a) (cs := scr) (cd := vp_cell c1 (n1, .inl g)) (srcPos := sp) (destPos := dp) (n := n) (by rw [hT]; exact hc0) (by rw [hT]; exact hc1)
    hs6 (fun _ h => by cases h) hs3 (fun h => by cases h) hk0 hk1 hkk0 hkk1 (by simp [refKind]) h1 h2 h3
    (by rw [nn sp h1, nn n h3]; omega)
    (by rw [nn dp h2, nn n h3]; show ¬ _ > ((arrV c1 n1 (fun j => .int (g j))).slots.size : Int); rw [arrV_size]; omega)
    (fun vm₁ _ i hi => by
      have e : scr.slots.getD (sp.toNatClampNeg + i) .null = .int (f (sp.toNatClampNeg + i)) := by
        rw [Array.getD_eq_getD_getElem?, hs5 _ (by omega)]
        rfl
      refine ⟨?_, ?_⟩
      · rw [e]
        rfl
      · rw [e]
        exact trivial)
    (g := F0 m pc ls (.int n :: .int dp :: .ref a :: .int sp :: .ref b0 :: rest)) rfl (by rw [hml]) (rest := rest) rfl (by rw [hb]; exact hdg) hframes (by show 2 * 0 + _ + _ ≤ _; omega)
  have e1 : copied scr (vp_cell c1 (n1, .inl g)) sp dp n = vp_cell c1 (n1, .inl (va_cpy f g sp.toNatClampNeg dp.toNatClampNeg n.toNatClampNeg)) := va_copiedX (fun z => .int z) scr c1 f g hs5 h4
  rw [e1] at X' step
  have hl : a < H.size := (Array.getElem?_eq_some_iff.mp hc1).1
  have hheap : ((T.setVm vm').setCell a (vp_cell c1 (n1, .inl (va_cpy f g sp.toNatClampNeg dp.toNatClampNeg n.toNatClampNeg)))).heap = H.setIfInBounds a (vp_cell c1 (n1, .inl (va_cpy f g sp.toNatClampNeg dp.toNatClampNeg n.toNatClampNeg))) := by rw [← hT]; rfl
  have oq : ∀ q : Nat, q ≠ a → (H.setIfInBounds a (vp_cell c1 (n1, .inl (va_cpy f g sp.toNatClampNeg dp.toNatClampNeg n.toNatClampNeg))))[q]? = H[q]? := fun q hq => by simp [Array.getElem?_setIfInBounds, Ne.symm hq]
  obtain ⟨t, a1, b1⟩ := kk _ _ (hP.set hD ha1 (show (H.setIfInBounds a _)[a]? = some _ by simp [Array.getElem?_setIfInBounds, hl]) oq) (hD.set ha1) ⟨by simp; exact hS.1, fun q g1 g2 => by
      rw [oq q (fun e => g2 (by rw [e]; exact hD.2 q1 _ ha1))]
      exact hS.2.1 q g1 g2, fun q hq => by
      rcases List.mem_append.mp hq with h | h
      · exact hS.2.2 q h
      · obtain ⟨z, -, hz⟩ := List.mem_map.mp h
        rw [← hz]
        exact hD.2 q1 _ ha1⟩ (by simp) _ hheap X'
  exact ⟨t, step t a1, b1⟩
end Rows
section Snd
variable {p : Program} {l : Launch} {e : Env} {R : Room} {s : State} {m : MethodId} {args : Array Value} {below : List Frame} {meth : Method} {c : Code} {Q : State → Prop} {G : GX} {B0 y uc us rc rs : Nat}
theorem cpI_ne {I : VI} {a sp b dp n k' : Nat} (h : k' ≠ b) : cpI I a sp b dp n k' = I k' := by funext j'; simp [cpI, h]
theorem cpI_at {I : VI} {a sp b dp n : Nat} : cpI I a sp b dp n b = va_cpy (I a) (I b) sp dp n := by funext j'; simp [cpI, va_cpy]
theorem len_lt {W : List (Nat × Nat × List Nat)} {k : Nat} {q : Nat × Nat × List Nat} (h : W[k]? = some q) : k < W.length := (List.getElem?_eq_some_iff.mp h).1
theorem fields_setR {g : Nat → Nat} {I : VI} {k ci n f a : Nat} {rs : List Nat} (h : f < n) (hr : rs.length = n) (ha : a ≠ 0) (ht : cTy ci f ≠ .int) : (fields g I k ci n rs).set f (.ref (g a)) = fields g I k ci n (rs.set f a) := by
  apply List.ext_getElem?
  intro i
  by_cases hi : i = f
  · subst hi
    rw [List.getElem?_set_self (by rw [fields_len]; exact h), fields_at h, if_neg ht, List.getD_eq_getElem?_getD, List.getElem?_set_self (by omega)]
    simp [rv, ha, conc]
  · rw [List.getElem?_set_ne (Ne.symm hi)]
    by_cases hn : i < n
    · rw [fields_at hn, fields_at hn, List.getD_eq_getElem?_getD, List.getD_eq_getElem?_getD, List.getElem?_set_ne (Ne.symm hi)]
    · rw [List.getElem?_eq_none (by rw [fields_len]; omega), List.getElem?_eq_none (by rw [fields_len]; omega)]
theorem wl_setR {I : VI} {L : VL} {W : List (Nat × Nat × List Nat)} {k : Nat} {q q' : Nat × Nat × List Nat} (hk : 16 ≤ k) (hq : W[k]? = some q) : wl G I L (W.set k q') = (wl G I L W).set (k - 16) (G.1 k, ent G I L k q') := by
  apply List.ext_getElem?
  intro i
  have hlen := len_lt hq
  by_cases hi : i = k - 16
  · subst hi
    rw [List.getElem?_set_self (by rw [wl_len]; omega), wl_at, show 16 + (k - 16) = k by omega, List.getElem?_set_self hlen]
    rfl
  · rw [List.getElem?_set_ne (Ne.symm hi), wl_at, wl_at, List.getElem?_set_ne (by omega)]
theorem cTy_ref {ci f : Nat} (h : ci < 12) (hf : f < (cC ci).2.2) (ht : cTy ci f ≠ .int) : ∀ a, narrow (cTy ci f) (.ref a) = .ref a ∧ fits (cTy ci f) (.ref a) = true := by
  have key : (List.range 12).all (fun ci => (List.range (cC ci).2.2).all (fun f => decide (cTy ci f = .int) || (match cTy ci f with | .object _ => true | .array _ => true | _ => false))) = true := by decide +kernel
  have h1 := List.all_eq_true.mp (List.all_eq_true.mp key ci (List.mem_range.mpr h)) f (List.mem_range.mpr hf)
  rw [Bool.or_eq_true] at h1
  rcases h1 with h1 | h1
  · exact absurd (of_decide_eq_true h1) ht
  · intro a
    split at h1
    · rename_i q e1; rw [e1]; exact ⟨rfl, rfl⟩
    · rename_i q e1; rw [e1]; exact ⟨rfl, rfl⟩
    · cases h1
theorem cT_own {ci f : Nat} (h : ci < 12) (hf : f < (cC ci).2.2) : ((cC ci).2.1 f).1 = oR ci := by
  have key : (List.range 12).all (fun ci => (List.range (cC ci).2.2).all (fun f => decide (((cC ci).2.1 f).1 = oR ci))) = true := by decide +kernel
  exact of_decide_eq_true (List.all_eq_true.mp (List.all_eq_true.mp key ci (List.mem_range.mpr h)) f (List.mem_range.mpr hf))
set_option maxHeartbeats 4000000 in
theorem snd_putfield {C : CC} {r : Res} (ctx : At0 p s m args c G B0 y) (hin : (mY y).name = "<init>" → meth.name = "<init>") {pc n j : Nat} {ls st : List Value} {I : VI} {L : VL} {S : SW} (hd : decode (mB y) pc = .ok (.putfield j, n)) (hn : ilen (.putfield j) n = true)
    (h1 : stepI C y pc (pc + n) (.putfield j) ls st I L S (PP p l e R s m args below meth c Q G B0 y uc us rc rs) r) : PP p l e R s m args below meth c Q G B0 y uc us rc rs pc ls st I L S := by
  obtain ⟨hx, hb, hml, hown, hts, hK, hB, hF, hg⟩ := ctx
  obtain rfl : n = 3 := eq_of_beq hn
  simp only [stepI] at h1
  split at h1
  · rename_i o' j' ci f ty nest pos x k st' hfk
    obtain ⟨htag, hty0, hk16, h2⟩ := h1
    obtain ⟨f1, f2, f3, f4⟩ := fk_facts hfk
    rw [if_pos hty0] at f4
    obtain ⟨nn, rs', hq, hl1, hl2⟩ := tag_some htag (by omega)
    refine pp_wr h2 fun H locs lr _ _ hM hS k0 => ?_
    obtain ⟨hcl, hlay, hty, hnm⟩ := cl_ok ci f1
    have hnn : nn = (cC ci).2.2 := (hM.2.2.2.2.2.2 k _ hq f1).1
    have he := wl_get (G := G) (I := I) (L := L) hk16 hq
    rw [ent_o f1] at he
    refine vz_put hx hb hts hlay (cTy ci) hty hnm hown hK hM.1 hM.2.1 hS (k - 16) he hcl f f2 ?_ f4.2 (hty f f2) (v := .int x) (by rw [f4.1]; rfl) (by rw [f4.1]; rfl) (by rw [fields_len]; omega) hd fun H1 locs1 hP1 hD1 hS1 hz => ?_
    · by_cases hne : nest = 0
      · rw [if_pos hne] at f3; exact Or.inl (hts _ f3)
      · rw [if_neg hne] at f3; exact Or.inr ⟨_, va_Nw.use rfl (hF.2.2.2.1 _ f3 rfl)⟩
    · rw [fields_set (by omega) f4.1] at hP1 hD1
      refine k0 H1 locs1 (hM.put hk16 hq (fun k' h => u2_ne h) (fun _ _ => rfl) ?_ ?_ hz) hS1
      · rw [ent_o f1]; exact hP1
      · rw [ent_o f1]; exact hD1
  · rename_i o' j' ci f ty nest pos a k st' hfk
    obtain ⟨htag, hty0, hne0, hk16, ha0, hal, hini, hoc, h2⟩ := h1
    obtain ⟨f1, f2, f3, f4⟩ := fk_facts hfk
    rw [if_neg hty0] at f4
    rw [if_pos hne0] at f3
    obtain ⟨nn, rs', hq, hl1, hl2⟩ := tag_some htag (by omega)
    intro b1 b2 b3
    refine ⟨(h2 b1 b2 b3).1, fun H locs lr hM hlv hS => ?_⟩
    obtain ⟨hcl, hlay, hty, hnm⟩ := cl_ok ci f1
    have hnn := hM.2.2.2.2.2.2 k _ hq f1
    have he := wl_get (G := G) (I := I) (L := L) hk16 hq
    rw [ent_o f1] at he
    obtain ⟨g1, g2⟩ := cTy_ref f1 f2 f4.1 (G.1 a)
    refine vz_putF hx hb hts hlay (cTy ci) hty hnm hown hK hM.1 hM.2.1 hS (k - 16) he hcl f f2 (hts _ f3) f4.2 (hin hini) (by rw [cT_own f1 f2, hoc]) (hty f f2) (v := .ref (G.1 a)) g1 g2 (by rw [fields_len]; have := hnn.1; dsimp only at this; omega) hd fun H1 locs1 hP1 hD1 hS1 hz => ?_
    have hfn : f < nn := by have := hnn.1; dsimp only at this; omega
    have e1 : (S.1.getD k (999, 0, [])) = (ci, nn, rs') := by rw [List.getD_eq_getElem?_getD, hq]; rfl
    have e2 : (setR S k f a).1 = S.1.set k (ci, nn, rs'.set f a) := by unfold setR; rw [e1]
    have hM1 : Mem G B0 I L (setR S k f a) H1 := by
      obtain ⟨m1, m2, m3, m4, m5, m6, m7⟩ := hM
      refine ⟨?_, ?_, fun z => ?_, m4, m5, ?_, ?_⟩
      · rw [e2, wl_setR hk16 hq, ent_o f1, ← fields_setR hfn hnn.2 ha0 f4.1]; exact hP1
      · rw [e2, wl_setR hk16 hq, ent_o f1, ← fields_setR hfn hnn.2 ha0 f4.1]; exact hD1
      · rw [hz, m3 z, e2, List.length_set]
      · rw [e2, List.take_set_of_le (by omega)]; exact m6
      · rw [e2]
        intro k' q' hq' hlt
        by_cases hkk : k' = k
        · subst hkk
          rw [List.getElem?_set_self (len_lt hq)] at hq'
          cases hq'
          exact ⟨hnn.1, by simp; exact hnn.2⟩
        · rw [List.getElem?_set_ne (Ne.symm hkk)] at hq'
          exact m7 k' q' hq' hlt
    exact (h2 b1 b2 b3).2 H1 locs1 lr hM1 hlv hS1
  · exact h1.elim
theorem w_noret : Cond.returned ∉ wsG := by
  intro h
  have := (List.mem_filter.mp h).2
  revert this
  decide
set_option maxHeartbeats 4000000 in
theorem snd_ldc {C : CC} {r : Res} (ctx : At0 p s m args c G B0 y) {pc n : Nat} {i : Instr} {ls st : List Value} {I : VI} {L : VL} {S : SW} (hd : decode (mB y) pc = .ok (i, n)) (hn : ilen i n = true)
    (h1 : stepI C y pc (pc + n) i ls st I L S (PP p l e R s m args below meth c Q G B0 y uc us rc rs) r) (hi : (∃ j, i = .ldc j) ∨ (∃ j, i = .ldc_w j) ∨ (∃ j, i = .ldc2_w j) ∨ ∃ j, i = .getstatic j) : PP p l e R s m args below meth c Q G B0 y uc us rc rs pc ls st I L S := by
  obtain ⟨hx, hb, hml, hown, hts, hK, hB, hF, hg⟩ := ctx
  rcases hi with ⟨j, rfl⟩ | ⟨j, rfl⟩ | ⟨j, rfl⟩ | ⟨j, rfl⟩
  · simp only [stepI] at h1
    obtain rfl : n = 2 := eq_of_beq hn
    split at h1
    · rename_i v hq
      rcases kc_facts hq with hw | ⟨hw, k, hk⟩
      · exact pp_go h1 fun H locs lr _ _ _ _ _ k => lv_ldc hx hb hown (hts _ hw) hd k
      · cases hk
    · rename_i k hq
      have hw : (mO y, j, Value.ref k) ∈ kcTab.drop 10 := by
        rcases kc_facts hq with hw | ⟨hw, -, -⟩
        · exact absurd hw w_noret
        · exact hw
      have hw2 : (mO y, j, Value.ref k) ∈ ([(9, 58, .ref 3), (1, 68, .ref 4), (6, 61, .ref 5)] : List (Nat × Nat × Value)) := hw
      obtain ⟨-, -, -, s4, s5, s6⟩ := hF.2.2.2.2.1
      refine pp_go h1 fun H locs lr _ _ _ _ _ k0 => ?_
      simp only [List.mem_cons, Prod.mk.injEq, List.not_mem_nil, or_false] at hw2
      rcases hw2 with ⟨e1, e2, e3⟩ | ⟨e1, e2, e3⟩ | ⟨e1, e2, e3⟩ <;> cases e3 <;> subst e2 <;> rw [e1] at hown
      · exact va_ldcS hx hb hown s4 hd k0
      · exact va_ldcS hx hb hown s5 hd k0
      · exact va_ldcS hx hb hown s6 hd k0
    · exact h1.elim
  · simp only [stepI] at h1
    obtain rfl : n = 3 := eq_of_beq hn
    split at h1
    · rename_i v hq
      rcases kc_facts hq with hw | ⟨hw, k, hk⟩
      · exact pp_go h1 fun H locs lr _ _ _ _ _ k => lv_ldcw hx hb hown (hts _ hw) hd k
      · cases hk
    · exact h1.elim
  · simp only [stepI] at h1
    obtain rfl : n = 3 := eq_of_beq hn
    split at h1
    · rename_i v hq
      rcases kc_facts hq with hw | ⟨hw, k, hk⟩
      · exact pp_go h1 fun H locs lr _ _ _ _ _ k => lv_ldc2 hx hb hown (hts _ hw) hd k
      · cases hk
    · exact h1.elim
  · simp only [stepI] at h1
    obtain rfl : n = 3 := eq_of_beq hn
    obtain ⟨a1, rfl, a3⟩ := h1
    refine pp_go a3 fun H locs lr _ _ _ _ hS k => ?_
    have hown' : s.vm.findClass RX1 = some m.cls := by rw [a1] at hown; exact hown
    exact va_gets hx hb hF.2.2.1 hS hown' (hts _ w_us) (fun _ z => z) hd k
end Snd
