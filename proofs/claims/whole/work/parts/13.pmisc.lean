section Snd
variable {p : Program} {l : Launch} {e : Env} {R : Room} {s : State} {m : MethodId} {args : Array Value} {below : List Frame} {meth : Method} {c : Code} {Q : State → Prop} {G : GX} {B0 y uc us rc rs : Nat}
theorem swR_off {x : Int32} {d : Int} {K : Int → Prop} : ∀ {ps : List (Int × Int)}, swR ps x K d → K (Op.lookupswitch.offset ps d x.toInt)
  | [], h => h
  | (a, o) :: r, h => by
    unfold swR at h
    by_cases e1 : x.toInt = a
    · rw [if_pos e1] at h
      have : Op.lookupswitch.offset ((a, o) :: r) d x.toInt = o := by simp [Op.lookupswitch.offset, e1]
      rw [this]; exact h
    · rw [if_neg e1] at h
      have h2 := swR_off h
      have : Op.lookupswitch.offset ((a, o) :: r) d x.toInt = Op.lookupswitch.offset r d x.toInt := by simp [Op.lookupswitch.offset, e1, Ne.symm e1]
      rw [this]; exact h2
theorem snd_switch {C : CC} {r : Res} (ctx : At0 p s m args c G B0 y) {pc n : Nat} {i : Instr} {ls st : List Value} {I : VI} {L : VL} {S : SW} (hd : decode (mB y) pc = .ok (i, n))
    (h1 : stepI C y pc (pc + n) i ls st I L S (PP p l e R s m args below meth c Q G B0 y uc us rc rs) r) (hi : (∃ d lo hi offs, i = .tableswitch d lo hi offs) ∨ (∃ d ps, i = .lookupswitch d ps)) : PP p l e R s m args below meth c Q G B0 y uc us rc rs pc ls st I L S := by
  obtain ⟨hx, hb, hml, hown, hts, hK, hB, hF, hg⟩ := ctx
  rcases hi with ⟨d, lo, hi, offs, rfl⟩ | ⟨d, ps, rfl⟩
  · simp only [stepI] at h1
    split at h1
    · rename_i x st'
      by_cases hq : x.toInt < lo ∨ hi < x.toInt
      · rw [if_pos hq] at h1
        exact pp_go h1.2 fun H locs lr _ _ _ _ _ k => lv_tableOut hx hb hd hq (tgt_eq h1.1) k
      · rw [if_neg hq] at h1
        split at h1
        · rename_i o ho
          exact pp_go h1.2 fun H locs lr _ _ _ _ _ k => lv_tableIn hx hb hd (fun z => hq (Or.inl z)) (fun z => hq (Or.inr z)) ho (tgt_eq h1.1) k
        · exact h1.elim
    · exact h1.elim
  · simp only [stepI] at h1
    split at h1
    · rename_i x st'
      have h2 := swR_off h1.2
      exact pp_go h2.2 fun H locs lr _ _ _ _ _ k => lv_lookup hx hb hd h1.1 rfl (tgt_eq h2.1) k
    · exact h1.elim
set_option maxHeartbeats 4000000 in
theorem snd_copy {C : CC} {r : Res} (ctx : At0 p s m args c G B0 y) (hR : Rm R uc us rc rs) {pc n j : Nat} {ls st : List Value} {I : VI} {L : VL} {S : SW} (hd : decode (mB y) pc = .ok (.invokestatic j, n)) (hn : ilen (.invokestatic j) n = true)
    (h1 : stepI C y pc (pc + n) (.invokestatic j) ls st I L S (PP p l e R s m args below meth c Q G B0 y uc us rc rs) r) (hsp : sp (mO y) j = 2) : PP p l e R s m args below meth c Q G B0 y uc us rc rs pc ls st I L S := by
  obtain ⟨hx, hb, hml, hown, hts, hK, hB, hF, hg⟩ := ctx
  obtain rfl : n = 3 := eq_of_beq hn
  simp only [stepI, if_pos hsp] at h1
  split at h1
  · rename_i nn dp b s0 a st'
    obtain ⟨⟨ta, ha⟩, ⟨tb, hb16⟩, hcat, ⟨z1, z2, z3⟩, l1, l2, h2⟩ := h1
    obtain ⟨na, rsa, hqa, ela, -⟩ := tag_some ta (by omega)
    obtain ⟨nb, rsb, hqb, elb, -⟩ := tag_some tb (by omega)
    rw [ela] at l1
    rw [elb] at l2
    intro b1 b2 b3
    refine ⟨(h2 b1 b2 b3).1, fun H locs lr hM hlv hS => ?_⟩
    have he := wl_get (G := G) (I := I) (L := L) hb16 hqb
    rw [ent_i] at he
    have hlink : (Cond.methodLink (oR (mO y)) j arraycopyName).before args s = true := hts _ (sp_link hsp (by omega))
    have hX : ∃ cell : Cell, H[G.1 a]? = some cell ∧ s.isArrayOf cell .int ∧ cell.vm ≠ .unknown ∧ na ≤ cell.slots.size ∧ ∀ j : Nat, j < na → cell.slots[j]? = some (.int (I a j)) := by
      rcases ha with ha | rfl
      · have he2 := wl_get (G := G) (I := I) (L := L) ha hqa
        rw [ent_i] at he2
        have h1 : H[G.1 a]? = some (vp_cell _ _) := hM.1 _ _ he2
        refine ⟨_, h1, (hK.2 0 _ rfl).1 na (fun j => .int (I a j)), (fun q => by cases q), ?_, fun j hj => ?_⟩
        · show na ≤ (arrV _ _ _).slots.size
          rw [arrV_size]
          exact Nat.le_refl na
        · show (arrV _ _ _).slots[j]? = _
          rw [arrV_read _ _ hj]
      · obtain ⟨cell, c1, c2, c3, c4, c5, c6, c7⟩ := hF.2.1.kept hS.2.1
        rcases old_arr hM (by omega) hqa with ⟨e0, -⟩ | ⟨-, e1⟩
        · cases e0
        · subst e1
          exact ⟨cell, c1, c2, c3, c4, fun j hj => by rw [c6 j hj, hM.2.2.2.2.1]⟩
    refine vz_copy hx hb (by rw [hml]; exact hlv.1.symm) hown hlink (hts _ w_acn) (hts _ w_acs) (hts _ w_sys) hK hM.1 hM.2.1 hS hX (b - 16) 0 he rfl z1 z2 z3 l1 l2 (by have := hR.1; omega) ?_ hd fun H1 locs1 hP1 hD1 hS1 hz => ?_
    · rw [catS_conc]
      have h9 : nativeFrameWords "java/lang/System" "arraycopy" 5 ≤ 100 := by decide
      have := hR.2.1
      omega
    · refine (h2 b1 b2 b3).2 H1 locs1 lr (hM.put hb16 hqb (fun k' h => cpI_ne h) (fun _ _ => rfl) ?_ ?_ hz) hlv hS1
      · rw [ent_i, cpI_at]; exact hP1
      · rw [ent_i, cpI_at]; exact hD1
  · exact h1.elim
theorem snd_objinit {C : CC} {r : Res} (ctx : At0 p s m args c G B0 y) (hR : Rm R uc us rc rs) {pc n j : Nat} {ls st : List Value} {I : VI} {L : VL} {S : SW} (hd : decode (mB y) pc = .ok (.invokespecial j, n)) (hn : ilen (.invokespecial j) n = true)
    (h1 : stepI C y pc (pc + n) (.invokespecial j) ls st I L S (PP p l e R s m args below meth c Q G B0 y uc us rc rs) r) (hsp : sp (mO y) j = 1) : PP p l e R s m args below meth c Q G B0 y uc us rc rs pc ls st I L S := by
  obtain ⟨hx, hb, hml, hown, hts, hK, hB, hF, hg⟩ := ctx
  obtain rfl : n = 3 := eq_of_beq hn
  simp only [stepI, if_pos hsp] at h1
  split at h1
  · obtain ⟨hcat, htag, h2⟩ := h1
    have hlink : (Cond.methodLink (oR (mO y)) j objectInit).before args s = true := hts _ (sp_link hsp (by omega))
    refine pp_go h2 fun H locs lr _ _ hl _ _ k => ?_
    refine W.objInit hx hb hown hlink (hts _ w_oi) (hts _ w_oc) rfl (by rw [hml]; exact hl.1) rfl hd (by have := hR.1; omega) ?_ k
    rw [catS_conc]
    show 2 * 0 + _ + 12 ≤ _
    have := hR.2.1
    omega
  · exact h1.elim
end Snd
