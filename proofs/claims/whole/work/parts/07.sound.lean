section Snd
variable {p : Program} {l : Launch} {e : Env} {R : Room} {s : State} {m : MethodId} {args : Array Value} {below : List Frame} {meth : Method} {c : Code} {Q : State → Prop} {G : GX} {B0 y uc us rc rs : Nat}
/-- what holds at a method's entry and stays -/
def At0 (p : Program) (s : State) (m : MethodId) (args : Array Value) (c : Code) (G : GX) (B0 y : Nat) : Prop :=
  p.tables.exec = Jvm.exec ∧ c.code = mB y ∧ c.maxLocals = mL y ∧ s.vm.findClass (oR (mO y)) = some m.cls ∧ (∀ w ∈ wsG, w.before args s = true) ∧ va_K G.2.1 vwCl (gTys G) s ∧ B0 ≤ s.heap.size ∧ Fx G B0 s s.heap ∧ (∀ k, 16 ≤ k → G.1 k = B0 + (k - 16))
def PP (p : Program) (l : Launch) (e : Env) (R : Room) (s : State) (m : MethodId) (args : Array Value) (below : List Frame) (meth : Method) (c : Code) (Q : State → Prop) (G : GX) (B0 y uc us rc rs : Nat) : KK := fun pc ls st I L S =>
  uc ≤ S.2.2.1 → us ≤ S.2.2.2 → ls.length = mL y → (S.2.2.1 ≤ rc ∧ S.2.2.2 ≤ rs) ∧ ∀ (H : Heap) (locs : List Loc) (lr : Array Slot), Mem G B0 I L S H → lv_has lr (mL y) (clm G.1 ls) → va_S (AB B0) s.heap H locs →
    W p l e R s m args below meth c H locs (S.2.2.1 - uc) (S.2.2.2 - us) Q (F0 m pc lr (st.map (conc G.1)))
/-- a step that leaves memory and locals -/
theorem pp_go {pc pc' : Nat} {ls st st' : List Value} {I : VI} {L : VL} {S : SW} (h : PP p l e R s m args below meth c Q G B0 y uc us rc rs pc' ls st' I L S)
    (row : ∀ (H : Heap) (locs : List Loc) (lr : Array Slot) (cells slots : Nat), lv_has lr (mL y) (clm G.1 ls) → Mem G B0 I L S H → va_S (AB B0) s.heap H locs → W p l e R s m args below meth c H locs cells slots Q (F0 m pc' lr (st'.map (conc G.1))) → W p l e R s m args below meth c H locs cells slots Q (F0 m pc lr (st.map (conc G.1)))) :
    PP p l e R s m args below meth c Q G B0 y uc us rc rs pc ls st I L S := fun a b hl => ⟨(h a b hl).1, fun H locs lr hM hlv hS => row H locs lr _ _ hlv hM hS ((h a b hl).2 H locs lr hM hlv hS)⟩
/-- a step that writes a local -/
theorem pp_st {pc pc' : Nat} {ls ls' st st' : List Value} {I : VI} {L : VL} {S : SW} (h : PP p l e R s m args below meth c Q G B0 y uc us rc rs pc' ls' st' I L S) (hlen : ls'.length = ls.length)
    (row : ls.length = mL y → ∀ (H : Heap) (locs : List Loc) (lr : Array Slot) (cells slots : Nat), lv_has lr (mL y) (clm G.1 ls) → (∀ lr' : Array Slot, lv_has lr' (mL y) (clm G.1 ls') → W p l e R s m args below meth c H locs cells slots Q (F0 m pc' lr' (st'.map (conc G.1)))) → W p l e R s m args below meth c H locs cells slots Q (F0 m pc lr (st.map (conc G.1)))) :
    PP p l e R s m args below meth c Q G B0 y uc us rc rs pc ls st I L S := fun a b hl => ⟨(h a b (hlen.trans hl)).1, fun H locs lr hM hlv hS => row hl H locs lr _ _ hlv (fun lr' h' => (h a b (hlen.trans hl)).2 H locs lr' hM h' hS)⟩
theorem tgt_eq {pc : Nat} {o : Int} (h : 0 ≤ (pc : Int) + o) : (pc : Int) + o = (tgt pc o : Int) := by unfold tgt; omega
theorem Int32_nlt {a b : Int32} : ¬ a < b ↔ b ≤ a := Int32.not_lt
def simpleI : Instr → Bool
  | .iconst _ | .bipush _ | .sipush _ | .lconst _ | .iload_n _ | .iload _ | .aload_n _ | .aload _ | .lload_n _ | .lload _ | .istore_n _ | .istore _ | .astore_n _ | .astore _ | .lstore_n _ | .lstore _ | .iinc _ _ | .iadd | .isub | .imul | .idiv | .irem | .ineg | .iand | .ior | .ixor | .ishl | .ishr | .iushr | .ladd | .lmul | .ldiv | .lrem | .lshl | .lcmp | .i2l | .i2b | .dup | .pop | .dup2 | .goto _ | .ifCond _ _ | .if_icmp _ _ => true
  | _ => false
set_option maxHeartbeats 4000000 in
/-- the instructions on stack and locals -/
theorem snd_simple {C : CC} {r : Res} (ctx : At0 p s m args c G B0 y) {pc n : Nat} {i : Instr} {ls st : List Value} {I : VI} {L : VL} {S : SW} (hd : decode (mB y) pc = .ok (i, n)) (hn : ilen i n = true)
    (h1 : stepI C y pc (pc + n) i ls st I L S (PP p l e R s m args below meth c Q G B0 y uc us rc rs) r) (hi : simpleI i = true) : PP p l e R s m args below meth c Q G B0 y uc us rc rs pc ls st I L S := by
  obtain ⟨hx, hb, hml, hown, hts, hK, hB, hF, hg⟩ := ctx
  cases i <;> first | (cases hi; done) | skip
  case iconst v =>
    simp only [stepI] at h1
    obtain rfl : n = 1 := eq_of_beq hn
    exact pp_go h1 fun H locs lr _ _ _ _ _ k => lv_iconst hx hb hd rfl k
  case bipush v =>
    simp only [stepI] at h1
    obtain rfl : n = 2 := eq_of_beq hn
    exact pp_go h1 fun H locs lr _ _ _ _ _ k => lv_bipush hx hb hd rfl k
  case sipush v =>
    simp only [stepI] at h1
    obtain rfl : n = 3 := eq_of_beq hn
    exact pp_go h1 fun H locs lr _ _ _ _ _ k => lv_sipush hx hb hd rfl k
  case lconst v =>
    simp only [stepI] at h1
    obtain rfl : n = 1 := eq_of_beq hn
    exact pp_go h1 fun H locs lr _ _ _ _ _ k => lv_lconst hx hb hd rfl k
  case iload_n k =>
    simp only [stepI] at h1
    obtain rfl : n = 1 := eq_of_beq hn
    split at h1
    · rename_i x hq
      exact pp_go h1 fun H locs lr _ _ hl _ _ k => lv_iload_n hx hb hd rfl (clm_int hl hq) k
    · exact h1.elim
  case iload k =>
    simp only [stepI] at h1
    obtain rfl : n = 2 := eq_of_beq hn
    split at h1
    · rename_i x hq
      exact pp_go h1 fun H locs lr _ _ hl _ _ k => lv_iload hx hb hd (clm_int hl hq) k
    · exact h1.elim
  case aload_n k =>
    simp only [stepI] at h1
    obtain rfl : n = 1 := eq_of_beq hn
    split at h1
    · rename_i x hq
      exact pp_go h1 fun H locs lr _ _ hl _ _ k => lv_aload_n hx hb hd rfl (clm_ref hl hq) k
    · exact h1.elim
  case aload k =>
    simp only [stepI] at h1
    obtain rfl : n = 2 := eq_of_beq hn
    split at h1
    · rename_i x hq
      exact pp_go h1 fun H locs lr _ _ hl _ _ k => lv_aload hx hb hd (clm_ref hl hq) k
    · exact h1.elim
  case lload_n k =>
    simp only [stepI] at h1
    obtain rfl : n = 1 := eq_of_beq hn
    split at h1
    · rename_i x hq hq2
      exact pp_go h1 fun H locs lr _ _ hl _ _ k => lv_lload_n hx hb hd rfl (clm_long hl hq hq2) k
    · exact h1.elim
  case lload k =>
    simp only [stepI] at h1
    obtain rfl : n = 2 := eq_of_beq hn
    split at h1
    · rename_i x hq hq2
      exact pp_go h1 fun H locs lr _ _ hl _ _ k => lv_lload hx hb hd (clm_long hl hq hq2) k
    · exact h1.elim
  case istore_n k =>
    simp only [stepI] at h1
    obtain rfl : n = 1 := eq_of_beq hn
    split at h1
    · exact pp_st h1.2 (by simp) fun hll H locs lr _ _ hl kk => lv_istore_n hx hb hd rfl hl (by rw [← hll]; exact h1.1) rfl (fun lr' h' => kk lr' (lv_mono h' (clm_set h1.1 (fun _ q => by cases q) rfl)))
    · exact h1.elim
  case istore k =>
    simp only [stepI] at h1
    obtain rfl : n = 2 := eq_of_beq hn
    split at h1
    · exact pp_st h1.2 (by simp) fun hll H locs lr _ _ hl kk => lv_istore hx hb hd hl (by rw [← hll]; exact h1.1) rfl (fun lr' h' => kk lr' (lv_mono h' (clm_set h1.1 (fun _ q => by cases q) rfl)))
    · exact h1.elim
  case astore_n k =>
    simp only [stepI] at h1
    obtain rfl : n = 1 := eq_of_beq hn
    split at h1
    · exact pp_st h1.2 (by simp) fun hll H locs lr _ _ hl kk => lv_astore_n hx hb hd rfl hl (by rw [← hll]; exact h1.1) rfl (fun lr' h' => kk lr' (lv_mono h' (clm_set h1.1 (fun _ q => by cases q) rfl)))
    · exact h1.elim
  case astore k =>
    simp only [stepI] at h1
    obtain rfl : n = 2 := eq_of_beq hn
    split at h1
    · exact pp_st h1.2 (by simp) fun hll H locs lr _ _ hl kk => lv_astore hx hb hd hl (by rw [← hll]; exact h1.1) rfl (fun lr' h' => kk lr' (lv_mono h' (clm_set h1.1 (fun _ q => by cases q) rfl)))
    · exact h1.elim
  case lstore_n k =>
    simp only [stepI] at h1
    obtain rfl : n = 1 := eq_of_beq hn
    split at h1
    · exact pp_st h1.2 (by simp) fun hll H locs lr _ _ hl kk => lv_lstore_n hx hb hd rfl hl (by rw [← hll]; exact h1.1) rfl (fun lr' h' => kk lr' (lv_mono h' (clm_setL h1.1)))
    · exact h1.elim
  case lstore k =>
    simp only [stepI] at h1
    obtain rfl : n = 2 := eq_of_beq hn
    split at h1
    · exact pp_st h1.2 (by simp) fun hll H locs lr _ _ hl kk => lv_lstore hx hb hd hl (by rw [← hll]; exact h1.1) rfl (fun lr' h' => kk lr' (lv_mono h' (clm_setL h1.1)))
    · exact h1.elim
  case iinc k v =>
    simp only [stepI] at h1
    obtain rfl : n = 3 := eq_of_beq hn
    split at h1
    · rename_i x hq
      have hk : k < ls.length := (List.getElem?_eq_some_iff.mp hq).1
      refine pp_st h1 (by simp) fun hll H locs lr _ _ hl kk => ?_
      obtain ⟨j, hj⟩ := List.getElem?_of_mem (clm_mem.mpr ⟨k, (by unfold clm1; rw [hq] : clm1 G.1 ls k = some (k, .int x))⟩)
      exact lv_iinc hx hb hd hl hj rfl (by rw [← hll]; exact hk) rfl (fun lr' h' => kk lr' (lv_mono h' (clm_set hk (fun _ q => by cases q) rfl)))
    · exact h1.elim
  case iadd => simp only [stepI] at h1; obtain rfl : n = 1 := eq_of_beq hn; split at h1 <;> first | exact h1.elim | exact pp_go h1 fun H locs lr _ _ _ _ _ k => lv_iadd hx hb hd k
  case isub => simp only [stepI] at h1; obtain rfl : n = 1 := eq_of_beq hn; split at h1 <;> first | exact h1.elim | exact pp_go h1 fun H locs lr _ _ _ _ _ k => lv_isub hx hb hd k
  case imul => simp only [stepI] at h1; obtain rfl : n = 1 := eq_of_beq hn; split at h1 <;> first | exact h1.elim | exact pp_go h1 fun H locs lr _ _ _ _ _ k => lv_imul hx hb hd k
  case idiv => simp only [stepI] at h1; obtain rfl : n = 1 := eq_of_beq hn; split at h1 <;> first | exact h1.elim | exact pp_go h1.2 fun H locs lr _ _ _ _ _ k => lv_idiv hx hb hd h1.1 k
  case irem => simp only [stepI] at h1; obtain rfl : n = 1 := eq_of_beq hn; split at h1 <;> first | exact h1.elim | exact pp_go h1.2 fun H locs lr _ _ _ _ _ k => lv_irem hx hb hd h1.1 k
  case ineg => simp only [stepI] at h1; obtain rfl : n = 1 := eq_of_beq hn; split at h1 <;> first | exact h1.elim | exact pp_go h1 fun H locs lr _ _ _ _ _ k => lv_ineg hx hb hd k
  case iand => simp only [stepI] at h1; obtain rfl : n = 1 := eq_of_beq hn; split at h1 <;> first | exact h1.elim | exact pp_go h1 fun H locs lr _ _ _ _ _ k => lv_iand hx hb hd k
  case ior => simp only [stepI] at h1; obtain rfl : n = 1 := eq_of_beq hn; split at h1 <;> first | exact h1.elim | exact pp_go h1 fun H locs lr _ _ _ _ _ k => lv_ior hx hb hd k
  case ixor => simp only [stepI] at h1; obtain rfl : n = 1 := eq_of_beq hn; split at h1 <;> first | exact h1.elim | exact pp_go h1 fun H locs lr _ _ _ _ _ k => lv_ixor hx hb hd k
  case ishl => simp only [stepI] at h1; obtain rfl : n = 1 := eq_of_beq hn; split at h1 <;> first | exact h1.elim | exact pp_go h1 fun H locs lr _ _ _ _ _ k => lv_ishl hx hb hd k
  case ishr => simp only [stepI] at h1; obtain rfl : n = 1 := eq_of_beq hn; split at h1 <;> first | exact h1.elim | exact pp_go h1 fun H locs lr _ _ _ _ _ k => lv_ishr hx hb hd k
  case iushr => simp only [stepI] at h1; obtain rfl : n = 1 := eq_of_beq hn; split at h1 <;> first | exact h1.elim | exact pp_go h1 fun H locs lr _ _ _ _ _ k => lv_iushr hx hb hd rfl k
  case ladd => simp only [stepI] at h1; obtain rfl : n = 1 := eq_of_beq hn; split at h1 <;> first | exact h1.elim | exact pp_go h1 fun H locs lr _ _ _ _ _ k => lv_ladd hx hb hd k
  case lmul => simp only [stepI] at h1; obtain rfl : n = 1 := eq_of_beq hn; split at h1 <;> first | exact h1.elim | exact pp_go h1 fun H locs lr _ _ _ _ _ k => lv_lmul hx hb hd k
  case ldiv => simp only [stepI] at h1; obtain rfl : n = 1 := eq_of_beq hn; split at h1 <;> first | exact h1.elim | exact pp_go h1.2 fun H locs lr _ _ _ _ _ k => lv_ldiv hx hb hd h1.1 k
  case lrem => simp only [stepI] at h1; obtain rfl : n = 1 := eq_of_beq hn; split at h1 <;> first | exact h1.elim | exact pp_go h1.2 fun H locs lr _ _ _ _ _ k => lv_lrem hx hb hd h1.1 k
  case lshl => simp only [stepI] at h1; obtain rfl : n = 1 := eq_of_beq hn; split at h1 <;> first | exact h1.elim | exact pp_go h1 fun H locs lr _ _ _ _ _ k => lv_lshl hx hb hd rfl k
  case lcmp => simp only [stepI] at h1; obtain rfl : n = 1 := eq_of_beq hn; split at h1 <;> first | exact h1.elim | exact pp_go h1 fun H locs lr _ _ _ _ _ k => W.lcmp hx hb hd k
  case i2l => simp only [stepI] at h1; obtain rfl : n = 1 := eq_of_beq hn; split at h1 <;> first | exact h1.elim | exact pp_go h1 fun H locs lr _ _ _ _ _ k => lv_i2l hx hb hd rfl k
  case i2b => simp only [stepI] at h1; obtain rfl : n = 1 := eq_of_beq hn; split at h1 <;> first | exact h1.elim | exact pp_go h1 fun H locs lr _ _ _ _ _ k => lv_i2b hx hb hd rfl k
  case dup => simp only [stepI] at h1; obtain rfl : n = 1 := eq_of_beq hn; split at h1 <;> first | exact h1.elim | exact pp_go h1.2 fun H locs lr _ _ _ _ _ k => lv_dup hx hb hd (by rw [conc_map_rest]; exact h1.1) k
  case pop => simp only [stepI] at h1; obtain rfl : n = 1 := eq_of_beq hn; split at h1 <;> first | exact h1.elim | exact pp_go h1.2 fun H locs lr _ _ _ _ _ k => lv_pop hx hb hd (by rw [conc_map_rest]; exact h1.1) k
  case dup2 => simp only [stepI] at h1; obtain rfl : n = 1 := eq_of_beq hn; split at h1 <;> first | exact h1.elim | exact pp_go h1.2.2 fun H locs lr _ _ _ _ _ k => lv_dup2_11 hx hb hd (by rw [conc_map_rest]; exact h1.1) (by rw [conc_map_rest]; exact h1.2.1) k
  case goto o => simp only [stepI] at h1; obtain rfl : n = 3 := eq_of_beq hn; exact pp_go h1.2 fun H locs lr _ _ _ _ _ k => lv_goto hx hb hd (tgt_eq h1.1) k
  case ifCond cd o =>
    simp only [stepI] at h1
    obtain rfl : n = 3 := eq_of_beq hn
    split at h1
    · obtain ⟨h0, h1⟩ := h1
      cases cd <;> simp only [brR] at h1 <;> split at h1 <;> rename_i hq
      · exact pp_go h1 fun H locs lr _ _ _ _ _ k => lv_if_eq hx hb hd (tgt_eq h0) (fun _ => k) (fun z => absurd hq z)
      · exact pp_go h1 fun H locs lr _ _ _ _ _ k => lv_if_eq hx hb hd (tgt_eq h0) (fun z => absurd z hq) (fun _ => k)
      · exact pp_go h1 fun H locs lr _ _ _ _ _ k => lv_if_ne hx hb hd (tgt_eq h0) (fun z => absurd hq z) (fun _ => k)
      · exact pp_go h1 fun H locs lr _ _ _ _ _ k => lv_if_ne hx hb hd (tgt_eq h0) (fun _ => k) (fun z => absurd z hq)
      · exact pp_go h1 fun H locs lr _ _ _ _ _ k => lv_if_lt hx hb hd (tgt_eq h0) (fun _ => k) (fun z => absurd hq z)
      · exact pp_go h1 fun H locs lr _ _ _ _ _ k => lv_if_lt hx hb hd (tgt_eq h0) (fun z => absurd z hq) (fun _ => k)
      · exact pp_go h1 fun H locs lr _ _ _ _ _ k => lv_if_ge hx hb hd (tgt_eq h0) (fun z => absurd hq (Int32.not_lt.mpr z)) (fun _ => k)
      · exact pp_go h1 fun H locs lr _ _ _ _ _ k => lv_if_ge hx hb hd (tgt_eq h0) (fun _ => k) (fun z => absurd (Int32.not_lt.mp hq) z)
      · exact pp_go h1 fun H locs lr _ _ _ _ _ k => lv_if_gt hx hb hd (tgt_eq h0) (fun _ => k) (fun z => absurd hq z)
      · exact pp_go h1 fun H locs lr _ _ _ _ _ k => lv_if_gt hx hb hd (tgt_eq h0) (fun z => absurd z hq) (fun _ => k)
      · exact pp_go h1 fun H locs lr _ _ _ _ _ k => lv_if_le hx hb hd (tgt_eq h0) (fun z => absurd hq (Int32.not_lt.mpr z)) (fun _ => k)
      · exact pp_go h1 fun H locs lr _ _ _ _ _ k => lv_if_le hx hb hd (tgt_eq h0) (fun _ => k) (fun z => absurd (Int32.not_lt.mp hq) z)
    · exact h1.elim
  case if_icmp cd o =>
    simp only [stepI] at h1
    obtain rfl : n = 3 := eq_of_beq hn
    split at h1
    · obtain ⟨h0, h1⟩ := h1
      cases cd <;> simp only [brR] at h1 <;> split at h1 <;> rename_i hq
      · exact pp_go h1 fun H locs lr _ _ _ _ _ k => lv_icmp_eq hx hb hd (tgt_eq h0) (fun _ => k) (fun z => absurd hq z)
      · exact pp_go h1 fun H locs lr _ _ _ _ _ k => lv_icmp_eq hx hb hd (tgt_eq h0) (fun z => absurd z hq) (fun _ => k)
      · exact pp_go h1 fun H locs lr _ _ _ _ _ k => lv_icmp_ne hx hb hd (tgt_eq h0) (fun z => absurd hq z) (fun _ => k)
      · exact pp_go h1 fun H locs lr _ _ _ _ _ k => lv_icmp_ne hx hb hd (tgt_eq h0) (fun _ => k) (fun z => absurd z hq)
      · exact pp_go h1 fun H locs lr _ _ _ _ _ k => lv_icmp_lt hx hb hd (tgt_eq h0) (fun _ => k) (fun z => absurd hq z)
      · exact pp_go h1 fun H locs lr _ _ _ _ _ k => lv_icmp_lt hx hb hd (tgt_eq h0) (fun z => absurd z hq) (fun _ => k)
      · exact pp_go h1 fun H locs lr _ _ _ _ _ k => lv_icmp_ge hx hb hd (tgt_eq h0) (fun z => absurd hq (Int32.not_lt.mpr z)) (fun _ => k)
      · exact pp_go h1 fun H locs lr _ _ _ _ _ k => lv_icmp_ge hx hb hd (tgt_eq h0) (fun _ => k) (fun z => absurd (Int32.not_lt.mp hq) z)
      · exact pp_go h1 fun H locs lr _ _ _ _ _ k => lv_icmp_gt hx hb hd (tgt_eq h0) (fun _ => k) (fun z => absurd hq z)
      · exact pp_go h1 fun H locs lr _ _ _ _ _ k => lv_icmp_gt hx hb hd (tgt_eq h0) (fun z => absurd z hq) (fun _ => k)
      · exact pp_go h1 fun H locs lr _ _ _ _ _ k => lv_icmp_le hx hb hd (tgt_eq h0) (fun z => absurd hq (Int32.not_lt.mpr z)) (fun _ => k)
      · exact pp_go h1 fun H locs lr _ _ _ _ _ k => lv_icmp_le hx hb hd (tgt_eq h0) (fun _ => k) (fun z => absurd (Int32.not_lt.mp hq) z)
    · exact h1.elim
end Snd
