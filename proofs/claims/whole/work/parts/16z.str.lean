abbrev jcLen : ByteArray := prog_22_method_54_code
theorem jdLen_0 : decode jcLen 0 = .ok (.aload_n 0, 1) := by decide +kernel
theorem jdLen_1 : decode jcLen 1 = .ok (.getfield 9, 3) := by decide +kernel
theorem jdLen_4 : decode jcLen 4 = .ok (.arraylength, 1) := by decide +kernel
theorem jdLen_5 : decode jcLen 5 = .ok (.aload_n 0, 1) := by decide +kernel
theorem jdLen_6 : decode jcLen 6 = .ok (.invokevirtual 335, 3) := by decide +kernel
theorem jdLen_9 : decode jcLen 9 = .ok (.ishr, 1) := by decide +kernel
theorem jdLen_10 : decode jcLen 10 = .ok (.ireturn, 1) := by decide +kernel
theorem jwLen : Cond.code strLen jcLen 1 (some .int) ∈ wsG := inG_mem (p := 662) (by decide +kernel)
theorem jxLen : strLen.cls ≠ "java/lang/invoke/MethodHandle" ∧ strLen.cls ≠ "java/lang/invoke/VarHandle" ∧ (parseMethodDescriptor strLen.desc).map (fun d => d.parameters.length) = some 0 := by decide +kernel
theorem jiLen : Cond.instanceMethod strLen ∈ wsG := inG_mem (p := 660) (by decide +kernel)
theorem jeLen : Cond.selects "java/lang/String" strLen strLen ∈ wsG := inG_mem (p := 661) (by decide +kernel)
abbrev jcAt : ByteArray := prog_22_method_56_code
theorem jdAt_0 : decode jcAt 0 = .ok (.aload_n 0, 1) := by decide +kernel
theorem jdAt_1 : decode jcAt 1 = .ok (.invokevirtual 492, 3) := by decide +kernel
theorem jdAt_4 : decode jcAt 4 = .ok (.ifCond .eq 12, 3) := by decide +kernel
theorem jdAt_7 : decode jcAt 7 = .ok (.aload_n 0, 1) := by decide +kernel
theorem jdAt_8 : decode jcAt 8 = .ok (.getfield 9, 3) := by decide +kernel
theorem jdAt_11 : decode jcAt 11 = .ok (.iload_n 1, 1) := by decide +kernel
theorem jdAt_12 : decode jcAt 12 = .ok (.invokestatic 495, 3) := by decide +kernel
theorem jdAt_15 : decode jcAt 15 = .ok (.ireturn, 1) := by decide +kernel
theorem jdAt_16 : decode jcAt 16 = .ok (.aload_n 0, 1) := by decide +kernel
theorem jdAt_17 : decode jcAt 17 = .ok (.getfield 9, 3) := by decide +kernel
theorem jdAt_20 : decode jcAt 20 = .ok (.iload_n 1, 1) := by decide +kernel
theorem jdAt_21 : decode jcAt 21 = .ok (.invokestatic 498, 3) := by decide +kernel
theorem jdAt_24 : decode jcAt 24 = .ok (.ireturn, 1) := by decide +kernel
theorem jwAt : Cond.code strAt jcAt 2 (some .char) ∈ wsG := inG_mem (p := 672) (by decide +kernel)
theorem jxAt : strAt.cls ≠ "java/lang/invoke/MethodHandle" ∧ strAt.cls ≠ "java/lang/invoke/VarHandle" ∧ (parseMethodDescriptor strAt.desc).map (fun d => d.parameters.length) = some 1 := by decide +kernel
theorem jiAt : Cond.instanceMethod strAt ∈ wsG := inG_mem (p := 670) (by decide +kernel)
theorem jeAt : Cond.selects "java/lang/String" strAt strAt ∈ wsG := inG_mem (p := 671) (by decide +kernel)
def jyCo : MethodName := ⟨"java/lang/String", "coder", "()B"⟩
abbrev jcCo : ByteArray := prog_22_method_152_code
theorem jdCo_0 : decode jcCo 0 = .ok (.getstatic 38, 3) := by decide +kernel
theorem jdCo_3 : decode jcCo 3 = .ok (.ifCond .eq 10, 3) := by decide +kernel
theorem jdCo_6 : decode jcCo 6 = .ok (.aload_n 0, 1) := by decide +kernel
theorem jdCo_7 : decode jcCo 7 = .ok (.getfield 15, 3) := by decide +kernel
theorem jdCo_10 : decode jcCo 10 = .ok (.goto 4, 3) := by decide +kernel
theorem jdCo_13 : decode jcCo 13 = .ok (.iconst 1, 1) := by decide +kernel
theorem jdCo_14 : decode jcCo 14 = .ok (.ireturn, 1) := by decide +kernel
theorem jwCo : Cond.code jyCo jcCo 1 (some .byte) ∈ wsG := inG_mem (p := 666) (by decide +kernel)
theorem jxCo : jyCo.cls ≠ "java/lang/invoke/MethodHandle" ∧ jyCo.cls ≠ "java/lang/invoke/VarHandle" ∧ (parseMethodDescriptor jyCo.desc).map (fun d => d.parameters.length) = some 0 := by decide +kernel
theorem jiCo : Cond.instanceMethod jyCo ∈ wsG := inG_mem (p := 664) (by decide +kernel)
theorem jeCo : Cond.selects "java/lang/String" jyCo jyCo ∈ wsG := inG_mem (p := 665) (by decide +kernel)
def jyLa : MethodName := ⟨"java/lang/String", "isLatin1", "()Z"⟩
abbrev jcLa : ByteArray := prog_22_method_154_code
theorem jdLa_0 : decode jcLa 0 = .ok (.getstatic 38, 3) := by decide +kernel
theorem jdLa_3 : decode jcLa 3 = .ok (.ifCond .eq 14, 3) := by decide +kernel
theorem jdLa_6 : decode jcLa 6 = .ok (.aload_n 0, 1) := by decide +kernel
theorem jdLa_7 : decode jcLa 7 = .ok (.getfield 15, 3) := by decide +kernel
theorem jdLa_10 : decode jcLa 10 = .ok (.ifCond .ne 7, 3) := by decide +kernel
theorem jdLa_13 : decode jcLa 13 = .ok (.iconst 1, 1) := by decide +kernel
theorem jdLa_14 : decode jcLa 14 = .ok (.goto 4, 3) := by decide +kernel
theorem jdLa_17 : decode jcLa 17 = .ok (.iconst 0, 1) := by decide +kernel
theorem jdLa_18 : decode jcLa 18 = .ok (.ireturn, 1) := by decide +kernel
theorem jwLa : Cond.code jyLa jcLa 1 (some .boolean) ∈ wsG := inG_mem (p := 676) (by decide +kernel)
theorem jxLa : jyLa.cls ≠ "java/lang/invoke/MethodHandle" ∧ jyLa.cls ≠ "java/lang/invoke/VarHandle" ∧ (parseMethodDescriptor jyLa.desc).map (fun d => d.parameters.length) = some 0 := by decide +kernel
theorem jiLa : Cond.instanceMethod jyLa ∈ wsG := inG_mem (p := 674) (by decide +kernel)
theorem jeLa : Cond.selects "java/lang/String" jyLa jyLa ∈ wsG := inG_mem (p := 675) (by decide +kernel)
def jyCk : MethodName := ⟨"java/lang/String", "checkIndex", "(II)V"⟩
abbrev jcCk : ByteArray := prog_22_method_155_code
theorem jdCk_0 : decode jcCk 0 = .ok (.iload_n 0, 1) := by decide +kernel
theorem jdCk_1 : decode jcCk 1 = .ok (.iload_n 1, 1) := by decide +kernel
theorem jdCk_2 : decode jcCk 2 = .ok (.getstatic 1053, 3) := by decide +kernel
theorem jdCk_5 : decode jcCk 5 = .ok (.invokestatic 1059, 3) := by decide +kernel
theorem jdCk_8 : decode jcCk 8 = .ok (.pop, 1) := by decide +kernel
theorem jdCk_9 : decode jcCk 9 = .ok (.return_, 1) := by decide +kernel
theorem jwCk : Cond.code jyCk jcCk 2 none ∈ wsG := inG_mem (p := 682) (by decide +kernel)
theorem jxCk : jyCk.cls ≠ "java/lang/invoke/MethodHandle" ∧ jyCk.cls ≠ "java/lang/invoke/VarHandle" ∧ (parseMethodDescriptor jyCk.desc).map (fun d => d.parameters.length) = some 2 := by decide +kernel
theorem jsCk : Cond.static jyCk ∈ wsG := inG_mem (p := 681) (by decide +kernel)
def jyA1 : MethodName := ⟨"java/lang/StringLatin1", "charAt", "([BI)C"⟩
abbrev jcA1 : ByteArray := prog_23_method_2_code
theorem jdA1_0 : decode jcA1 0 = .ok (.iload_n 1, 1) := by decide +kernel
theorem jdA1_1 : decode jcA1 1 = .ok (.aload_n 0, 1) := by decide +kernel
theorem jdA1_2 : decode jcA1 2 = .ok (.arraylength, 1) := by decide +kernel
theorem jdA1_3 : decode jcA1 3 = .ok (.invokestatic 9, 3) := by decide +kernel
theorem jdA1_6 : decode jcA1 6 = .ok (.aload_n 0, 1) := by decide +kernel
theorem jdA1_7 : decode jcA1 7 = .ok (.iload_n 1, 1) := by decide +kernel
theorem jdA1_8 : decode jcA1 8 = .ok (.baload, 1) := by decide +kernel
theorem jdA1_9 : decode jcA1 9 = .ok (.sipush 255, 3) := by decide +kernel
theorem jdA1_12 : decode jcA1 12 = .ok (.iand, 1) := by decide +kernel
theorem jdA1_13 : decode jcA1 13 = .ok (.i2c, 1) := by decide +kernel
theorem jdA1_14 : decode jcA1 14 = .ok (.ireturn, 1) := by decide +kernel
theorem jwA1 : Cond.code jyA1 jcA1 2 (some .char) ∈ wsG := inG_mem (p := 679) (by decide +kernel)
theorem jxA1 : jyA1.cls ≠ "java/lang/invoke/MethodHandle" ∧ jyA1.cls ≠ "java/lang/invoke/VarHandle" ∧ (parseMethodDescriptor jyA1.desc).map (fun d => d.parameters.length) = some 2 := by decide +kernel
theorem jsA1 : Cond.static jyA1 ∈ wsG := inG_mem (p := 678) (by decide +kernel)
def jyPc : MethodName := ⟨"jdk/internal/util/Preconditions", "checkIndex", "(IILjava/util/function/BiFunction;)I"⟩
abbrev jcPc : ByteArray := prog_31_method_11_code
theorem jdPc_0 : decode jcPc 0 = .ok (.iload_n 0, 1) := by decide +kernel
theorem jdPc_1 : decode jcPc 1 = .ok (.ifCond .lt 8, 3) := by decide +kernel
theorem jdPc_4 : decode jcPc 4 = .ok (.iload_n 0, 1) := by decide +kernel
theorem jdPc_5 : decode jcPc 5 = .ok (.iload_n 1, 1) := by decide +kernel
theorem jdPc_6 : decode jcPc 6 = .ok (.if_icmp .lt 10, 3) := by decide +kernel
theorem jdPc_9 : decode jcPc 9 = .ok (.aload_n 2, 1) := by decide +kernel
theorem jdPc_10 : decode jcPc 10 = .ok (.iload_n 0, 1) := by decide +kernel
theorem jdPc_11 : decode jcPc 11 = .ok (.iload_n 1, 1) := by decide +kernel
theorem jdPc_12 : decode jcPc 12 = .ok (.invokestatic 95, 3) := by decide +kernel
theorem jdPc_15 : decode jcPc 15 = .ok (.athrow, 1) := by decide +kernel
theorem jdPc_16 : decode jcPc 16 = .ok (.iload_n 0, 1) := by decide +kernel
theorem jdPc_17 : decode jcPc 17 = .ok (.ireturn, 1) := by decide +kernel
theorem jwPc : Cond.code jyPc jcPc 3 (some .int) ∈ wsG := inG_mem (p := 687) (by decide +kernel)
theorem jxPc : jyPc.cls ≠ "java/lang/invoke/MethodHandle" ∧ jyPc.cls ≠ "java/lang/invoke/VarHandle" ∧ (parseMethodDescriptor jyPc.desc).map (fun d => d.parameters.length) = some 3 := by decide +kernel
theorem jsPc : Cond.static jyPc ∈ wsG := inG_mem (p := 686) (by decide +kernel)
theorem jnS : Cond.initialized "java/lang/String" ∈ wsG := inG_mem (p := 109) (by decide +kernel)
theorem jnL1 : Cond.initialized "java/lang/StringLatin1" ∈ wsG := inG_mem (p := 110) (by decide +kernel)
theorem jnP : Cond.initialized "jdk/internal/util/Preconditions" ∈ wsG := inG_mem (p := 111) (by decide +kernel)
theorem jlCo : Cond.methodLink "java/lang/String" 335 jyCo ∈ wsG := inG_mem (p := 663) (by decide +kernel)
theorem jlLa : Cond.methodLink "java/lang/String" 492 jyLa ∈ wsG := inG_mem (p := 673) (by decide +kernel)
theorem jlA1 : Cond.methodLink "java/lang/String" 495 jyA1 ∈ wsG := inG_mem (p := 677) (by decide +kernel)
theorem jlCk : Cond.methodLink "java/lang/StringLatin1" 9 jyCk ∈ wsG := inG_mem (p := 680) (by decide +kernel)
theorem jlPc : Cond.methodLink "java/lang/String" 1059 jyPc ∈ wsG := inG_mem (p := 685) (by decide +kernel)
theorem jfVa : Cond.fieldLink "java/lang/String" 9 "java/lang/String" "value" "[B" ∈ wsG := inG_mem (p := 1994) (by decide +kernel)
theorem jfCo : Cond.fieldLink "java/lang/String" 15 "java/lang/String" "coder" "B" ∈ wsG := inG_mem (p := 1995) (by decide +kernel)
theorem jfCs : Cond.fieldLink "java/lang/String" 38 "java/lang/String" "COMPACT_STRINGS" "Z" ∈ wsG := inG_mem (p := 667) (by decide +kernel)
theorem jfFm : Cond.fieldLink "java/lang/String" 1053 "jdk/internal/util/Preconditions" "SIOOBE_FORMATTER" "Ljava/util/function/BiFunction;" ∈ wsG := inG_mem (p := 683) (by decide +kernel)
/-! THE JDK's String.length and String.charAt ON THE TEXTS: no cell changes -/
/-- a method of the JDK that changes no cell -/
def MJ (l : Launch) (y : MethodName) (cc : ByteArray) (n : Nat) (r : Option FieldType) (fr lo : Nat) (F : State → Prop) (av : List Value) (v : Option Value) : Prop :=
  Met l y (Cond.code y cc n r :: wsG) { frames := fr, cells := 0, slots := 0, locals := lo } (va_Pc av F) (fun _ st o t => o = .returned v ∧ t.heap = st.heap) 0 0 (fun _ => False)
/-- what stays when only the machine's tables get warmer -/
def Stab (F : State → Prop) : Prop := ∀ s U : State, F s → s.WarmedH U.vm → U.heap = s.heap → F U
theorem stab_fx {G : GX} {B0 : Nat} : Stab (fun U => Fx G B0 U U.heap) := fun s U h hW hU => by
  show Fx G B0 U U.heap
  rw [hU]
  exact Fx.go h hW (fun _ _ _ => rfl)
theorem stab_T {ty : FieldType} {b n : Nat} {f : Nat → Value} {A : Nat → Prop} : Stab (fun U => va_T ty b n f A U U.heap) := fun s U h hW hU => by
  show va_T ty b n f A U U.heap
  rw [hU]
  exact va_T.moved hW.alike h
theorem stab_and {F K : State → Prop} (h1 : Stab F) (h2 : Stab K) : Stab (fun U => F U ∧ K U) := fun s U h hW hU => ⟨h1 s U h.1 hW hU, h2 s U h.2 hW hU⟩
theorem stab_true : Stab (fun _ => True) := fun _ _ _ _ _ => trivial
theorem stab_blind {F : State → Prop} (h : Stab F) (av : List Value) : FrameBlind (va_Pc av F) := by
  intro a U g mk h1
  exact ⟨h1.1, h U (U.calling g mk a) h1.2 (State.WarmedH.refl U) rfl⟩
theorem wsJ_good {w0 : Cond} (h : w0 ∈ wsG) : GoodIn wsG (w0 :: wsG) := by
  intro w hw
  have hw' : w ∈ wsG := by
    rcases List.mem_cons.mp hw with rfl | hw
    · exact h
    · exact hw
  exact ⟨hw', good_of_word (List.mem_filter.mp hw').2⟩
section Snd
variable {p : Program} {l : Launch} {e : Env} {R : Room} {s : State} {m : MethodId} {args : Array Value} {below : List Frame} {meth : Method} {c : Code} {Q : State → Prop} {G : GX} {B0 y uc us rc rs : Nat}
variable {H : Heap} {locs : List Loc} {cells slots : Nat} {cc : ByteArray} {pc nL : Nat} {ls : Array Slot} {rest st0 : List Value}
theorem jgo {v : Option Value} {a : Array Value} (hr : va_Run p l e R s m args below meth c H locs cells slots 0 0 (F0 m pc ls st0) rest ((fun _ st o t => o = .returned v ∧ t.heap = st.heap : Array Value → State → Outcome → State → Prop) a) (fun _ => False))
    (kk : W p l e R s m args below meth c H locs cells slots Q (F0 m (pc + 3) ls (v.toList ++ rest))) : W p l e R s m args below meth c H locs cells slots Q (F0 m pc ls st0) := by
  intro T hT X
  obtain ⟨v0, st₀, t, T', Lc, e0, X', hL, e1, e2, ⟨hv, ht⟩, go⟩ := hr T hT X
  have hv' : v0 = v := by injection hv
  subst hv'
  have hLc : Lc = [] := by
    cases Lc with
    | nil => rfl
    | cons q r => exact (hL q List.mem_cons_self).elim
  subst hLc
  rw [List.append_nil] at X'
  obtain ⟨tt, a1, b1⟩ := kk T' (by rw [e1, ht, e0]) X'
  exact ⟨tt, go tt a1, b1⟩
theorem jcallS {y' : MethodName} {c' : ByteArray} {n fr lo index : Nat} {r : Option FieldType} {F : State → Prop} {av : List Value} {v : Option Value} {own : String} (S : CallFix p m c cc nL s args wsG own) (hM : MJ l y' c' n r fr lo F av v) (hF : Stab F) (hp : ∀ U : State, U.heap = H → s.WarmedH U.vm → F U)
    (hcode : Cond.code y' c' n r ∈ wsG) (hini : Cond.initialized y'.cls ∈ wsG) (hlink : Cond.methodLink own index y' ∈ wsG) (hst : Cond.static y' ∈ wsG) (hd : y'.cls ≠ "java/lang/invoke/MethodHandle" ∧ y'.cls ≠ "java/lang/invoke/VarHandle" ∧ (parseMethodDescriptor y'.desc).map (fun d => d.parameters.length) = some av.length)
    (hR : fr + 1 ≤ R.frames ∧ 8 + (n + 11) + lo ≤ R.locals) (hsz : ls.size = nL) (hcat : (rest.map fun v => v.category).sum ≤ 8) (hdg : decode cc pc = .ok (.invokestatic index, 3)) (hf : cells ≤ R.cells ∧ slots ≤ R.slots)
    (kk : W p l e R s m args below meth c H locs cells slots Q (F0 m (pc + 3) ls (v.toList ++ rest))) : W p l e R s m args below meth c H locs cells slots Q (F0 m pc ls (av.reverse ++ rest)) :=
  jgo (a := av.toArray) (va_runS (As := av) (n := av.length) S hM ⟨callB_of _ S.2.2.2.2 (wsJ_good hcode) rfl rfl rfl (S.2.2.2.2 _ hini) (S.2.2.2.2 _ hlink) hd hR, S.2.2.2.2 _ hst⟩ ⟨stab_blind hF av, fun U h1 h2 => ⟨rfl, hp U h1 h2⟩⟩ rfl rfl hsz rfl (lv_room hcat) hdg hf) kk
theorem jcallV {y' : MethodName} {c' : ByteArray} {n fr lo index : Nat} {r : Option FieldType} {F : State → Prop} {b : Nat} {av : List Value} {v : Option Value} {own : String} (S : CallFix p m c cc nL s args wsG own) (hM : MJ l y' c' n r fr lo F (.ref b :: av) v) (hF : Stab F) (hp : ∀ U : State, U.heap = H → s.WarmedH U.vm → F U)
    (hrv : ∃ cell : Cell, H[b]? = some cell ∧ cell.vm.isStatics = false ∧ s.vm.findClass y'.cls = some cell.cls)
    (hcode : Cond.code y' c' n r ∈ wsG) (hini : Cond.initialized y'.cls ∈ wsG) (hlink : Cond.methodLink own index y' ∈ wsG) (him : Cond.instanceMethod y' ∈ wsG) (hse : Cond.selects y'.cls y' y' ∈ wsG) (hd : y'.cls ≠ "java/lang/invoke/MethodHandle" ∧ y'.cls ≠ "java/lang/invoke/VarHandle" ∧ (parseMethodDescriptor y'.desc).map (fun d => d.parameters.length) = some av.length)
    (hR : fr + 1 ≤ R.frames ∧ 8 + (n + 11) + lo ≤ R.locals) (hsz : ls.size = nL) (hcat : (rest.map fun v => v.category).sum ≤ 8) (hdg : decode cc pc = .ok (.invokevirtual index, 3)) (hf : cells ≤ R.cells ∧ slots ≤ R.slots)
    (kk : W p l e R s m args below meth c H locs cells slots Q (F0 m (pc + 3) ls (v.toList ++ rest))) : W p l e R s m args below meth c H locs cells slots Q (F0 m pc ls (av.reverse ++ .ref b :: rest)) :=
  jgo (a := (Value.ref b :: av).toArray) (va_runV (C := y'.cls) (b := b) (As := av) (n := av.length) S hM ⟨callB_of _ S.2.2.2.2 (wsJ_good hcode) rfl rfl rfl (S.2.2.2.2 _ hini) (S.2.2.2.2 _ hlink) hd hR, S.2.2.2.2 _ him, S.2.2.2.2 _ hse⟩ ⟨stab_blind hF _, hrv, fun U h1 h2 => ⟨rfl, hp U h1 h2⟩⟩ rfl rfl hsz rfl (lv_room hcat) hdg hf) kk
end Snd
/-- a body of the JDK, walked -/
theorem mj_of {l : Launch} {y : MethodName} {cc : ByteArray} {n fr lo : Nat} {r : Option FieldType} {F : State → Prop} {av : List Value} {v : Option Value} (hy : plainFor y = true) (hav : (lg_sl av).length ≤ n)
    (body : ∀ (p : Program) (e : Env) (s : State) (m : MethodId) (args : Array Value) (below : List Frame) (meth : Method) (c : Code) (lr : Array Slot), CallFix p m c cc n s args wsG y.cls → meth.sig.returnType = r → meth.locks = false → F s → lv_has lr n (lv_args 0 av) →
      W p l e { frames := fr, cells := 0, slots := 0, locals := lo } s m args below meth c s.heap [] 0 0 (MQ below (fun _ st o t => o = .returned v ∧ t.heap = st.heap) args s 0 0 (fun _ => False)) (F0 m 0 lr [])) : MJ l y cc n r fr lo F av v := by
  refine va_MetF hy rfl (fun p e s m args below meth c s₁ B hml hv => ?_)
  obtain ⟨rfl, hF⟩ := hv
  have hts := atoms_spec (ws := Cond.code y cc n r :: wsG) B.pre
  rw [lg_entry_eq]
  exact body p e s m _ below meth c _ ⟨B.exec, B.bytes, hml, findClass_of_methodNamed B.named, fun w hw => hts w (List.mem_cons_of_mem _ hw)⟩ B.returns B.notSynchronized hF (lv_entry av hav)
section Snd
variable {l : Launch} {G : GX} {B0 : Nat}
/-- Preconditions.checkIndex -/
theorem mjPc {j n : Int32} {w : Value} (h0 : ¬ j < 0) (h1 : j < n) (hw : w = .null ∨ ∃ t, w = .ref t) : MJ l jyPc jcPc 3 (some .int) 0 0 (fun _ => True) [.int j, .int n, w] (some (.int j)) := by
  have hsl : (lg_sl [.int j, .int n, w]).length ≤ 3 := by
    rcases hw with rfl | ⟨t, rfl⟩ <;> exact Nat.le_refl 3
  refine mj_of (by decide +kernel) hsl (fun p e s m args below meth c lr S hr hlk _ hlv => ?_)
  obtain ⟨hx, hb, hml, hown, hts⟩ := S
  refine lv_iload_n hx hb jdPc_0 rfl (lv_at hlv 0 rfl) ?_
  refine lv_if_lt hx hb (tgt := 9) jdPc_1 (by decide) (fun h => absurd h h0) (fun _ => ?_)
  refine lv_iload_n hx hb jdPc_4 rfl (lv_at hlv 0 rfl) ?_
  refine lv_iload_n hx hb jdPc_5 rfl (lv_at hlv 1 rfl) ?_
  refine lv_icmp_lt hx hb (tgt := 16) jdPc_6 (by decide) (fun _ => ?_) (fun h => absurd h1 h)
  refine lv_iload_n hx hb jdPc_16 rfl (lv_at hlv 0 rfl) ?_
  exact W.iret hx hb hr (fun t ht _ => ⟨rfl, ht⟩) (fun q hq => by cases hq) jdPc_17 hlk
/-- String.checkIndex -/
theorem mjCk {j n : Int32} (h0 : ¬ j < 0) (h1 : j < n) : MJ l jyCk jcCk 2 none 1 22 (fun U => Fx G B0 U U.heap) [.int j, .int n] none := by
  refine mj_of (by decide +kernel) (Nat.le_refl 2) (fun p e s m args below meth c lr S hr hlk hF hlv => ?_)
  obtain ⟨hx, hb, hml, hown, hts⟩ := id S
  have go : ∀ w : Value, (w = .null ∨ ∃ t, w = .ref t) → va_Z "jdk/internal/util/Preconditions" "SIOOBE_FORMATTER" "Ljava/util/function/BiFunction;" w (AB B0) s s.heap → W p l e { frames := 1, cells := 0, slots := 0, locals := 22 } s m args below meth c s.heap [] 0 0 (MQ below (fun _ st o t => o = .returned none ∧ t.heap = st.heap) args s 0 0 (fun _ => False)) (F0 m 0 lr []) := by
    intro w hw hZ
    refine lv_iload_n hx hb jdCk_0 rfl (lv_at hlv 0 rfl) ?_
    refine lv_iload_n hx hb jdCk_1 rfl (lv_at hlv 1 rfl) ?_
    refine va_gets hx hb hZ va_S.rf hown (hts _ jfFm) (fun _ h => h) jdCk_2 ?_
    refine jcallS (rest := []) S (mjPc h0 h1 hw) stab_true (fun _ _ _ => trivial) jwPc jnP jlPc jsPc jxPc ⟨by decide, by decide⟩ hlv.1 (by decide) jdCk_5 ⟨Nat.le_refl _, Nat.le_refl _⟩ ?_
    refine lv_pop hx hb jdCk_8 rfl ?_
    exact W.vret hx hb hr (fun t ht _ => ⟨rfl, ht⟩) (fun q hq => by cases hq) jdCk_9 hlk
  rcases hF.2.2.2.2.1.2.2.1 with h | ⟨t, h⟩
  · exact go _ (Or.inl rfl) h
  · exact go _ (Or.inr ⟨t, rfl⟩) h
theorem fx_at {s : State} {H : Heap} (hF : Fx G B0 s s.heap) (hH : H = s.heap) : ∀ U : State, U.heap = H → s.WarmedH U.vm → Fx G B0 U U.heap := fun U hU hW => stab_fx s U hF hW (by rw [hU, hH])
theorem in_lt {j : Int32} {n : Nat} (h : vp_in j n) (hn : n < 2 ^ 31) : ¬ j < 0 ∧ j < Int32.ofNat n := by
  obtain ⟨h1, h2⟩ := vp_in_iff.mp h
  refine ⟨fun z => h (Or.inl z), ?_⟩
  rw [Int32.lt_iff_toInt_lt]
  have e : (Int32.ofNat n).toInt = (n : Int) := nI_toInt hn
  rw [e]
  exact h2
/-- StringLatin1.charAt -/
theorem mjA1 {j w : Int32} {b n : Nat} {f : Nat → Int32} (hj : vp_in j n) (hn : n < 2 ^ 31) (hw : ((f j.toNatClampNeg &&& 255).toUInt32 % 65536).toInt32 = w) (hc : narrow .char (.int w) = .int w) : MJ l jyA1 jcA1 2 (some .char) 2 43 (fun U => Fx G B0 U U.heap ∧ va_T .byte b n (fun i => .int (f i)) (AB B0) U U.heap) [.ref b, .int j] (some (.int w)) := by
  refine mj_of (by decide +kernel) (Nat.le_refl 2) (fun p e s m args below meth c lr S hr hlk hF hlv => ?_)
  obtain ⟨hx, hb, hml, hown, hts⟩ := id S
  obtain ⟨g0, g1⟩ := in_lt hj hn
  refine lv_iload_n hx hb jdA1_0 rfl (lv_at hlv 1 rfl) ?_
  refine lv_aload_n hx hb jdA1_1 rfl (lv_at hlv 0 rfl) ?_
  refine va_tlen hx hb hF.2 va_S.rf rfl jdA1_2 ?_
  refine jcallS (rest := []) (av := [.int j, .int (Int32.ofNat n)]) S (mjCk (G := G) (B0 := B0) g0 g1) stab_fx (fx_at hF.1 rfl) jwCk jnS jlCk jsCk jxCk ⟨by decide, by decide⟩ hlv.1 (by decide) jdA1_3 ⟨Nat.le_refl _, Nat.le_refl _⟩ ?_
  refine lv_aload_n hx hb jdA1_6 rfl (lv_at hlv 0 rfl) ?_
  refine lv_iload_n hx hb jdA1_7 rfl (lv_at hlv 1 rfl) ?_
  refine va_tb hx hb hF.2 va_S.rf hj rfl jdA1_8 ?_
  refine lv_sipush hx hb (v := 255) jdA1_9 (by decide) ?_
  refine lv_iand hx hb jdA1_12 ?_
  refine lv_i2c hx hb jdA1_13 hw ?_
  exact W.zret hx hb hr hc (fun t ht _ => ⟨rfl, ht⟩) (fun q hq => by cases hq) jdA1_14 hlk
/-- String.coder -/
theorem mjCo {i : Nat} (hi : i < 3) : MJ l jyCo jcCo 1 (some .byte) 0 0 (fun U => Fx G B0 U U.heap) [.ref (G.1 (3 + i))] (some (.int 0)) := by
  refine mj_of (by decide +kernel) (Nat.le_refl 1) (fun p e s m args below meth c lr S hr hlk hF hlv => ?_)
  obtain ⟨hx, hb, hml, hown, hts⟩ := id S
  obtain ⟨adV, hE⟩ := hF.2.2.2.2.1.1
  refine va_gets hx hb hF.2.2.2.2.1.2.1 va_S.rf hown (hts _ jfCs) (fun _ h => h) jdCo_0 ?_
  refine lv_if_eq hx hb (tgt := 13) jdCo_3 (by decide) (fun h => absurd h (by decide)) (fun _ => ?_)
  refine lv_aload_n hx hb jdCo_6 rfl (lv_at hlv 0 rfl) ?_
  refine vk_getf hx hb (hE.1 i hi).2.1 va_S.rf hown (hts _ jfCo) (fun _ h => h) jdCo_7 ?_
  refine lv_goto hx hb (tgt := 14) jdCo_10 (by decide) ?_
  exact W.zret hx hb hr (by decide) (fun t ht _ => ⟨rfl, ht⟩) (fun q hq => by cases hq) jdCo_14 hlk
/-- String.isLatin1 -/
theorem mjLa {i : Nat} (hi : i < 3) : MJ l jyLa jcLa 1 (some .boolean) 0 0 (fun U => Fx G B0 U U.heap) [.ref (G.1 (3 + i))] (some (.int 1)) := by
  refine mj_of (by decide +kernel) (Nat.le_refl 1) (fun p e s m args below meth c lr S hr hlk hF hlv => ?_)
  obtain ⟨hx, hb, hml, hown, hts⟩ := id S
  obtain ⟨adV, hE⟩ := hF.2.2.2.2.1.1
  refine va_gets hx hb hF.2.2.2.2.1.2.1 va_S.rf hown (hts _ jfCs) (fun _ h => h) jdLa_0 ?_
  refine lv_if_eq hx hb (tgt := 17) jdLa_3 (by decide) (fun h => absurd h (by decide)) (fun _ => ?_)
  refine lv_aload_n hx hb jdLa_6 rfl (lv_at hlv 0 rfl) ?_
  refine vk_getf hx hb (hE.1 i hi).2.1 va_S.rf hown (hts _ jfCo) (fun _ h => h) jdLa_7 ?_
  refine lv_if_ne hx hb (tgt := 17) jdLa_10 (by decide) (fun h => absurd rfl h) (fun _ => ?_)
  refine lv_iconst hx hb (v := 1) jdLa_13 (by decide) ?_
  refine lv_goto hx hb (tgt := 18) jdLa_14 (by decide) ?_
  exact W.zret hx hb hr (by decide) (fun t ht _ => ⟨rfl, ht⟩) (fun q hq => by cases hq) jdLa_18 hlk
theorem tx_ln : ∀ i, i < 3 → txLen.getD i 0 = (txTab.getD i []).length ∧ txLen.getD i 0 < 2 ^ 31 ∧ Int32.ofNat (txLen.getD i 0) >>> ((0 : Int32) &&& 31) = Int32.ofNat (txLen.getD i 0) := by decide +kernel
theorem tx_ch : ∀ i, i < 3 → (txTab.getD i []).all (fun x => decide (((x &&& 255).toUInt32 % 65536).toInt32 = x) && decide (narrow .char (.int x) = .int x)) = true := by decide +kernel
theorem getD_mem {l : List Int32} {k : Nat} (h : k < l.length) : l.getD k 0 ∈ l := by
  rw [List.getD_eq_getElem?_getD, List.getElem?_eq_getElem h]
  exact List.getElem_mem _
/-- String.length -/
theorem mjLen {i : Nat} (hi : i < 3) : MJ l strLen jcLen 1 (some .int) 1 20 (fun U => Fx G B0 U U.heap) [.ref (G.1 (3 + i))] (some (.int (Int32.ofNat (txLen.getD i 0)))) := by
  refine mj_of (by decide +kernel) (Nat.le_refl 1) (fun p e s m args below meth c lr S hr hlk hF hlv => ?_)
  obtain ⟨hx, hb, hml, hown, hts⟩ := id S
  obtain ⟨adV, hE⟩ := hF.2.2.2.2.1.1
  refine lv_aload_n hx hb jdLen_0 rfl (lv_at hlv 0 rfl) ?_
  refine vk_getf hx hb (hE.1 i hi).2.2.1 va_S.rf hown (hts _ jfVa) (fun _ h => h) jdLen_1 ?_
  refine va_tlen hx hb (hE.1 i hi).2.2.2 va_S.rf rfl jdLen_4 ?_
  refine lv_aload_n hx hb jdLen_5 rfl (lv_at hlv 0 rfl) ?_
  refine jcallV (rest := [.int (Int32.ofNat (txLen.getD i 0))]) (av := []) S (mjCo (G := G) (B0 := B0) hi) stab_fx (fx_at hF rfl) (vk_recv (i := i) hE hi va_S.rf) jwCo jnS jlCo jiCo jeCo jxCo ⟨by decide, by decide⟩ hlv.1 (show (1 : Nat) ≤ 8 by decide) jdLen_6 ⟨Nat.le_refl _, Nat.le_refl _⟩ ?_
  refine lv_ishr hx hb jdLen_9 ?_
  rw [(tx_ln i hi).2.2]
  exact W.iret hx hb hr (fun t ht _ => ⟨rfl, ht⟩) (fun q hq => by cases hq) jdLen_10 hlk
/-- String.charAt -/
theorem mjAt {i : Nat} (hi : i < 3) {j : Int32} (hj : vp_in j (txLen.getD i 0)) : MJ l strAt jcAt 2 (some .char) 3 64 (fun U => Fx G B0 U U.heap) [.ref (G.1 (3 + i)), .int j] (some (.int ((txTab.getD i []).getD j.toNatClampNeg 0))) := by
  refine mj_of (by decide +kernel) (Nat.le_refl 2) (fun p e s m args below meth c lr S hr hlk hF hlv => ?_)
  obtain ⟨hx, hb, hml, hown, hts⟩ := id S
  obtain ⟨adV, hE⟩ := hF.2.2.2.2.1.1
  obtain ⟨t1, t2, -⟩ := tx_ln i hi
  have hlt : j.toNatClampNeg < (txTab.getD i []).length := by
    rw [← t1]
    exact Nat.not_le.mp fun q => hj (Or.inr q)
  have hch := List.all_eq_true.mp (tx_ch i hi) _ (getD_mem hlt)
  rw [Bool.and_eq_true] at hch
  have hT := (hE.1 i hi).2.2.2
  refine lv_aload_n hx hb jdAt_0 rfl (lv_at hlv 0 rfl) ?_
  refine jcallV (rest := []) (av := []) S (mjLa (G := G) (B0 := B0) hi) stab_fx (fx_at hF rfl) (vk_recv (i := i) hE hi va_S.rf) jwLa jnS jlLa jiLa jeLa jxLa ⟨by decide, by decide⟩ hlv.1 (by decide) jdAt_1 ⟨Nat.le_refl _, Nat.le_refl _⟩ ?_
  refine lv_if_eq hx hb (tgt := 16) jdAt_4 (by decide) (fun h => absurd h (by decide)) (fun _ => ?_)
  refine lv_aload_n hx hb jdAt_7 rfl (lv_at hlv 0 rfl) ?_
  refine vk_getf hx hb (hE.1 i hi).2.2.1 va_S.rf hown (hts _ jfVa) (fun _ h => h) jdAt_8 ?_
  refine lv_iload_n hx hb jdAt_11 rfl (lv_at hlv 1 rfl) ?_
  refine jcallS (rest := []) (av := [.ref (adV i), .int j]) S (mjA1 (G := G) (B0 := B0) (b := adV i) (n := txLen.getD i 0) (f := fun k => (txTab.getD i []).getD k 0) hj t2 (of_decide_eq_true hch.1) (of_decide_eq_true hch.2)) (stab_and stab_fx stab_T) (fun U hU hW => ⟨fx_at hF rfl U hU hW, stab_T s U hT hW hU⟩) jwA1 jnL1 jlA1 jsA1 jxA1 ⟨by decide, by decide⟩ hlv.1 (by decide) jdAt_12 ⟨Nat.le_refl _, Nat.le_refl _⟩ ?_
  exact W.zret hx hb hr (of_decide_eq_true hch.2) (fun t ht _ => ⟨rfl, ht⟩) (fun q hq => by cases hq) jdAt_15 hlk
end Snd
section Snd
variable {p : Program} {l : Launch} {e : Env} {R : Room} {s : State} {m : MethodId} {args : Array Value} {below : List Frame} {meth : Method} {c : Code} {Q : State → Prop} {G : GX} {B0 y uc us rc rs : Nat}
theorem tx_sub {k : Nat} (h : 3 ≤ k ∧ k < 6) : ∃ i, i < 3 ∧ k = 3 + i ∧ tx k = txTab.getD i [] ∧ (tx k).length = txLen.getD i 0 := by
  have e : tx k = txTab.getD (k - 3) [] := rfl
  refine ⟨k - 3, by omega, by omega, e, ?_⟩
  rw [e]
  exact (tx_ln (k - 3) (by omega)).1.symm
set_option maxHeartbeats 4000000 in
/-- length and charAt of a text -/
theorem snd_str {C : CC} {r : Res} (ctx : At0 p s m args c G B0 y) {d : Nat} (hR : RmD R d uc us rc rs) {pc n j : Nat} {ls st : List Value} {I : VI} {L : VL} {S : SW} (hd : decode (mB y) pc = .ok (.invokevirtual j, n)) (hn : ilen (.invokevirtual j) n = true)
    (h1 : stepI C y pc (pc + n) (.invokevirtual j) ls st I L S (PP p l e R s m args below meth c Q G B0 y uc us rc rs) r) (hsp : sp (mO y) j = 3 ∨ sp (mO y) j = 4) : PP p l e R s m args below meth c Q G B0 y uc us rc rs pc ls st I L S := by
  obtain ⟨hx, hb, hml, hown, hts, hK, hB, hF, hg⟩ := ctx
  obtain rfl : n = 3 := eq_of_beq hn
  obtain ⟨adV, hE⟩ := hF.2.2.2.2.1.1
  have hR1 := hR.1
  have hR2 := hR.2.1
  have hR3 := hR.2.2.1
  have hR4 := hR.2.2.2
  have hfx : ∀ {H : Heap} {locs : List Loc}, va_S (AB B0) s.heap H locs → ∀ U : State, U.heap = H → s.WarmedH U.vm → Fx G B0 U U.heap := fun hS U hU hW => by
    rw [hU]
    exact Fx.go hF hW hS.2.1
  rcases hsp with hsp | hsp
  · simp only [stepI, if_pos hsp] at h1
    split at h1
    · rename_i k st'
      obtain ⟨hk, hcat, h2⟩ := h1
      obtain ⟨i, hi, rfl, -, e2⟩ := tx_sub hk
      rw [e2] at h2
      have hlink := sp_link hsp (by omega)
      intro b1 b2 b3
      refine ⟨(h2 b1 b2 b3).1, fun H locs lr hM hlv hS => ?_⟩
      have hz := (h2 b1 b2 b3).1
      exact jcallV (rest := st'.map (conc G.1)) (av := []) ⟨hx, hb, hml, hown, hts⟩ (mjLen (G := G) (B0 := B0) hi) stab_fx (hfx hS) (vk_recv (i := i) hE hi hS) jwLen jnS hlink jiLen jeLen jxLen ⟨by omega, by omega⟩ hlv.1 (by rw [catS_conc]; exact hcat) hd ⟨by omega, by omega⟩ ((h2 b1 b2 b3).2 H locs lr hM hlv hS)
    · exact h1.elim
  · have hne : ¬ sp (mO y) j = 3 := by omega
    simp only [stepI, if_neg hne, if_pos hsp] at h1
    split at h1
    · rename_i x k st'
      obtain ⟨hk, hcat, hin, h2⟩ := h1
      obtain ⟨i, hi, rfl, e1, e2⟩ := tx_sub hk
      rw [e2] at hin
      rw [e1] at h2
      have hlink := sp_link hsp (by omega)
      intro b1 b2 b3
      refine ⟨(h2 b1 b2 b3).1, fun H locs lr hM hlv hS => ?_⟩
      have hz := (h2 b1 b2 b3).1
      exact jcallV (rest := st'.map (conc G.1)) (av := [.int x]) ⟨hx, hb, hml, hown, hts⟩ (mjAt (G := G) (B0 := B0) hi hin) stab_fx (hfx hS) (vk_recv (i := i) hE hi hS) jwAt jnS hlink jiAt jeAt jxAt ⟨by omega, by omega⟩ hlv.1 (by rw [catS_conc]; exact hcat) hd ⟨by omega, by omega⟩ ((h2 b1 b2 b3).2 H locs lr hM hlv hS)
    · exact h1.elim
end Snd
