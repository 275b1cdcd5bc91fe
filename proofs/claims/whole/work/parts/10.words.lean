theorem zip_all {α : Type} {l : List α} {ps : List Nat} {f : α × Nat → Bool} (h : (l.zip ps).all f = true) (hl : l.length ≤ ps.length) : ∀ x ∈ l, ∃ p, f (x, p) = true := by
  intro w hw
  obtain ⟨i, hi, rfl⟩ := List.getElem_of_mem hw
  exact ⟨ps[i]'(by omega), List.all_eq_true.mp h (l[i], ps[i]'(by omega)) (by
    have : (l.zip ps)[i]'(by rw [List.length_zip]; omega) = (l[i], ps[i]'(by omega)) := List.getElem_zip
    rw [← this]; exact List.getElem_mem _)⟩
def strLen : MethodName := ⟨"java/lang/String", "length", "()I"⟩
def strAt : MethodName := ⟨"java/lang/String", "charAt", "(I)C"⟩
def spN (k : Nat) : MethodName := if k = 1 then objectInit else if k = 2 then arraycopyName else if k = 3 then strLen else strAt
theorem sp_all : (spTab.zip [121, 129, 161, 220, 223, 241, 259, 292, 312, 343, 349, 404, 492, 659, 669, 745, 765, 990, 1391]).all (fun q => inG q.2 (Cond.methodLink (oR q.1.1) q.1.2.1 (spN q.1.2.2)) && decide (q.1.2.2 ≠ 0)) = true := by decide +kernel
theorem sp_link {o j k : Nat} (h : sp o j = k) (hk : k ≠ 0) : Cond.methodLink (oR o) j (spN k) ∈ wsG := by
  unfold sp at h
  cases hf : spTab.find? (fun e => e.1 == o && e.2.1 == j) with
  | none => rw [hf] at h; exact absurd h.symm hk
  | some q =>
    rw [hf] at h
    have h1 := List.find?_some hf
    have h2 := List.mem_of_find?_eq_some hf
    rw [Bool.and_eq_true] at h1
    obtain ⟨p, hp⟩ := zip_all sp_all (by decide) q h2
    rw [Bool.and_eq_true] at hp
    have h3 := inG_mem hp.1
    simp only [Option.map_some, Option.getD_some] at h
    rw [← eq_of_beq h1.1, ← eq_of_beq h1.2, ← h]
    exact h3
theorem ck_all1 : (ckTab.zip [116, 124, 156, 215, 236, 254, 287, 307, 338, 344, 399, 1386]).all (fun q => inG q.2 (Cond.classLink (oR q.1.1) q.1.2.1 (cC q.1.2.2.1).1) && decide (q.1.2.2.1 < 12) && decide (q.1.2.2.2 = (cC q.1.2.2.1).2.2)) = true := by decide +kernel
theorem ck_all2 : (ckTab.zip [117, 125, 157, 216, 237, 255, 288, 308, 339, 345, 400, 1387]).all (fun q => inG q.2 (Cond.instantiable (cC q.1.2.2.1).1 q.1.2.2.2)) = true := by decide +kernel
theorem ck_all3 : (ckTab.zip [91, 92, 93, 94, 96, 97, 98, 99, 100, 101, 102, 103]).all (fun q => inG q.2 (Cond.initialized (cC q.1.2.2.1).1)) = true := by decide +kernel
theorem ck_facts {o j ci n : Nat} (h : ck o j = some (ci, n)) : ci < 12 ∧ n = (cC ci).2.2 ∧ Cond.classLink (oR o) j (cC ci).1 ∈ wsG ∧ Cond.instantiable (cC ci).1 n ∈ wsG ∧ Cond.initialized (cC ci).1 ∈ wsG := by
  unfold ck at h
  cases hf : ckTab.find? (fun e => e.1 == o && e.2.1 == j) with
  | none => rw [hf] at h; cases h
  | some q =>
    rw [hf] at h
    have h1 := List.find?_some hf
    have h2 := List.mem_of_find?_eq_some hf
    rw [Bool.and_eq_true] at h1
    obtain ⟨p1, hp1⟩ := zip_all ck_all1 (by decide) q h2
    obtain ⟨p2, hp2⟩ := zip_all ck_all2 (by decide) q h2
    obtain ⟨p3, hp3⟩ := zip_all ck_all3 (by decide) q h2
    rw [Bool.and_eq_true, Bool.and_eq_true] at hp1
    simp only [Option.map_some, Option.some.injEq] at h
    obtain ⟨q1, q2, q3, q4⟩ := q
    cases h
    have e1 := eq_of_beq h1.1
    have e2 := eq_of_beq h1.2
    dsimp only at e1 e2 hp1 hp2 hp3
    subst e1 e2
    exact ⟨of_decide_eq_true hp1.1.2, of_decide_eq_true hp1.2, inG_mem hp1.1.1, inG_mem hp2, inG_mem hp3⟩
def kcW (o j : Nat) (v : Value) : Cond := match v with
  | .int x => .constant (oR o) j x
  | .long x => .constantLong (oR o) j x
  | _ => .returned
theorem kc_all : ((kcTab.take 10).zip [727, 898, 899, 900, 1153, 1294, 1371, 1384, 1607, 1944]).all (fun q => inG q.2 (kcW q.1.1 q.1.2.1 q.1.2.2)) = true := by decide +kernel
theorem kc_rest : (kcTab.drop 10).all (fun q => match q.2.2 with | .ref _ => true | _ => false) = true := by decide +kernel
theorem kc_facts {o j : Nat} {v : Value} (h : kc o j = some v) : kcW o j v ∈ wsG ∨ ((o, j, v) ∈ kcTab.drop 10 ∧ ∃ k, v = .ref k) := by
  unfold kc at h
  cases hf : kcTab.find? (fun e => e.1 == o && e.2.1 == j) with
  | none => rw [hf] at h; cases h
  | some q =>
    rw [hf] at h
    have h1 := List.find?_some hf
    have h2 := List.mem_of_find?_eq_some hf
    rw [Bool.and_eq_true] at h1
    obtain ⟨q1, q2, q3⟩ := q
    simp only [Option.map_some, Option.some.injEq] at h
    subst h
    have e1 := eq_of_beq h1.1
    have e2 := eq_of_beq h1.2
    dsimp only at e1 e2
    subst e1 e2
    rw [← List.take_append_drop 10 kcTab] at h2
    rcases List.mem_append.mp h2 with h2 | h2
    · obtain ⟨p, hp⟩ := zip_all kc_all (by decide) _ h2
      exact Or.inl (inG_mem hp)
    · refine Or.inr ⟨h2, ?_⟩
      have h3 := List.all_eq_true.mp kc_rest _ h2
      dsimp only at h3
      split at h3
      · exact ⟨_, rfl⟩
      · cases h3
theorem w_oi : Cond.instanceMethod objectInit ∈ wsG := inG_mem (p := 122) (by decide +kernel)
theorem w_oc : Cond.code objectInit ⟨#[0xb1]⟩ 1 none ∈ wsG := inG_mem (p := 123) (by decide +kernel)
theorem w_acn : Cond.native arraycopyName ∈ wsG := inG_mem (p := 225) (by decide +kernel)
theorem w_acs : Cond.static arraycopyName ∈ wsG := inG_mem (p := 224) (by decide +kernel)
theorem w_sys : Cond.initialized "java/lang/System" ∈ wsG := inG_mem (p := 95) (by decide +kernel)
theorem w_us : Cond.fieldLink RX1 22 RX1 "USUAL" "[I" ∈ wsG := inG_mem (p := 221) (by decide +kernel)
theorem w_ai : Cond.arrayClass .int ∈ wsG := inG_mem (p := 214) (by decide +kernel)
theorem w_ab : Cond.arrayClass .byte ∈ wsG := inG_mem (p := 155) (by decide +kernel)
theorem w_al : Cond.arrayClass .long ∈ wsG := inG_mem (p := 1535) (by decide +kernel)
theorem w_mn : Cond.classLink RX11 29 "[[I" ∈ wsG := inG_mem (p := 1392) (by decide +kernel)
