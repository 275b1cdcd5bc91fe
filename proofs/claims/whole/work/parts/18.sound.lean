section Snd
variable {p : Program} {l : Launch} {e : Env} {R : Room} {s : State} {m : MethodId} {args : Array Value} {below : List Frame} {meth : Method} {c : Code} {Q : State → Prop} {G : GX} {B0 y uc us rc rs : Nat}
theorem cat_pos (v : Value) : 1 ≤ v.category := by cases v <;> simp [Value.category]
theorem catS_ge : ∀ as : List Value, as.length ≤ catS as
  | [] => Nat.le_refl 0
  | v :: as => by have := catS_ge as; have := cat_pos v; simp only [List.length_cons, catS]; omega
theorem catS_all : ∀ as : List Value, catS as = as.length → ∀ v ∈ as, v.category = 1
  | [], _, v, h => absurd h List.not_mem_nil
  | w :: as, h, v, hv => by
    have h1 := catS_ge as
    have h2 := cat_pos w
    simp only [List.length_cons, catS] at h
    rcases List.mem_cons.mp hv with rfl | hv
    · omega
    · exact catS_all as (by omega) v hv
theorem lg_sl_len : ∀ vs : List Value, (∀ v ∈ vs, v.category = 1) → (lg_sl vs).length = vs.length
  | [], _ => rfl
  | v :: vs, h => by
    have h1 := lg_sl_len vs (fun w hw => h w (List.mem_cons_of_mem _ hw))
    have h2 := h v List.mem_cons_self
    unfold lg_sl at h1 ⊢
    rw [List.flatMap_cons, List.length_append, h1, if_neg (by omega)]
    simp
    omega
theorem lv_args_mem : ∀ (vs : List Value) (i k : Nat) (v : Value), (∀ v ∈ vs, v.category = 1) → vs[k]? = some v → (i + k, v) ∈ lv_args i vs
  | [], _, k, v, _, h => by cases h
  | w :: vs, i, 0, v, _, h => by
    cases h
    unfold lv_args
    exact List.mem_cons_self
  | w :: vs, i, k + 1, v, hc, h => by
    unfold lv_args
    rw [if_neg (by have := hc w List.mem_cons_self; omega)]
    have := lv_args_mem vs (i + 1) k v (fun w hw => hc w (List.mem_cons_of_mem _ hw)) h
    rw [show i + (k + 1) = i + 1 + k by omega]
    exact List.mem_cons_of_mem _ this
theorem clm_entry {g : Nat → Nat} {as : List Value} {n : Nat} (hc : ∀ v ∈ as, v.category = 1) : ∀ q ∈ clm g (as ++ List.replicate n (.retAddr 0)), q ∈ lv_args 0 (as.map (conc g)) := by
  intro q hq
  obtain ⟨i, hi⟩ := clm_mem.mp hq
  have hcc : ∀ v ∈ as.map (conc g), v.category = 1 := by
    intro v hv
    obtain ⟨w, hw, rfl⟩ := List.mem_map.mp hv
    rw [conc_map_rest]
    exact hc w hw
  unfold clm1 at hi
  by_cases hl : i < as.length
  · rw [List.getElem?_append_left hl] at hi
    have e1 : as[i]? = some as[i] := List.getElem?_eq_getElem hl
    rw [e1] at hi
    have h2 := lv_args_mem (as.map (conc g)) 0 i (conc g as[i]) hcc (by rw [List.getElem?_map, e1]; rfl)
    have h3 := hc as[i] (List.getElem_mem hl)
    generalize as[i] = w at hi h2 h3
    rw [Nat.zero_add] at h2
    cases w with
    | int x => cases hi; exact h2
    | ref x => cases hi; exact h2
    | long x => simp [Value.category] at h3
    | _ => cases hi
  · rw [List.getElem?_append_right (by omega), List.getElem?_replicate] at hi
    split at hi
    · rename_i v e1
      split at e1 <;> cases e1
    · rename_i v e1
      split at e1 <;> cases e1
    · rename_i v e1
      split at e1 <;> cases e1
    · cases hi
theorem clm_setU {g : Nat → Nat} {ls : List Value} {k a : Nat} (hk : k < ls.length) : ∀ q ∈ clm g (ls.set k (.retAddr 0)), q ∈ (k, Value.ref a) :: (clm g ls).filter (fun q => !(q.1 == k) && !(q.1 + 1 == k && q.2.category == 2)) := by
  intro q hq
  obtain ⟨i, hi⟩ := clm_mem.mp hq
  have hik : i ≠ k := by
    intro e1
    subst e1
    unfold clm1 at hi
    rw [List.getElem?_set_self hk] at hi
    cases hi
  have h1 : clm1 g (ls.set k (.int 0)) i = some q := by
    unfold clm1 at hi ⊢
    rw [List.getElem?_set_ne (Ne.symm hik)] at hi ⊢
    by_cases h2 : i + 1 = k
    · subst h2
      rw [List.getElem?_set_self hk] at hi ⊢
      cases hl : ls[i]? with
      | none => rw [hl] at hi; cases hi
      | some w =>
        rw [hl] at hi
        cases w with
        | int x => exact hi
        | ref x => exact hi
        | long x => simp at hi
        | _ => cases hi
    · rw [List.getElem?_set_ne (Ne.symm h2)] at hi ⊢
      exact hi
  have hq1 : q.1 = i := by
    unfold clm1 at h1
    cases hl : (ls.set k (.int 0))[i]? with
    | none => rw [hl] at h1; cases h1
    | some w =>
      rw [hl] at h1
      cases w with
      | int x => cases h1; rfl
      | ref x => cases h1; rfl
      | long x =>
        dsimp only at h1
        split at h1
        · cases h1; rfl
        · cases h1
      | _ => cases h1
  rcases List.mem_cons.mp (clm_set hk (v := .int 0) (fun _ z => by cases z) rfl q (clm_mem.mpr ⟨i, h1⟩)) with h2 | h2
  · exact absurd (by rw [← hq1, h2]) hik
  · exact List.mem_cons_of_mem _ h2
/-! handlers -/
def stOK (y h' h n : Nat) : Bool := match decode (mB y) h' with
  | .ok (.astore_n k, 1) => h == h' + 1 && n == k.val
  | .ok (.astore k, 2) => h == h' + 2 && n == k
  | _ => false
def hnOK (q : Nat × Nat × Nat × Nat × Nat) : Bool := match hh q.1 with
  | [(a, b, h', ct)] => ((ct == 13 && q.2.2.1 == 0) || (ct == 31 && q.2.2.1 == 1)) && decide (a ≤ q.2.1) && decide (q.2.1 < b) && stOK q.1 h' q.2.2.2.1 q.2.2.2.2
  | [(a1, b1, h1, ct1), (a, b, h', ct)] => ct1 == 31 && ct == 13 && (if q.2.2.1 = 1 then decide (a1 ≤ q.2.1) && decide (q.2.1 < b1) && stOK q.1 h1 q.2.2.2.1 q.2.2.2.2 else (q.2.2.1 == 0) && decide (a ≤ q.2.1) && decide (q.2.1 < b) && stOK q.1 h' q.2.2.2.1 q.2.2.2.2)
  | _ => false
theorem hn_all : hnTab.all (fun q => hnOK q && isH q.1) = true := by decide +kernel
theorem hn_ok {y pc E h n : Nat} (hq : hn y pc E = some (h, n)) : hnOK (y, pc, E, h, n) = true ∧ isH y = true := by
  unfold hn at hq
  cases hf : hnTab.find? (fun e => e.1 == y && e.2.1 == pc && e.2.2.1 == E) with
  | none => rw [hf] at hq; cases hq
  | some q =>
    rw [hf] at hq
    have h1 := List.find?_some hf
    have h2 := List.all_eq_true.mp hn_all _ (List.mem_of_find?_eq_some hf)
    simp only [Bool.and_eq_true] at h1 h2
    obtain ⟨q1, q2, q3, q4⟩ := q
    have e1 := eq_of_beq h1.1.1
    have e2 := eq_of_beq h1.1.2
    have e3 := eq_of_beq h1.2
    dsimp only at e1 e2 e3
    subst e1 e2 e3
    simp only [Option.map_some, Option.some.injEq] at hq
    subst hq
    exact h2
end Snd
