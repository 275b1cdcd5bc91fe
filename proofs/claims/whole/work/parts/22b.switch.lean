/-- the places of a table, one behind the other from k on -/
def swT (ts : List Nat) (k : Int32) (x : Int32) (K : Nat → Prop) (dflt : Nat) : Prop := match ts with
  | [] => K dflt
  | t :: r => if x = k then K t else swT r (k + 1) x K dflt
/-- places by keys -/
def swK (ps : List (Int32 × Nat)) (x : Int32) (K : Nat → Prop) (dflt : Nat) : Prop := match ps with
  | [] => K dflt
  | (k, t) :: r => if x = k then K t else swK r x K dflt
theorem i32_small {k : Nat} (h : k < 1000) (x : Int32) : x = nI k ↔ x.toInt = (k : Int) := by
  rw [← Int32.toInt_inj, nI_toInt (by omega)]
theorem swT_iff {ts : List Nat} {x : Int32} {K : Nat → Prop} {dflt : Nat} : ∀ {k : Nat}, k + ts.length < 1000 → (swT ts (nI k) x K dflt ↔ (if x.toInt < (k : Int) ∨ ((k + ts.length : Nat) : Int) - 1 < x.toInt then K dflt else ∀ t, ts[(x.toInt - k).toNat]? = some t → K t)) := by
  induction ts with
  | nil =>
    intro k _
    unfold swT
    rw [if_pos (by simp; omega)]
  | cons t r ih =>
    intro k hk
    unfold swT
    simp only [List.length_cons] at hk ⊢
    by_cases e1 : x = nI k
    · rw [if_pos e1]
      have e2 := (i32_small (by omega) x).mp e1
      rw [if_neg (by omega), e2]
      simp
    · rw [if_neg e1, nI_1, ih (by omega)]
      have e2 : ¬ x.toInt = (k : Int) := fun z => e1 ((i32_small (by omega) x).mpr z)
      by_cases h1 : x.toInt < ((k + 1 : Nat) : Int) ∨ ((k + 1 + r.length : Nat) : Int) - 1 < x.toInt
      · rw [if_pos h1, if_pos (by omega)]
      · rw [if_neg h1, if_neg (by omega)]
        have e3 : (x.toInt - (k : Int)).toNat = (x.toInt - ((k + 1 : Nat) : Int)).toNat + 1 := by omega
        rw [e3, List.getElem?_cons_succ]
section Rules
variable {d y pc nx : Nat} {ls ls' st : List Value} {I : VI} {L : VL} {S : SW} {r : Res}
theorem e_tab {dflt lo hi : Int} {offs : Array Int} {len k dt : Nat} {ts : List Nat} {x : Int32} (h : decode (mB y) pc = .ok (.tableswitch dflt lo hi offs, len)) (hlo : lo = (k : Int)) (hhi : hi = ((k + ts.length : Nat) : Int) - 1) (hk : k + ts.length < 1000) (hts : offs.toList.map (tgt pc) = ts) (hdt : tgt pc dflt = dt) (h0 : (offs.toList.all (fun o => decide (0 ≤ (pc : Int) + o)) && decide (0 ≤ (pc : Int) + dflt)) = true) :
    Ev d y pc ls (.int x :: st) I L S r ↔ swT ts (nI k) x (fun t => Ev d y t ls st I L S r) dt := by
  rw [e_at h rfl, swT_iff hk]
  rw [Bool.and_eq_true] at h0
  have hd := of_decide_eq_true h0.2
  simp only [stepI]
  subst hlo hhi hdt
  by_cases h1 : x.toInt < (k : Int) ∨ ((k + ts.length : Nat) : Int) - 1 < x.toInt
  · rw [if_pos h1, if_pos h1]
    exact ⟨fun q => q.2, fun q => ⟨hd, q⟩⟩
  · rw [if_neg h1, if_neg h1]
    have hl : (x.toInt - (k : Int)).toNat < ts.length := by omega
    have hl2 : (x.toInt - (k : Int)).toNat < offs.size := by
      rw [← hts] at hl
      simpa using hl
    have e1 : offs[(x.toInt - (k : Int)).toNat]? = some offs[(x.toInt - (k : Int)).toNat] := Array.getElem?_eq_getElem hl2
    have e2 : ts[(x.toInt - (k : Int)).toNat]? = some (tgt pc offs[(x.toInt - (k : Int)).toNat]) := by
      rw [← hts, List.getElem?_map, Array.getElem?_toList, e1]
      rfl
    rw [e1, e2]
    have h3 := of_decide_eq_true (List.all_eq_true.mp h0.1 _ (Array.getElem_mem_toList hl2))
    constructor
    · intro q t ht
      cases ht
      exact q.2
    · intro q
      exact ⟨h3, q _ rfl⟩
theorem swR_iff {K : Int → Prop} {K' : Nat → Prop} {x : Int32} {dflt : Int} {dt pc : Nat} (hK : ∀ o, 0 ≤ (pc : Int) + o → (K o ↔ K' (tgt pc o))) (hd : tgt pc dflt = dt) (h0 : 0 ≤ (pc : Int) + dflt) : ∀ {ps : List (Int × Int)} {qs : List (Int32 × Nat)}, ps.map (fun q => (Int32.ofInt q.1, tgt pc q.2)) = qs → ps.all (fun q => decide (0 ≤ (pc : Int) + q.2) && decide ((Int32.ofInt q.1).toInt = q.1)) = true → (swR ps x K dflt ↔ swK qs x K' dt)
  | [], qs, hq, _ => by
    subst hq hd
    exact hK _ h0
  | (a, o) :: r, qs, hq, ha => by
    subst hq
    rw [List.all_cons, Bool.and_eq_true, Bool.and_eq_true] at ha
    have h1 := of_decide_eq_true ha.1.1
    have h2 := of_decide_eq_true ha.1.2
    dsimp only at h1 h2
    simp only [List.map_cons]
    unfold swR swK
    have e1 : x.toInt = a ↔ x = Int32.ofInt a := by
      rw [← Int32.toInt_inj, h2]
    by_cases e2 : x = Int32.ofInt a
    · rw [if_pos (e1.mpr e2), if_pos e2]
      exact hK _ h1
    · rw [if_neg (fun z => e2 (e1.mp z)), if_neg e2]
      exact swR_iff hK hd h0 rfl ha.2
theorem e_look {dflt : Int} {ps : Array (Int × Int)} {len dt : Nat} {qs : List (Int32 × Nat)} {x : Int32} (h : decode (mB y) pc = .ok (.lookupswitch dflt ps, len)) (hs : (ps.toList.zip (ps.toList.drop 1)).all (fun (a, next) => a.1 < next.1) = true) (hq : ps.toList.map (fun q => (Int32.ofInt q.1, tgt pc q.2)) = qs) (hdt : tgt pc dflt = dt) (h0 : (ps.toList.all (fun q => decide (0 ≤ (pc : Int) + q.2) && decide ((Int32.ofInt q.1).toInt = q.1)) && decide (0 ≤ (pc : Int) + dflt)) = true) :
    Ev d y pc ls (.int x :: st) I L S r ↔ swK qs x (fun t => Ev d y t ls st I L S r) dt := by
  rw [e_at h rfl]
  rw [Bool.and_eq_true] at h0
  simp only [stepI]
  rw [swR_iff (K' := fun t => Ev d y t ls st I L S r) (fun o ho => ⟨fun q => q.2, fun q => ⟨ho, q⟩⟩) hdt (of_decide_eq_true h0.2) hq h0.1]
  exact ⟨fun q => q.2, fun q => ⟨hs, q⟩⟩
end Rules
