abbrev AB (B0 : Nat) : Nat → Prop := fun q => B0 ≤ q
/-! WHERE THE SMALL MACHINE'S MEMORY LIES IN THE HEAP -/
def conc (g : Nat → Nat) : Value → Value
  | .ref k => .ref (g k)
  | v => v
/-- addresses, the classes, the array classes (int, byte, long, int[]), the script and its length -/
abbrev GX : Type := (Nat → Nat) × va_G × (ClassId × ClassId × ClassId × ClassId) × (Nat → Int32) × Nat
def rfo (g : Nat → Nat) (r : Nat) : Option Nat := if r = 0 then none else some (g r)
def fields (g : Nat → Nat) (I : VI) (k ci n : Nat) (rs : List Nat) : List Value := (List.range n).map (fun j => if cTy ci j = .int then .int (I k j) else va_rf (rfo g (rs.getD j 0)))
def ent (G : GX) (I : VI) (L : VL) (k : Nat) (c : Nat × Nat × List Nat) : va_E :=
  if c.1 = 100 then .inl (G.2.2.1.1, c.2.1, .inl (I k))
  else if c.1 = 101 then .inl (G.2.2.1.2.1, c.2.1, .inl (I k))
  else if c.1 = 102 then .inl (G.2.2.1.2.2.1, c.2.1, .inr (.inl (L k)))
  else if c.1 = 103 then .inl (G.2.2.1.2.2.2, c.2.1, .inr (.inr (.inr (.inr (fun j => rfo G.1 (c.2.2.getD j 0))))))
  else .inr (c.1, fields G.1 I k c.1 c.2.1 c.2.2)
def wl (G : GX) (I : VI) (L : VL) (W : List (Nat × Nat × List Nat)) : va_W := (W.drop 16).mapIdx (fun i c => (G.1 (16 + i), ent G I L (16 + i) c))
def usual (j : Nat) : Int32 := ([0, 18, 13, 1, 12, 2, 19, 14, 11] : List Int32).getD j 0
def w16 (n : Nat) : List (Nat × Nat × List Nat) := (999, 0, []) :: (100, n, []) :: (100, 9, []) :: (104, 0, []) :: (104, 0, []) :: (104, 0, []) :: List.replicate 10 (999, 0, [])
def gTys (G : GX) : List (ClassId × FieldType) := [(G.2.2.1.1, .int), (G.2.2.1.2.1, .byte), (G.2.2.1.2.2.1, .long), (G.2.2.1.2.2.2, .array .int)]
/-- objects have as many fields as their class has -/
def okW (W : List (Nat × Nat × List Nat)) : Prop := ∀ (k : Nat) (q : Nat × Nat × List Nat), W[k]? = some q → q.1 < 12 → q.2.1 = (cC q.1).2.2 ∧ q.2.2.length = q.2.1
def Mem (G : GX) (B0 : Nat) (I : VI) (L : VL) (S : SW) (H : Heap) : Prop :=
  va_P G.2.1 vwCl (wl G I L S.1) H ∧ va_D (AB B0) (wl G I L S.1) ∧ (S.2.1 = true → H.size = G.1 S.1.length) ∧ I 1 = G.2.2.2.1 ∧ I 2 = usual ∧ S.1.take 16 = w16 G.2.2.2.2 ∧ okW S.1
theorem u2_ne {I : VI} {k j k' : Nat} {x : Int32} (h : k' ≠ k) : u2 I k j x k' = I k' := by funext j'; simp [u2, h]
theorem u2_at {I : VI} {k j : Nat} {x : Int32} : u2 I k j x k = upd (I k) j x := by funext j'; simp [u2, upd]
theorem uL_ne {L : VL} {k j k' : Nat} {x : Int64} (h : k' ≠ k) : uL L k j x k' = L k' := by funext j'; simp [uL, h]
theorem uL_at {L : VL} {k j : Nat} {x : Int64} : uL L k j x k = vp_updL (L k) j x := by funext j'; simp [uL, vp_updL]
theorem ent_cong {G : GX} {I I' : VI} {L L' : VL} {k : Nat} {c : Nat × Nat × List Nat} (h : I' k = I k) (h2 : L' k = L k) : ent G I' L' k c = ent G I L k c := by
  unfold ent fields
  rw [h, h2]
theorem wl_get {G : GX} {I : VI} {L : VL} {W : List (Nat × Nat × List Nat)} {k : Nat} {c : Nat × Nat × List Nat} (hk : 16 ≤ k) (h : W[k]? = some c) : (wl G I L W)[k - 16]? = some (G.1 k, ent G I L k c) := by
  unfold wl
  rw [List.getElem?_mapIdx, List.getElem?_drop, show 16 + (k - 16) = k by omega, h]
  rfl
theorem wl_len {G : GX} {I : VI} {L : VL} {W : List (Nat × Nat × List Nat)} : (wl G I L W).length = W.length - 16 := by
  unfold wl
  simp
theorem wl_at {G : GX} {I : VI} {L : VL} {W : List (Nat × Nat × List Nat)} (i : Nat) : (wl G I L W)[i]? = (W[16 + i]?).map (fun c => (G.1 (16 + i), ent G I L (16 + i) c)) := by
  unfold wl
  rw [List.getElem?_mapIdx, List.getElem?_drop]
/-- one cell changes -/
theorem wl_set {G : GX} {I I' : VI} {L L' : VL} {W : List (Nat × Nat × List Nat)} {k : Nat} {c : Nat × Nat × List Nat} (hk : 16 ≤ k) (h : W[k]? = some c) (hI : ∀ k', k' ≠ k → I' k' = I k') (hL : ∀ k', k' ≠ k → L' k' = L k') : wl G I' L' W = (wl G I L W).set (k - 16) (G.1 k, ent G I' L' k c) := by
  apply List.ext_getElem?
  intro i
  have hlen : k - 16 < (wl G I L W).length := by rw [wl_len]; have := (List.getElem?_eq_some_iff.mp h).1; omega
  by_cases hi : i = k - 16
  · subst hi
    rw [List.getElem?_set_self hlen, wl_get hk h]
  · rw [List.getElem?_set_ne (Ne.symm hi), wl_at, wl_at]
    congr 1
    funext c'
    rw [ent_cong (hI _ (by omega)) (hL _ (by omega))]
theorem tag_some {W : List (Nat × Nat × List Nat)} {k t : Nat} (h : tagW W k = t) (ht : t ≠ 999) : ∃ n rs, W[k]? = some (t, n, rs) ∧ lenW W k = n ∧ ∀ j, refW W k j = rs.getD j 0 := by
  unfold tagW at h
  unfold lenW refW
  rw [List.getD_eq_getElem?_getD] at h
  simp only [List.getD_eq_getElem?_getD]
  cases hw : W[k]? with
  | none => rw [hw] at h; exact absurd h.symm ht
  | some c =>
    obtain ⟨a, n, rs⟩ := c
    rw [hw] at h
    simp at h
    subst h
    exact ⟨n, rs, rfl, rfl, fun j => rfl⟩
theorem conc_map_rest {g : Nat → Nat} (v : Value) : (conc g v).category = v.category := by cases v <;> rfl
theorem catS_conc {g : Nat → Nat} (st : List Value) : ((st.map (conc g)).map fun v => v.category).sum = catS st := by
  induction st with
  | nil => rfl
  | cons v l ih => simp only [List.map_cons, List.sum_cons, catS, conc_map_rest, ih]
theorem va_rf_rv {g : Nat → Nat} (r : Nat) : va_rf (rfo g r) = conc g (rv r) := by
  unfold rfo rv
  split <;> rfl
/-! locals -/
def clm1 (g : Nat → Nat) (ls : List Value) (i : Nat) : Option (Nat × Value) := match ls[i]? with
  | some (.int x) => some (i, .int x)
  | some (.ref k) => some (i, .ref (g k))
  | some (.long x) => if ls[i + 1]? = some (.retAddr 1) then some (i, .long x) else none
  | _ => none
def clm (g : Nat → Nat) (ls : List Value) : List (Nat × Value) := (List.range ls.length).filterMap (clm1 g ls)
theorem clm_mem {g : Nat → Nat} {ls : List Value} {q : Nat × Value} : q ∈ clm g ls ↔ ∃ i, clm1 g ls i = some q := by
  unfold clm
  rw [List.mem_filterMap]
  constructor
  · rintro ⟨i, -, h⟩; exact ⟨i, h⟩
  · rintro ⟨i, h⟩
    refine ⟨i, List.mem_range.mpr ?_, h⟩
    unfold clm1 at h
    cases hl : ls[i]? with
    | none => rw [hl] at h; cases h
    | some v => exact (List.getElem?_eq_some_iff.mp hl).1
theorem lv_mono {ls : Array Slot} {n : Nat} {l l' : List (Nat × Value)} (h : lv_has ls n l) (hs : ∀ q ∈ l', q ∈ l) : lv_has ls n l' := ⟨h.1, h.2.1, fun q hq => h.2.2 q (hs q hq)⟩
theorem clm_int {g : Nat → Nat} {ls : List Value} {lr : Array Slot} {n k : Nat} {x : Int32} (h : lv_has lr n (clm g ls)) (hk : ls[k]? = some (.int x)) : lr[k]? = some (.val (.int x)) := h.2.2 (k, .int x) (clm_mem.mpr ⟨k, by unfold clm1; rw [hk]⟩)
theorem clm_ref {g : Nat → Nat} {ls : List Value} {lr : Array Slot} {n k : Nat} {x : Nat} (h : lv_has lr n (clm g ls)) (hk : ls[k]? = some (.ref x)) : lr[k]? = some (.val (.ref (g x))) := h.2.2 (k, .ref (g x)) (clm_mem.mpr ⟨k, by unfold clm1; rw [hk]⟩)
theorem clm_long {g : Nat → Nat} {ls : List Value} {lr : Array Slot} {n k : Nat} {x : Int64} (h : lv_has lr n (clm g ls)) (hk : ls[k]? = some (.long x)) (hk2 : ls[k + 1]? = some (.retAddr 1)) : lr[k]? = some (.val (.long x)) := h.2.2 (k, .long x) (clm_mem.mpr ⟨k, by unfold clm1; rw [hk]; simp [hk2]⟩)
/-- a store of a narrow value -/
theorem clm_set {g : Nat → Nat} {ls : List Value} {k : Nat} {v : Value} (hk : k < ls.length) (hv : ∀ a, v ≠ .retAddr a) (hc : v.category = 1) : ∀ q ∈ clm g (ls.set k v), q ∈ (k, conc g v) :: (clm g ls).filter (fun q => !(q.1 == k) && !(q.1 + 1 == k && q.2.category == 2)) := by
  intro q hq
  obtain ⟨i, hi⟩ := clm_mem.mp hq
  by_cases hik : i = k
  · subst hik
    unfold clm1 at hi
    rw [List.getElem?_set_self hk] at hi
    cases v with
    | int x => cases hi; exact List.mem_cons_self
    | ref x => cases hi; exact List.mem_cons_self
    | long x => simp [Value.category] at hc
    | _ => cases hi
  · refine List.mem_cons_of_mem _ (List.mem_filter.mpr ⟨clm_mem.mpr ⟨i, ?_⟩, ?_⟩)
    · unfold clm1 at hi ⊢
      rw [List.getElem?_set_ne (Ne.symm hik)] at hi
      cases hl : ls[i]? with
      | none => rw [hl] at hi; cases hi
      | some w =>
        rw [hl] at hi
        cases w with
        | int x => exact hi
        | ref x => exact hi
        | long x =>
          by_cases h1 : i + 1 = k
          · subst h1
            simp only [List.getElem?_set_self hk] at hi
            rw [if_neg (by intro q; exact hv 1 (Option.some.inj q))] at hi
            cases hi
          · simp only [List.getElem?_set_ne (Ne.symm h1)] at hi
            exact hi
        | _ => cases hi
    · unfold clm1 at hi
      rw [List.getElem?_set_ne (Ne.symm hik)] at hi
      have hq1 : q.1 = i ∧ (i + 1 = k → q.2.category = 1) := by
        cases hl : ls[i]? with
        | none => rw [hl] at hi; cases hi
        | some w =>
          rw [hl] at hi
          cases w with
          | int x => cases hi; exact ⟨rfl, fun _ => rfl⟩
          | ref x => cases hi; exact ⟨rfl, fun _ => rfl⟩
          | long x =>
            by_cases h1 : i + 1 = k
            · subst h1
              simp only [List.getElem?_set_self hk] at hi
              rw [if_neg (by intro q; exact hv 1 (Option.some.inj q))] at hi
              cases hi
            · simp only [List.getElem?_set_ne (Ne.symm h1)] at hi
              split at hi
              · cases hi; exact ⟨rfl, fun h => absurd h h1⟩
              · cases hi
          | _ => cases hi
      rw [hq1.1]
      by_cases h1 : i + 1 = k
      · simp [hik, hq1.2 h1]
      · simp [hik, h1]
/-- a store of a wide one -/
theorem clm_setL {g : Nat → Nat} {ls : List Value} {k : Nat} {x : Int64} (hk : k + 1 < ls.length) : ∀ q ∈ clm g ((ls.set k (.long x)).set (k + 1) (.retAddr 1)), q ∈ (k, Value.long x) :: (clm g ls).filter (fun q => !(q.1 == k) && (!(q.1 == k + 1) && !(q.1 + 1 == k && q.2.category == 2))) := by
  intro q hq
  obtain ⟨i, hi⟩ := clm_mem.mp hq
  have g1 : ((ls.set k (.long x)).set (k + 1) (.retAddr 1))[k]? = some (.long x) := by
    rw [List.getElem?_set_ne (by omega), List.getElem?_set_self (by omega)]
  have g2 : ((ls.set k (.long x)).set (k + 1) (.retAddr 1))[k + 1]? = some (.retAddr 1) := by
    rw [List.getElem?_set_self (by simp; omega)]
  have g3 : ∀ j, j ≠ k → j ≠ k + 1 → ((ls.set k (.long x)).set (k + 1) (.retAddr 1))[j]? = ls[j]? := fun j h1 h2 => by
    rw [List.getElem?_set_ne (Ne.symm h2), List.getElem?_set_ne (Ne.symm h1)]
  by_cases hik : i = k
  · subst hik
    unfold clm1 at hi
    rw [g1] at hi
    simp only [g2] at hi
    simp at hi
    rw [← hi]
    exact List.mem_cons_self
  · by_cases hik2 : i = k + 1
    · subst hik2
      unfold clm1 at hi
      rw [g2] at hi
      cases hi
    · have hi0 := hi
      unfold clm1 at hi
      rw [g3 i hik hik2] at hi
      have hq1 : q.1 = i ∧ (i + 1 = k → q.2.category = 1) ∧ clm1 g ls i = some q := by
        unfold clm1
        cases hl : ls[i]? with
        | none => rw [hl] at hi; cases hi
        | some w =>
          rw [hl] at hi
          cases w with
          | int z => cases hi; exact ⟨rfl, fun _ => rfl, rfl⟩
          | ref z => cases hi; exact ⟨rfl, fun _ => rfl, rfl⟩
          | long z =>
            by_cases h1 : i + 1 = k
            · subst h1
              simp only [g1] at hi
              rw [if_neg (by intro q; cases q)] at hi
              cases hi
            · simp only [g3 (i + 1) h1 (by omega)] at hi
              have hi2 := hi
              split at hi
              · cases hi; exact ⟨rfl, fun h => absurd h h1, hi2⟩
              · cases hi
          | _ => cases hi
      refine List.mem_cons_of_mem _ (List.mem_filter.mpr ⟨clm_mem.mpr ⟨i, hq1.2.2⟩, ?_⟩)
      rw [hq1.1]
      by_cases h1 : i + 1 = k
      · simp [hik, hik2, hq1.2.1 h1]
      · simp [hik, hik2, h1]
