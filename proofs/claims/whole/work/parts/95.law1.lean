/-! THE LAW'S TEXT, purely -/
abbrev LX : Type := (List (Nat × Nat) × Nat) ⊕ (Nat × Nat)
def lpA (tb : Nat → Nat) (m : Nat) (sg : Nat → Nat) (U : List (Nat × Nat) → Nat → LX) : Nat → List (Nat × Nat) → Nat → LX
  | 0, c, p => .inl (c, p)
  | j + 1, c, p => if p < m ∧ sg (tb p) ≠ 0 then (match U c (sk tb m (p + 1)) with
    | .inr e => .inr e
    | .inl (c1, p1) => lpA tb m sg U j (c1 ++ [(sg (tb p), 0)]) p1) else .inl (c, p)
def sgS (c : Nat) : Nat := if c = 43 then 2 else if c = 45 then 3 else 0
def sgP (c : Nat) : Nat := if c = 42 then 4 else if c = 47 then 5 else if c = 37 then 6 else 0
def loA (tb : Nat → Nat) (m : Nat) (sg : Nat → Nat) (U : List (Nat × Nat) → Nat → LX) (c : List (Nat × Nat)) (p : Nat) : LX := match U c p with
  | .inr e => .inr e
  | .inl (c1, p1) => lpA tb m sg U 151 c1 p1
def siX (tb : Nat → Nat) (m ch : Nat) (x : LX) (k : List (Nat × Nat) → Nat → LX) : LX := match x with
  | .inr e => .inr e
  | .inl (c, p) => if p < m ∧ tb p = ch then k c (sk tb m (p + 1)) else .inr (1, p)
def paA (tb : Nat → Nat) (m : Nat) (Q : List (Nat × Nat) → Nat → LX) (how : Nat) (c : List (Nat × Nat)) (p : Nat) : LX :=
  siX tb m 91 (.inl (c, p)) fun c p => siX tb m 44 (Q c p) fun c p => siX tb m 93 (Q c p) fun c p => .inl (c ++ [(how, 0)], p)
def unA (tb : Nat → Nat) (m : Nat) : Nat → List (Nat × Nat) → Nat → LX
  | 0, c, p => if p < m ∧ isDg tb p = true then (if numF tb m (i32 0) (i32 999) p = 0 then .inl (c ++ [(0, numV tb m p)], sk tb m (dgE tb m p)) else .inr (numF tb m (i32 0) (i32 999) p, p))
    else if p < m ∧ tb p = 40 then .inr (3, p)
    else if kno (lwd tb m p) < 9 then .inl (c ++ [(1, kno (lwd tb m p))], sk tb m (ltE tb m p))
    else if lwd tb m p = wLeast ∨ lwd tb m p = wMost then .inr (3, p) else .inr (1, p)
  | g + 1, c, p => if p < m ∧ isDg tb p = true then (if numF tb m (i32 0) (i32 999) p = 0 then .inl (c ++ [(0, numV tb m p)], sk tb m (dgE tb m p)) else .inr (numF tb m (i32 0) (i32 999) p, p))
    else if p < m ∧ tb p = 40 then siX tb m 41 (loA tb m sgS (loA tb m sgP (unA tb m g)) c (sk tb m (p + 1))) fun c p => .inl (c, p)
    else if kno (lwd tb m p) < 9 then .inl (c ++ [(1, kno (lwd tb m p))], sk tb m (ltE tb m p))
    else if lwd tb m p = wLeast then paA tb m (loA tb m sgS (loA tb m sgP (unA tb m g))) 7 c (sk tb m (ltE tb m p))
    else if lwd tb m p = wMost then paA tb m (loA tb m sgS (loA tb m sgP (unA tb m g))) 8 c (sk tb m (ltE tb m p)) else .inr (1, p)
def qL (c : List (Nat × Nat)) : Nat → Nat × Nat := fun k => c.getD k (0, 0)
theorem qL_l {c : List (Nat × Nat)} {e : Nat × Nat} {k : Nat} (h : k < c.length) : qL (c ++ [e]) k = qL c k := by
  unfold qL; rw [List.getD_eq_getElem?_getD, List.getD_eq_getElem?_getD, List.getElem?_append_left h]
theorem qL_r {c : List (Nat × Nat)} {e : Nat × Nat} : qL (c ++ [e]) c.length = e := by
  unfold qL; rw [List.getD_eq_getElem?_getD, List.getElem?_append_right (Nat.le_refl _), Nat.sub_self]; rfl
theorem dep_c {q q' : Nat → Nat × Nat} {k : Nat} (h : ∀ j, j < k → q j = q' j) : depQ q k = depQ q' k := by
  induction k with
  | zero => rfl
  | succ k ih => rw [depQ, depQ, ih (fun j hj => h j (by omega)), h k (by omega)]
/-- sound codes that leave so many on the stack -/
def WF (c : List (Nat × Nat)) (n : Nat) : Prop := vaQ (qL c) c.length ∧ depQ (qL c) c.length = n
theorem WF_s {c : List (Nat × Nat)} {n : Nat} {e : Nat × Nat} (h : WF c n) (he : okQ e) (h2 : 2 ≤ e.1 → 2 ≤ n) : WF (c ++ [e]) (if e.1 < 2 then n + 1 else n - 1) := by
  obtain ⟨h1, hd⟩ := h
  have hl : (c ++ [e]).length = c.length + 1 := by simp
  have ed : ∀ k, k ≤ c.length → depQ (qL (c ++ [e])) k = depQ (qL c) k := fun k hk => dep_c fun j hj => qL_l (by omega)
  refine ⟨fun k hk => ?_, ?_⟩
  · rw [hl] at hk
    by_cases ek : k = c.length
    · subst ek
      rw [qL_r, ed _ (Nat.le_refl _), hd]
      exact ⟨he, h2⟩
    · rw [qL_l (by omega), ed _ (by omega)]
      exact h1 k (by omega)
  · rw [hl, depQ, qL_r, ed _ (Nat.le_refl _), hd]
theorem sk_ge {tb : Nat → Nat} {m a : Nat} : a ≤ sk tb m a := adv_ge a
def UB (m : Nat) (U : List (Nat × Nat) → Nat → LX) : Prop := ∀ c p c' p', U c p = .inl (c', p') → p ≤ m → (p < p' ∧ p' ≤ m ∧ c'.length + p ≤ c.length + p') ∧ ∀ n, WF c n → WF c' (n + 1)
theorem sg_ok {sg : Nat → Nat} (h : sg = sgS ∨ sg = sgP) {x : Nat} (hx : sg x ≠ 0) : 2 ≤ sg x ∧ sg x ≤ 6 := by
  rcases h with rfl | rfl
  · unfold sgS at *; (repeat' split) <;> simp_all
  · unfold sgP at *; (repeat' split) <;> simp_all
theorem lpA_B {tb : Nat → Nat} {m : Nat} {sg : Nat → Nat} {U : List (Nat × Nat) → Nat → LX} (hs : sg = sgS ∨ sg = sgP) (hU : UB m U) : ∀ j c p c' p', lpA tb m sg U j c p = .inl (c', p') → p ≤ m → (p ≤ p' ∧ p' ≤ m ∧ c'.length + p ≤ c.length + p') ∧ ∀ n, WF c (n + 1) → WF c' (n + 1) := by
  intro j
  induction j with
  | zero =>
    intro c p c' p' h hp
    rw [lpA] at h; cases h
    exact ⟨⟨Nat.le_refl _, hp, Nat.le_refl _⟩, fun _ h => h⟩
  | succ j ih =>
    intro c p c' p' h hp
    rw [lpA] at h
    split at h
    · rename_i hc
      have s1 := sk_ge (tb := tb) (m := m) (a := p + 1)
      have s2 := sk_le (tb := tb) (n := m) (a := p + 1) (by omega)
      split at h
      · cases h
      · rename_i c1 p1 hu
        obtain ⟨⟨a1, a2, a3⟩, a4⟩ := hU _ _ _ _ hu s2
        obtain ⟨⟨b1, b2, b3⟩, b4⟩ := ih _ _ _ _ h a2
        have hl : (c1 ++ [(sg (tb p), 0)]).length = c1.length + 1 := by simp
        rw [hl] at b3
        refine ⟨⟨by omega, b2, by omega⟩, fun n hn => b4 n ?_⟩
        have w1 := a4 _ hn
        have so := sg_ok hs hc.2
        have w2 := WF_s (e := (sg (tb p), 0)) w1 ⟨by show sg (tb p) ≤ 8; omega, by show 0 ≤ 999; omega, fun z => by have : sg (tb p) = 1 := z; omega⟩ (fun _ => by omega)
        rw [if_neg (by show ¬ sg (tb p) < 2; omega)] at w2
        exact w2
    · cases h
      exact ⟨⟨Nat.le_refl _, hp, Nat.le_refl _⟩, fun _ h => h⟩
theorem loA_B {tb : Nat → Nat} {m : Nat} {sg : Nat → Nat} {U : List (Nat × Nat) → Nat → LX} (hs : sg = sgS ∨ sg = sgP) (hU : UB m U) : UB m (loA tb m sg U) := by
  intro c p c' p' h hp
  unfold loA at h
  split at h
  · cases h
  · rename_i c1 p1 hu
    obtain ⟨⟨a1, a2, a3⟩, a4⟩ := hU _ _ _ _ hu hp
    obtain ⟨⟨b1, b2, b3⟩, b4⟩ := lpA_B hs hU _ _ _ _ _ h a2
    exact ⟨⟨by omega, b2, by omega⟩, fun n hn => b4 n (a4 n hn)⟩
theorem siX_i {tb : Nat → Nat} {m ch : Nat} {x : LX} {k : List (Nat × Nat) → Nat → LX} {y : List (Nat × Nat) × Nat} (h : siX tb m ch x k = .inl y) : ∃ c p, x = .inl (c, p) ∧ p < m ∧ k c (sk tb m (p + 1)) = .inl y := by
  unfold siX at h
  split at h
  · cases h
  · rename_i c p
    split at h
    · rename_i hc; exact ⟨c, p, rfl, hc.1, h⟩
    · cases h
theorem paA_B {tb : Nat → Nat} {m how : Nat} {Q : List (Nat × Nat) → Nat → LX} (hh : how = 7 ∨ how = 8) (hQ : UB m Q) {c c' : List (Nat × Nat)} {p p' : Nat} (h : paA tb m Q how c p = .inl (c', p')) (hp : p ≤ m) : (p < p' ∧ p' ≤ m ∧ c'.length + p ≤ c.length + p') ∧ ∀ n, WF c n → WF c' (n + 1) := by
  unfold paA at h
  obtain ⟨c1, p1, e1, l1, h⟩ := siX_i h
  cases e1
  obtain ⟨c2, p2, e2, l2, h⟩ := siX_i h
  obtain ⟨c3, p3, e3, l3, h⟩ := siX_i h
  cases h
  have s1 := sk_ge (tb := tb) (m := m) (a := p + 1)
  have s2 := sk_le (tb := tb) (n := m) (a := p + 1) (by omega)
  have s3 := sk_ge (tb := tb) (m := m) (a := p2 + 1)
  have s4 := sk_le (tb := tb) (n := m) (a := p2 + 1) (by omega)
  have s5 := sk_ge (tb := tb) (m := m) (a := p3 + 1)
  have s6 := sk_le (tb := tb) (n := m) (a := p3 + 1) (by omega)
  obtain ⟨⟨a1, a2, a3⟩, a4⟩ := hQ _ _ _ _ e2 s2
  obtain ⟨⟨b1, b2, b3⟩, b4⟩ := hQ _ _ _ _ e3 s4
  have hl : (c3 ++ [(how, 0)]).length = c3.length + 1 := by simp
  rw [hl]
  refine ⟨⟨by omega, s6, by omega⟩, fun n hn => ?_⟩
  have w2 := WF_s (e := (how, 0)) (b4 _ (a4 _ hn)) ⟨by show how ≤ 8; omega, by show 0 ≤ 999; omega, fun z => by have : how = 1 := z; omega⟩ (fun _ => by omega)
  rw [if_neg (by show ¬ how < 2; omega)] at w2
  exact w2
theorem dg_gt {tb : Nat → Nat} {m p : Nat} (h : p < m ∧ isDg tb p = true) : p < dgE tb m p := by
  unfold dgE; rw [adv_t h.1 h.2]; exact adv_ge (q := isDg tb) (n := m) (p + 1)
theorem kno_gt {tb : Nat → Nat} {m p : Nat} (h : lwd tb m p ≠ []) : p < ltE tb m p := by
  have hl := lwd_len (tb := tb) (n := m) (p := p)
  have : 0 < (lwd tb m p).length := List.length_pos_iff.mpr h
  omega
theorem kno_ne {l : List Nat} (h : kno l < 9) : l ≠ [] := fun z => by subst z; revert h; decide
theorem kno_le {l : List Nat} : kno l ≤ 9 := by unfold kno; (repeat' split) <;> omega
theorem num_B {tb : Nat → Nat} {m p : Nat} {c c' : List (Nat × Nat)} {p' : Nat} (hd : p < m ∧ isDg tb p = true) (h : (if numF tb m (i32 0) (i32 999) p = 0 then (.inl (c ++ [(0, numV tb m p)], sk tb m (dgE tb m p)) : LX) else .inr (numF tb m (i32 0) (i32 999) p, p)) = .inl (c', p')) : (p < p' ∧ p' ≤ m ∧ c'.length + p ≤ c.length + p') ∧ ∀ n, WF c n → WF c' (n + 1) := by
  split at h
  · rename_i hn
    cases h
    have h1 := dg_gt hd
    have h2 : dgE tb m p ≤ m := adv_le p (by omega)
    have h3 := sk_ge (tb := tb) (m := m) (a := dgE tb m p)
    have h4 := sk_le (tb := tb) (n := m) (a := dgE tb m p) h2
    have hl : (c ++ [(0, numV tb m p)]).length = c.length + 1 := by simp
    rw [hl]
    have hv := numF_b (by omega) hn
    refine ⟨⟨by omega, h4, by omega⟩, fun n hw => ?_⟩
    have w2 := WF_s (e := (0, numV tb m p)) hw ⟨by show 0 ≤ 8; omega, hv, fun z => by have : 0 = 1 := z; omega⟩ (fun z => by have : 2 ≤ 0 := z; omega)
    exact w2
  · cases h
theorem kno_B {tb : Nat → Nat} {m p : Nat} {c : List (Nat × Nat)} (hp : p ≤ m) (hk : kno (lwd tb m p) < 9) : (p < sk tb m (ltE tb m p) ∧ sk tb m (ltE tb m p) ≤ m ∧ (c ++ [(1, kno (lwd tb m p))]).length + p ≤ c.length + sk tb m (ltE tb m p)) ∧ ∀ n, WF c n → WF (c ++ [(1, kno (lwd tb m p))]) (n + 1) := by
  have h1 := kno_gt (kno_ne hk)
  have h2 : ltE tb m p ≤ m := adv_le p hp
  have h3 := sk_ge (tb := tb) (m := m) (a := ltE tb m p)
  have h4 := sk_le (tb := tb) (n := m) (a := ltE tb m p) h2
  have hl : (c ++ [(1, kno (lwd tb m p))]).length = c.length + 1 := by simp
  rw [hl]
  refine ⟨⟨by omega, h4, by omega⟩, fun n hw => ?_⟩
  have w2 := WF_s (e := (1, kno (lwd tb m p))) hw ⟨by show 1 ≤ 8; omega, by show kno (lwd tb m p) ≤ 999; omega, fun _ => hk⟩ (fun z => by have : 2 ≤ 1 := z; omega)
  exact w2
theorem unA_B {tb : Nat → Nat} {m : Nat} : ∀ g, UB m (unA tb m g) := by
  intro g
  induction g with
  | zero =>
    intro c p c' p' h hp
    rw [unA] at h
    split at h
    · rename_i hd; exact num_B hd h
    · split at h
      · cases h
      · split at h
        · rename_i hk; cases h; exact kno_B hp hk
        · split at h <;> cases h
  | succ g ih =>
    intro c p c' p' h hp
    have hQ : UB m (loA tb m sgS (loA tb m sgP (unA tb m g))) := loA_B (Or.inl rfl) (loA_B (Or.inr rfl) ih)
    rw [unA] at h
    split at h
    · rename_i hd; exact num_B hd h
    · split at h
      · rename_i hb
        obtain ⟨c1, p1, e1, l1, h⟩ := siX_i h
        cases h
        have s1 := sk_ge (tb := tb) (m := m) (a := p + 1)
        have s2 := sk_le (tb := tb) (n := m) (a := p + 1) (by omega)
        have s3 := sk_ge (tb := tb) (m := m) (a := p1 + 1)
        have s4 := sk_le (tb := tb) (n := m) (a := p1 + 1) (by omega)
        obtain ⟨⟨a1, a2, a3⟩, a4⟩ := hQ _ _ _ _ e1 s2
        exact ⟨⟨by omega, s4, by omega⟩, a4⟩
      · split at h
        · rename_i hk; cases h; exact kno_B hp hk
        · have l2 : ltE tb m p ≤ m := adv_le p hp
          have l1 : p ≤ ltE tb m p := adv_ge p
          have s3 := sk_ge (tb := tb) (m := m) (a := ltE tb m p)
          have s4 := sk_le (tb := tb) (n := m) (a := ltE tb m p) l2
          split at h
          · obtain ⟨⟨a1, a2, a3⟩, a4⟩ := paA_B (Or.inl rfl) hQ h s4
            exact ⟨⟨by omega, a2, by omega⟩, a4⟩
          · split at h
            · obtain ⟨⟨a1, a2, a3⟩, a4⟩ := paA_B (Or.inr rfl) hQ h s4
              exact ⟨⟨by omega, a2, by omega⟩, a4⟩
            · cases h
def suA (tb : Nat → Nat) (m g : Nat) : List (Nat × Nat) → Nat → LX := loA tb m sgS (loA tb m sgP (unA tb m g))
theorem suA_B {tb : Nat → Nat} {m g : Nat} : UB m (suA tb m g) := loA_B (Or.inl rfl) (loA_B (Or.inr rfl) (unA_B g))
theorem prA_B {tb : Nat → Nat} {m g : Nat} : UB m (loA tb m sgP (unA tb m g)) := loA_B (Or.inr rfl) (unA_B g)
