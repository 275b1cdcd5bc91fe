/-! SETS OF DEBTS, house by house: what the loops keep -/
def st3 (P : Nat → Bool) (s : Nat × Nat × Nat) (x : Nat) : Nat × Nat × Nat := if P x = true then (s.1 + 1, (if s.1 = 0 then x else s.2.1), s.2.2 &&& x) else s
theorem go3 {A z a : Nat} {P : Nat → Bool} : ∀ y, (goF A (st3 P) (0, z, a) y).1 = sM y (fun x => if sub A x = true then (if P x = true then 1 else 0) else 0) ∧ (0 < (goF A (st3 P) (0, z, a) y).1 → (sub A (goF A (st3 P) (0, z, a) y).2.1 = true ∧ P (goF A (st3 P) (0, z, a) y).2.1 = true) ∧ ∀ x, x < y → sub A x = true → P x = true → (goF A (st3 P) (0, z, a) y).2.1 ≤ x) ∧ ((goF A (st3 P) (0, z, a) y).1 = 0 → (goF A (st3 P) (0, z, a) y).2.1 = z) ∧ ∀ k, (goF A (st3 P) (0, z, a) y).2.2.testBit k = true ↔ (a.testBit k = true ∧ ∀ x, x < y → sub A x = true → P x = true → x.testBit k = true) := by
  intro y
  induction y with
  | zero => exact ⟨rfl, fun h => absurd h (Nat.lt_irrefl _), fun _ => rfl, fun k => ⟨fun h => ⟨h, fun x hx => by omega⟩, fun h => h.1⟩⟩
  | succ y ih =>
    rw [goF, sM]
    generalize goF A (st3 P) (0, z, a) y = s at *
    obtain ⟨i1, i2, i3, i4⟩ := ih
    by_cases hs : sub A y = true
    · rw [if_pos hs, if_pos hs]
      unfold st3
      by_cases hp : P y = true
      · rw [if_pos hp, if_pos hp]
        refine ⟨by show s.1 + 1 = _; rw [i1], fun _ => ?_, fun h => ?_, fun k => ?_⟩
        · dsimp only
          by_cases h0 : s.1 = 0
          · rw [if_pos h0]
            refine ⟨⟨hs, hp⟩, fun x hx hsx hpx => ?_⟩
            have : 0 < s.1 ∨ x = y := by
              by_cases e : x = y
              · exact Or.inr e
              · left
                rw [i1]
                have := sM_ge (g := fun x => if sub A x = true then (if P x = true then 1 else 0) else 0) y x (by omega)
                try dsimp only at this
                rw [if_pos hsx, if_pos hpx] at this
                exact this
            omega
          · rw [if_neg h0]
            obtain ⟨j1, j2⟩ := i2 (by omega)
            refine ⟨j1, fun x hx hsx hpx => ?_⟩
            by_cases e : x = y
            · subst e
              have hl : s.2.1 < x + 1 → s.2.1 ≤ x := fun z => by omega
              obtain ⟨w, hw, hw2⟩ := sM_pos _ (by rw [← i1]; omega : 0 < sM x (fun x => if sub A x = true then (if P x = true then 1 else 0) else 0))
              have hww : sub A w = true ∧ P w = true := by
                try dsimp only at hw2
                split at hw2
                · rename_i q1
                  split at hw2
                  · rename_i q2; exact ⟨q1, q2⟩
                  · omega
                · omega
              have := j2 w hw hww.1 hww.2
              omega
            · exact j2 x (by omega) hsx hpx
        · exact absurd h (by show ¬ s.1 + 1 = 0; omega)
        · dsimp only
          rw [Nat.testBit_and, Bool.and_eq_true, i4]
          constructor
          · rintro ⟨⟨h1, h2⟩, h3⟩
            refine ⟨h1, fun x hx hsx hpx => ?_⟩
            by_cases e : x = y
            · subst e; exact h3
            · exact h2 x (by omega) hsx hpx
          · rintro ⟨h1, h2⟩
            exact ⟨⟨h1, fun x hx hsx hpx => h2 x (by omega) hsx hpx⟩, h2 y (by omega) hs hp⟩
      · rw [if_neg hp, if_neg hp, Nat.add_zero]
        refine ⟨i1, fun h0 => ⟨(i2 h0).1, fun x hx hsx hpx => ?_⟩, i3, fun k => (i4 k).trans ⟨fun h => ⟨h.1, fun x hx hsx hpx => ?_⟩, fun h => ⟨h.1, fun x hx => h.2 x (by omega)⟩⟩⟩
        · by_cases e : x = y
          · subst e; exact absurd hpx hp
          · exact (i2 h0).2 x (by omega) hsx hpx
        · by_cases e : x = y
          · subst e; exact absurd hpx hp
          · exact h.2 x (by omega) hsx hpx
    · rw [if_neg hs, if_neg hs, Nat.add_zero]
      refine ⟨i1, fun h0 => ⟨(i2 h0).1, fun x hx hsx hpx => ?_⟩, i3, fun k => (i4 k).trans ⟨fun h => ⟨h.1, fun x hx hsx hpx => ?_⟩, fun h => ⟨h.1, fun x hx => h.2 x (by omega)⟩⟩⟩
      · by_cases e : x = y
        · subst e; exact absurd hsx hs
        · exact (i2 h0).2 x (by omega) hsx hpx
      · by_cases e : x = y
        · subst e; exact absurd hsx hs
        · exact h.2 x (by omega) hsx hpx
theorem T_N {A N : Nat} {P : Nat → Bool} (hN : A < N) (hN2 : N ≤ 4096) : sM N (fun x => if sub A x = true then (if P x = true then 1 else 0) else 0) = T A P := by
  unfold T sS
  exact (sM_more (b := 2 ^ 12) hN2 (fun k h1 _ => if_neg fun z => by have := sub_le z; omega)).symm
theorem go_LC3 {A N z a : Nat} {P : Nat → Bool} (hN : A < N) (hN2 : N ≤ 4096) (ha : ∀ k, A.testBit k = true → a.testBit k = true) : LC3 A P (goF A (st3 P) (0, z, a) N).1 (goF A (st3 P) (0, z, a) N).2.1 (goF A (st3 P) (0, z, a) N).2.2 := by
  obtain ⟨i1, i2, i3, i4⟩ := go3 (A := A) (z := z) (a := a) (P := P) N
  refine ⟨i1.trans (T_N hN hN2), fun h0 => ?_⟩
  obtain ⟨j1, j2⟩ := i2 h0
  have hlt : ∀ x, sub A x = true → x < N := fun x hx => by have := sub_le hx; omega
  refine ⟨j1, fun x hx hp => j2 x (hlt x hx) hx hp, fun k => (i4 k).trans ⟨fun h x hx hp => h.2 x (hlt x hx) hx hp, fun h => ⟨?_, fun x _ hx hp => h x hx hp⟩⟩⟩
  have h1 := h _ j1.1 j1.2
  have h2 := j1.1
  rw [sub_t] at h2
  exact ha k (h2 k h1)
theorem sM_cnt {p : Nat → Bool} : ∀ n, sM n (fun x => if p x = true then 1 else 0) = cntN n p := by
  intro n
  induction n with
  | zero => rfl
  | succ n ih => rw [sM, cntN, ih]
theorem LC3_t {B : Nat} (hB : B < 4096) : LC3 B (fun _ => true) (2 ^ popc B) 0 0 := by
  refine ⟨?_, fun _ => ⟨⟨sub_0, rfl⟩, fun x _ _ => Nat.zero_le _, fun k => ⟨fun h => absurd h (by rw [Nat.zero_testBit]; decide), fun h => h 0 sub_0 rfl⟩⟩⟩
  have h1 := cnt_sub2 12 B hB
  unfold popc
  rw [← h1, ← sM_cnt]
  unfold T sS
  refine sM_c _ fun x _ => ?_
  simp
section Hs
variable {Ah : Nat → Nat} {li : Nat → Bool} {PV : Nat → Nat → Bool}
def hs3 (Ah : Nat → Nat) (li : Nat → Bool) (PV : Nat → Nat → Bool) : Nat → Nat × Nat × Nat
  | 0 => (1, 0, 0)
  | h + 1 => if li h = true then ((hs3 Ah li PV h).1 * (goF (Ah h) (st3 (PV h)) (0, 0, Ah h) (Ah h + 1)).1, (hs3 Ah li PV h).2.1 ||| (goF (Ah h) (st3 (PV h)) (0, 0, Ah h) (Ah h + 1)).2.1, (hs3 Ah li PV h).2.2 ||| (goF (Ah h) (st3 (PV h)) (0, 0, Ah h) (Ah h + 1)).2.2) else ((hs3 Ah li PV h).1 * 2 ^ popc (Ah h), (hs3 Ah li PV h).2.1, (hs3 Ah li PV h).2.2)
def UA (Ah : Nat → Nat) : Nat → Nat
  | 0 => 0
  | h + 1 => UA Ah h ||| Ah h
def grB (Ah : Nat → Nat) (li : Nat → Bool) (PV : Nat → Nat → Bool) : Nat → Nat → Bool
  | 0, _ => true
  | j + 1, x => grB Ah li PV j x && (!li j || PV j (x &&& Ah j))
theorem grB_c {x y : Nat} : ∀ j, (∀ h, h < j → li h = true → x &&& Ah h = y &&& Ah h) → grB Ah li PV j x = grB Ah li PV j y := by
  intro j
  induction j with
  | zero => intro _; rfl
  | succ j ih =>
    intro h
    rw [grB, grB, ih (fun k hk => h k (by omega))]
    by_cases hl : li j = true
    · rw [h j (by omega) hl]
    · simp [hl]
theorem UA_in {j h k : Nat} (hj : h < j) (hk : (Ah h).testBit k = true) : (UA Ah j).testBit k = true := by
  induction j with
  | zero => omega
  | succ j ih =>
    rw [UA, Nat.testBit_or]
    by_cases e : h = j
    · subst e; simp [hk]
    · simp [ih (by omega)]
theorem UA_and {j h x : Nat} (hj : h < j) : (x &&& UA Ah j) &&& Ah h = x &&& Ah h := by
  apply Nat.eq_of_testBit_eq
  intro k
  rw [Nat.testBit_and, Nat.testBit_and, Nat.testBit_and]
  cases e : (Ah h).testBit k
  · simp
  · simp [UA_in hj e]
theorem hs3_L {nh : Nat} (hA : ∀ h, h < nh → Ah h < 4096) (hd : ∀ h, h < nh → UA Ah h &&& Ah h = 0) : ∀ j, j ≤ nh → LC3 (UA Ah j) (grB Ah li PV j) (hs3 Ah li PV j).1 (hs3 Ah li PV j).2.1 (hs3 Ah li PV j).2.2 := by
  intro j
  induction j with
  | zero =>
    intro _
    have := LC3_t (B := 0) (by omega)
    have e : 2 ^ popc 0 = 1 := by decide
    rw [e] at this
    exact LC3_c (fun x _ => rfl) this
  | succ j ih =>
    intro hj
    have i1 := ih (by omega)
    rw [hs3]
    have ecs : ∀ x, grB Ah li PV j (x &&& UA Ah j) = grB Ah li PV j x := fun x => grB_c j fun h hh _ => UA_and hh
    by_cases hl : li j = true
    · rw [if_pos hl]
      have g1 := go_LC3 (A := Ah j) (N := Ah j + 1) (z := 0) (a := Ah j) (P := PV j) (by omega) (by have := hA j (by omega); omega) (fun _ h => h)
      refine LC3_c (fun x _ => ?_) (LC3_m (hd j (by omega)) i1 g1)
      rw [grB, ecs, hl]; simp
    · rw [if_neg hl]
      have g1 := LC3_t (B := Ah j) (hA j (by omega))
      have := LC3_m (hd j (by omega)) i1 g1
      rw [Nat.or_zero, Nat.or_zero] at this
      refine LC3_c (fun x _ => ?_) this
      rw [grB, ecs]; simp [hl]
end Hs
