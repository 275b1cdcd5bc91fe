/-! THE VALLEY: what is read keeps its bounds; what holds behind it -/
def VB (s : VS) : Prop := (s.1.1 ≤ 6 ∧ s.1.2.1 ≤ 12 ∧ s.1.2.2 ≤ 99) ∧ (∀ k, k < s.1.1 → (1 ≤ s.2 0 k ∧ s.2 0 k ≤ 9) ∧ s.2 2 k ≤ 99) ∧ ∀ k, k < s.1.2.1 → s.2 3 k < s.1.1 ∧ s.2 4 k < s.1.1 ∧ 1 ≤ s.2 6 k ∧ s.2 6 k ≤ 30
theorem nP_i {tb : Nat → Nat} {m p : Nat} {lo hi : Int32} {k : Nat → Nat → VR} {x : VS × Nat} (h : nP tb m lo hi p k = .inl x) : numF tb m lo hi p = 0 ∧ k (numV tb m p) (sk tb m (dgE tb m p)) = .inl x := by
  by_cases e : numF tb m lo hi p = 0
  · rw [nP_0 e] at h; exact ⟨e, h⟩
  · rw [nP_f e] at h; cases h
theorem seP_i {tb : Nat → Nat} {m p : Nat} {x : VR} {s : VS} (h : seP tb m x = .inl (s, p)) : ∃ p0, x = .inl (s, p0) := by
  unfold seP at h
  split at h
  · cases h
  · rename_i s' p'
    split at h
    · cases h; exact ⟨_, rfl⟩
    · cases h
theorem hoP_B {tb : Nat → Nat} {m p p' : Nat} {s s' : VS} (hB : VB s) (hn : s.1.1 < 6) (h : hoP tb m s p = .inl (s', p')) : VB s' := by
  unfold hoP at h
  obtain ⟨a1, h⟩ := nP_i h
  obtain ⟨a2, h⟩ := nP_i h
  cases h
  obtain ⟨⟨b1, b2, b3⟩, bH, bD⟩ := hB
  have g1 := numF_b (by omega) a1
  have g2 := numF_l (by omega) a1
  refine ⟨⟨by show s.1.1 + 1 ≤ 6; omega, b2, b3⟩, fun k hk => ?_, fun k hk => ?_⟩
  · dsimp only at hk ⊢
    by_cases e : k = s.1.1
    · subst e
      simp (disch := omega) only [upA_n, upA_s]
      omega
    · simp (disch := omega) only [upA_n]
      exact bH k (by omega)
  · dsimp only at hk ⊢
    simp (disch := omega) only [upA_n]
    have := bD k hk
    omega
theorem deP_B {tb : Nat → Nat} {m p p' : Nat} {s s' : VS} (hB : VB s) (hn : s.1.2.1 < 12) (h : deP tb m s p = .inl (s', p')) : VB s' := by
  unfold deP at h
  obtain ⟨a1, h⟩ := nP_i h
  obtain ⟨a2, h⟩ := nP_i h
  obtain ⟨⟨b1, b2, b3⟩, bH, bD⟩ := hB
  have g1 := numF_h (by omega) a1
  have g2 := numF_h (by omega) a2
  split at h
  · cases h
  · obtain ⟨a3, h⟩ := nP_i h
    obtain ⟨a4, h⟩ := nP_i h
    cases h
    have g3 := numF_b (by omega) a4
    have g4 := numF_l (by omega) a4
    refine ⟨⟨b1, by show s.1.2.1 + 1 ≤ 12; omega, b3⟩, fun k hk => ?_, fun k hk => ?_⟩
    · dsimp only at hk ⊢
      simp (disch := omega) only [upA_n]
      exact bH k hk
    · dsimp only at hk ⊢
      by_cases e : k = s.1.2.1
      · subst e
        simp (disch := omega) only [upA_n, upA_s]
        omega
      · simp (disch := omega) only [upA_n]
        exact bD k (by omega)
theorem flP_B {tb : Nat → Nat} {m p p' : Nat} {s s' : VS} (hB : VB s) (h : flP tb m s p = .inl (s', p')) : VB s' := by
  unfold flP at h
  obtain ⟨a1, h⟩ := nP_i h
  obtain ⟨a2, h⟩ := nP_i h
  cases h
  obtain ⟨b1, bH, bD⟩ := hB
  have g1 := numF_b (by omega) a2
  refine ⟨b1, fun k hk => ?_, fun k hk => ?_⟩
  · dsimp only at hk ⊢
    have h1 := bH k hk
    by_cases e : k = numV tb m p
    · subst e
      simp (disch := omega) only [upA_n, upA_s]
      omega
    · simp (disch := omega) only [upA_n]
      exact h1
  · dsimp only at hk ⊢
    simp (disch := omega) only [upA_n]
    exact bD k hk
theorem waP_B {tb : Nat → Nat} {m p p' : Nat} {s s' : VS} (hB : VB s) (h : waP tb m s p = .inl (s', p')) : VB s' := by
  unfold waP at h
  obtain ⟨a1, h⟩ := nP_i h
  cases h
  obtain ⟨⟨b1, b2, b3⟩, bH, bD⟩ := hB
  exact ⟨⟨b1, b2, numF_b (by omega) a1⟩, bH, bD⟩
theorem clP_B {tb : Nat → Nat} {m cl p p' : Nat} {s s' : VS} (hB : VB s) (h : clP tb m cl s p = .inl (s', p')) : VB s' := by
  have hb := hB.1
  unfold clP at h
  split at h
  · split at h
    · cases h
    · rename_i hx
      obtain ⟨p0, h⟩ := seP_i h
      exact hoP_B hB (by omega) h
  · split at h
    · split at h
      · cases h
      · rename_i hx
        obtain ⟨p0, h⟩ := seP_i h
        exact deP_B hB (by omega) h
    · split at h
      · split at h
        · cases h
        · obtain ⟨p0, h⟩ := seP_i h
          exact flP_B hB h
      · split at h
        · split at h
          · cases h
          · obtain ⟨p0, h⟩ := seP_i h
            exact waP_B hB h
        · cases h
theorem vaR_B {tb : Nat → Nat} {m : Nat} : ∀ j cl s p s', VB s → vaR tb m j cl s p = .inl s' → VB s' := by
  intro j
  induction j with
  | zero => intro cl s p s' _ h; rw [vaR] at h; cases h
  | succ j ih =>
    intro cl s p s' hB h
    rw [vaR] at h
    split at h
    · split at h
      · cases h
      · rename_i s1 p1 hc
        exact ih _ _ _ _ (clP_B hB hc) h
    · cases h; exact hB
def uq : Nat → Nat × Nat := fun k => ([(1, 0), (0, 2), (4, 0), (1, 1), (3, 0), (1, 2), (0, 3), (5, 0), (2, 0)] : List (Nat × Nat)).getD k (0, 0)
theorem uq_v : vaQ uq 9 := by unfold vaQ okQ; decide
theorem uq_c : ∀ k, k < 9 → usual k = i32 (cod (uq k)) := by decide
theorem uq_l (t : Nat → Int32) : lawQ uq 9 t = usualF t := by
  have h : lawQ uq 9 t = clamp (t 0 * i32 2 - t 1 + (if i32 3 = i32 0 then i32 0 else t 2 / i32 3)) := rfl
  rw [h, if_neg (by decide), usualF, Int32.mul_comm]
theorem bits_full {n : Nat} {p : Nat → Bool} (h : ∀ k, k < n → p k = true) : bitsN n p = 2 ^ n - 1 := by
  apply Nat.eq_of_testBit_eq
  intro j
  rw [bits_test, Nat.testBit_two_pow_sub_one]
  by_cases e : j < n
  · simp [e, h j e]
  · simp [e]
theorem inv_beg {I : VI} {nh nd wa : Nat} {A : Nat → Nat → Nat} (hB : VB ((nh, nd, wa), A)) (c7 : I 19 7 = i32 nh) (c8 : I 19 8 = i32 nd) (c20 : ∀ k, k < nh → I 20 k = i32 (A 0 k) ∧ I 21 k = i32 (A 1 k)) (c23 : ∀ k, k < nd → I 23 k = i32 (A 3 k) ∧ I 24 k = i32 (A 4 k) ∧ I 25 k = i32 (A 5 k)) (c35 : I 35 2 = i32 9) (c36 : ∀ k, k < 9 → I 36 k = usual k) (c41 : I 41 1 = i32 0 ∧ I 41 2 = i32 0) (c57 : I 57 4 = i32 0 ∧ I 57 5 = i32 0 ∧ I 57 6 = i32 0) (r0 : I 52 0 = i32 0 ∧ I 52 1 = i32 wa ∧ I 52 2 = i32 (2 ^ nd - 1)) (rh : ∀ h, h < nh → I 52 (3 + h) = i32 (A 2 h) ∧ I 52 (9 + h) = i32 0 ∧ I 52 (15 + h) = i32 0) (rk : ∀ k, k < nd → I 52 (21 + k) = i32 (A 6 k) ∧ I 52 (33 + k) = i32 0) (m75 : I 75 0 = i32 nh ∧ I 75 1 = i32 nd) (m85 : ∀ k, k < nh → I (85 + k) 0 = i32 (A 0 k) ∧ I (85 + k) 1 = i32 (A 1 k)) (m105 : ∀ k, k < nd → I (105 + k) 0 = i32 (A 3 k) ∧ I (105 + k) 1 = i32 (A 4 k) ∧ I (105 + k) 2 = i32 (A 5 k)) (m42 : I 536 42 = i32 wa ∧ I 536 43 = i32 0) (mk : ∀ k, k < nd → I 536 k = i32 (A 6 k) ∧ I 536 (12 + k) = i32 0) (mh : ∀ k, k < nh → I 536 (24 + k) = i32 (A 2 k) ∧ I 536 (30 + k) = i32 0 ∧ I 536 (36 + k) = i32 0) (m71 : I 71 18 = i32 0 ∧ I 71 33 = i32 0 ∧ I 71 34 = i32 0 ∧ I 71 35 = i32 0 ∧ I 71 36 = i32 0) (hrf : I 16 14 = I 73 0 ∧ I 16 15 = I 73 1 ∧ I 17 6 = I 71 3) (ht : I 17 1 = i32 0 ∧ I 71 1 = i32 0) (hz : Zr I) : Inv I := by
  obtain ⟨⟨b1, b2, b3⟩, bH, bD⟩ := hB
  dsimp only at b1 b2 b3 bH bD
  obtain ⟨z1, z2, z3, z4, z5⟩ := m71
  refine ⟨nh, nd, A 3, A 4, uq, 9, usualF, 0, fun _ => 0, fun _ => 0, 0, 0, 0, ⟨⟨c7, c8, m75.1, m75.2⟩, ⟨b1, b2⟩, fun k hk => ⟨?_, ?_, A 0 k, (bH k hk).1.1, (bH k hk).1.2, (c20 k hk).1⟩, fun k hk => ⟨⟨(c23 k hk).1, (bD k hk).1⟩, ⟨(c23 k hk).2.1, (bD k hk).2.1⟩, (m105 k hk).1, (m105 k hk).2.1, ?_⟩⟩, ⟨⟨c35, by omega, by omega, uq_v, fun k hk => (c36 k hk).trans (uq_c k hk)⟩, Or.inl ⟨z1, fun _ => rfl⟩, uq_l⟩, ⟨⟨r0.1.trans m42.2.symm, r0.2.1.trans m42.1.symm, ?_⟩, fun k hk => ⟨(rh k hk).1.trans (mh k hk).1.symm, (rh k hk).2.1.trans (mh k hk).2.1.symm, (rh k hk).2.2.trans (mh k hk).2.2.symm⟩, fun k hk => ⟨(rk k hk).1.trans (mk k hk).1.symm, (rk k hk).2.trans (mk k hk).2.symm⟩, ⟨0, by omega, m42.2, fun k hk => ⟨0, by omega, (mk k hk).2, fun _ => rfl⟩⟩, ⟨wa, b3, m42.1⟩, fun k hk => ⟨⟨A 2 k, by have := (bH k hk).2; omega, (mh k hk).1⟩, ⟨0, by omega, (mh k hk).2.1⟩⟩, fun k hk => ⟨A 6 k, by have := (bD k hk).2.2.2; omega, (mk k hk).1⟩⟩, ⟨⟨c41.2, z2, by omega, c41.1⟩, fun k hk => by omega, fun k hk => by omega⟩, ⟨⟨c57.1, z3, by omega⟩, fun k hk => by omega⟩, ⟨⟨c57.2.1, z5, by omega⟩, fun k hk => by omega⟩, ⟨hrf.1, hrf.2.1, c57.2.2.trans z4.symm, hrf.2.2⟩, ⟨⟨ht.1, ht.2, by omega⟩, fun k hk => by omega⟩, hz⟩
  · rw [(m85 k hk).1, (c20 k hk).1]
  · rw [(m85 k hk).2, (c20 k hk).2]
  · rw [(m105 k hk).2.2, (c23 k hk).2.2]
  · rw [r0.2.2, bits_full (fun k hk => ?_)]
    have h1 := bD k hk
    rw [thr_t hk, (rk k hk).1, i_lt (by omega) (by omega)]
    omega
