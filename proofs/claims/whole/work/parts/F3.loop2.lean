theorem lawLoop {n : Nat} {xs : Nat → Int32} (hn : n ≤ 5120) : ∀ m i c s I L S v5 v6 v7, n < i + 10 * m + 10 → i ≤ n + 10 → TI n xs I S c s → ∃ I' L' S', S'.2.2.1 ≤ c + m ∧ S'.2.2.2 ≤ s + 6 * m ∧ ∀ r, Ev 100 319 23 [.ref 1, .ref 16, .ref 71, .ref 562, .int (i32 i), v5, v6, v7] [] I L S r ↔ r = (.inl (some (.int 1)), I', L', S') := by
  intro m
  induction m with
  | zero =>
    intro i c s I L S v5 v6 v7 h hi hT
    obtain ⟨a1, a2, a3, a4, a5, a6⟩ := hT
    exact ⟨I, L, S, by omega, by omega, lawEnd hn a4 (by omega) hi⟩
  | succ m ih =>
    intro i c s I L S v5 v6 v7 h hi hT
    have hT2 := hT
    obtain ⟨a1, a2, a3, a4, a5, a6⟩ := hT2
    by_cases hq : n < i + 10
    · exact ⟨I, L, S, by omega, by omega, lawEnd hn a4 hq hi⟩
    · obtain ⟨I1, L1, S1, w5, w6, w7, t1, b1⟩ := blkAll (x := xs i &&& 63) (L := L) (v5 := v5) (v6 := v6) (v7 := v7) hn (by omega : i + 10 ≤ n) hT
      obtain ⟨I2, L2, S2, c1, c2, c3⟩ := ih (i + 10) (c + 1) (s + 6) I1 L1 S1 w5 w6 w7 (by omega) (by omega) t1
      refine ⟨I2, L2, S2, by omega, by omega, fun r => ?_⟩
      rw [lawStep hn a4 (fun j => by rw [a3]) hq, b1 r, lawNext]
      exact c3 r
