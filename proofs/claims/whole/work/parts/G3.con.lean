/-! THE CONSTRUCTORS: their run -/
def mm0 : MM := ([], [(10, 16, List.replicate 16 0)], 1, 16)
def mmN (m : MM) (c : Nat × Nat × List Nat) (q : Nat) : MM := (m.1, m.2.1 ++ [c], m.2.2.1 + 1, m.2.2.2 + q)
def mfac : List (Nat × Nat × Int32) := [(19, 7, 0), (19, 8, 0), (35, 2, 9), (36, 0, 0), (36, 1, 18), (36, 2, 13), (36, 3, 1), (36, 4, 12), (36, 5, 2), (36, 6, 19), (36, 7, 14), (36, 8, 11), (41, 1, 0), (41, 2, 0), (57, 4, 0), (57, 5, 0), (57, 6, 0), (52, 0, 0), (52, 1, 20), (52, 2, 0), (75, 0, 0), (75, 1, 0), (536, 42, 20), (536, 43, 0), (71, 18, 0), (71, 33, 0), (71, 34, 0), (71, 35, 0), (71, 36, 0), (16, 14, 0), (16, 15, 0), (73, 0, 0), (73, 1, 0), (17, 6, -1), (71, 3, -1), (17, 1, 0), (71, 1, 0), (64, 0, 0), (65, 0, 0), (67, 0, 0), (68, 0, 0)]
def mchk (m1 m3 : MM) : Bool :=
  frs m1.1 71 && decide (m1.2.1.length = 55) && frs m3.1 562 && decide (m3.2.1.length = 546) && decide (tagW (w16 0 ++ m1.2.1 ++ [(11, 43, List.replicate 43 0)]) 71 = 11) && decide (m3.2.1 ++ [(102, 1, [])] = WX) && decide (m3.2.2.1 ≤ 10000) && decide (m3.2.2.2 ≤ 100000) && mfac.all (fun e => decide (lk m3.1 e.1 e.2.1 = some e.2.2)) && m3.1.all (fun e => decide (16 ≤ e.1))
def mrun : Bool := match runF 6 119 [.ref 16] mm0 with
  | some m1 => match runF 6 166 [.ref 71] (mmN m1 (11, 43, List.replicate 43 0) 43) with
    | some m3 => mchk m1 m3
    | none => false
  | none => false
set_option maxRecDepth 100000 in
theorem mrun_ok : mrun = true := by decide +kernel
theorem mrun_s : ∃ m1 m3, runF 6 119 [.ref 16] mm0 = some m1 ∧ runF 6 166 [.ref 71] (mmN m1 (11, 43, List.replicate 43 0) 43) = some m3 ∧ mchk m1 m3 = true := by
  have h := mrun_ok
  unfold mrun at h
  split at h
  · rename_i m1 h1
    split at h
    · rename_i m3 h3
      exact ⟨m1, m3, h1, h3, h⟩
    · cases h
  · cases h
theorem IA_1 {xs : Nat → Int32} : ∀ {A : List (Nat × Nat × Int32)}, A.all (fun e => decide (16 ≤ e.1)) = true → ∀ k, k < 16 → IA xs A k = I0 xs k
  | [], _, k, _ => rfl
  | e :: A, h, k, hk => by
    have h1 : 16 ≤ e.1 ∧ A.all (fun e => decide (16 ≤ e.1)) = true := by simpa using h
    show u2 (IA xs A) e.1 e.2.1 e.2.2 k = _
    rw [u_row (by omega), IA_1 h1.2 k hk]
theorem con_run {n : Nat} {xs : Nat → Int32} : ∃ I S, TI n xs I S 10001 100001 ∧ ∀ r, Ev 100 319 23 [.ref 1, .ref 16, .ref 71, .ref 562, .int (i32 0), .retAddr 0, .retAddr 0, .retAddr 0] [] I LZ S r → EvD 101 319 [.ref 1] (I0 xs) (fun _ _ => 0) (S00 n) r := by
  obtain ⟨m1, m3, r1, r3, hc⟩ := mrun_s
  unfold mchk at hc
  simp only [Bool.and_eq_true, decide_eq_true_eq] at hc
  obtain ⟨⟨⟨⟨⟨⟨⟨⟨⟨c1, c2⟩, c3⟩, c4⟩, c5⟩, c6⟩, c7⟩, c8⟩, c9⟩, c10⟩ := hc
  have hf : ∀ e ∈ mfac, IA xs m3.1 e.1 e.2.1 = e.2.2 := fun e he => lk_s (of_decide_eq_true (List.all_eq_true.mp c9 e he))
  refine ⟨IA xs m3.1, (W0 n, true, m3.2.2.1 + 1, m3.2.2.2 + 1), ⟨?_, ?_, ?_, rfl, by show m3.2.2.1 + 1 ≤ _; omega, by show m3.2.2.2 + 1 ≤ _; omega⟩, fun r hr => ?_⟩
  · exact inv_beg (nh := 0) (nd := 0) (wa := 20) (A := fun _ _ => 0) ⟨⟨by decide, by decide, by decide⟩, fun k hk => absurd hk (Nat.not_lt_zero k), fun k hk => absurd hk (Nat.not_lt_zero k)⟩ (hf (19, 7, 0) (by decide)) (hf (19, 8, 0) (by decide)) (fun k hk => absurd hk (Nat.not_lt_zero k)) (fun k hk => absurd hk (Nat.not_lt_zero k)) (hf (35, 2, 9) (by decide))
      (fun k hk => match k, hk with
        | 0, _ => hf (36, 0, 0) (by decide)
        | 1, _ => hf (36, 1, 18) (by decide)
        | 2, _ => hf (36, 2, 13) (by decide)
        | 3, _ => hf (36, 3, 1) (by decide)
        | 4, _ => hf (36, 4, 12) (by decide)
        | 5, _ => hf (36, 5, 2) (by decide)
        | 6, _ => hf (36, 6, 19) (by decide)
        | 7, _ => hf (36, 7, 14) (by decide)
        | 8, _ => hf (36, 8, 11) (by decide)
        | k + 9, hk => absurd hk (by omega))
      ⟨hf (41, 1, 0) (by decide), hf (41, 2, 0) (by decide)⟩ ⟨hf (57, 4, 0) (by decide), hf (57, 5, 0) (by decide), hf (57, 6, 0) (by decide)⟩ ⟨hf (52, 0, 0) (by decide), hf (52, 1, 20) (by decide), hf (52, 2, 0) (by decide)⟩ (fun k hk => absurd hk (Nat.not_lt_zero k)) (fun k hk => absurd hk (Nat.not_lt_zero k)) ⟨hf (75, 0, 0) (by decide), hf (75, 1, 0) (by decide)⟩ (fun k hk => absurd hk (Nat.not_lt_zero k)) (fun k hk => absurd hk (Nat.not_lt_zero k)) ⟨hf (536, 42, 20) (by decide), hf (536, 43, 0) (by decide)⟩ (fun k hk => absurd hk (Nat.not_lt_zero k)) (fun k hk => absurd hk (Nat.not_lt_zero k))
      ⟨hf (71, 18, 0) (by decide), hf (71, 33, 0) (by decide), hf (71, 34, 0) (by decide), hf (71, 35, 0) (by decide), hf (71, 36, 0) (by decide)⟩ ⟨(hf (16, 14, 0) (by decide)).trans (hf (73, 0, 0) (by decide)).symm, (hf (16, 15, 0) (by decide)).trans (hf (73, 1, 0) (by decide)).symm, (hf (17, 6, -1) (by decide)).trans (hf (71, 3, -1) (by decide)).symm⟩ ⟨hf (17, 1, 0) (by decide), hf (71, 1, 0) (by decide)⟩ ⟨hf (64, 0, 0) (by decide), hf (65, 0, 0) (by decide), hf (67, 0, 0) (by decide), hf (68, 0, 0) (by decide)⟩
  · intro j hj
    rw [IA_1 c10 2 (by omega)]
    rfl
  · rw [IA_1 c10 1 (by omega)]
    rfl
  · have e1 := runF_up (n := n) (xs := xs) r1 94
    have e3 := runF_up (n := n) (xs := xs) r3 94
    have l1 : (SS n m1).1.length = 71 := by unfold SS; rw [List.length_append, w16_len, c2]
    have l3 : (SS n m3).1.length = 562 := by unfold SS; rw [List.length_append, w16_len, c4]
    have z0 : zI (I0 xs) 16 = I0 xs := frs_zI (xs := xs) (A := []) (by omega) rfl
    have g1 : grow (SS n m1) (11, 43, List.replicate 43 0) 43 = SS n (mmN m1 (11, 43, List.replicate 43 0) 43) := by unfold grow SS mmN; dsimp only; rw [List.append_assoc]
    have g3 : grow (SS n m3) (102, 1, []) 1 = (W0 n, true, m3.2.2.1 + 1, m3.2.2.2 + 1) := by unfold grow SS W0; dsimp only; rw [List.append_assoc, c6]
    have t71 : tagW (SS n (mmN m1 (11, 43, List.replicate 43 0) 43)).1 71 = 11 := by
      unfold SS mmN; dsimp only; rw [w16_tag, ← List.append_assoc]; exact c5
    refine in319.mpr (k319_0.mpr ⟨rfl, ?_⟩)
    show Ev 100 319 3 _ [.ref 16] (zI (I0 xs) 16) LZ (SS n mm0) r
    rw [z0]
    refine k319_3r.mpr (k319_4.mpr ⟨rfl, by decide, _, e1, ?_⟩)
    show Ev 100 319 7 _ [.ref 16] (IA xs m1.1) LZ (SS n m1) r
    refine k319_7.mpr (k319_8.mpr ⟨rfl, ?_⟩)
    rw [l1, frs_zI (by omega) c1, g1]
    refine k319_11r.mpr (k319_12.mpr ⟨t71, by decide, _, e3, ?_⟩)
    show Ev 100 319 15 _ [.ref 71] (IA xs m3.1) LZ (SS n m3) r
    refine k319_15.mpr (k319_16.mpr (k319_17.mpr ⟨rfl, by decide, by decide, by decide, ?_⟩))
    rw [l3, frs_zI (by omega) c3, zL_z]
    show Ev 100 319 19 _ [.ref 562] (IA xs m3.1) LZ (grow (SS n m3) (102, 1, []) 1) r
    rw [g3]
    exact k319_19.mpr (k319_20.mpr (k319_21.mpr hr))
theorem law_run {n : Nat} {xs : Nat → Int32} (hn : n ≤ 5120) : ∃ I' L' S', EvD 101 319 [.ref 1] (I0 xs) (fun _ _ => 0) (S00 n) (.inl (some (.int 1)), I', L', S') ∧ S'.2.2.1 ≤ 601024 ∧ S'.2.2.2 ≤ 7293034 := by
  obtain ⟨I, S, hT, hr⟩ := con_run (n := n) (xs := xs)
  obtain ⟨I', L', S', a1, a2, a3⟩ := lawLoop hn 512 0 10001 100001 I LZ S (.retAddr 0) (.retAddr 0) (.retAddr 0) (by omega) (by omega) hT
  exact ⟨I', L', S', hr _ ((a3 _).mpr rfl), by omega, by omega⟩
