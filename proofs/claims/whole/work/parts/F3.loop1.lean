theorem blkAll {x : Int32} {n i c s : Nat} {xs : Nat → Int32} {I : VI} {L : VL} {S : SW} {v5 v6 v7 : Value} (hn : n ≤ 5120) (hi : i + 10 ≤ n) (hT : TI n xs I S c s) : ∃ I' L' S' w5 w6 w7, TI n xs I' S' (c + 1) (s + 6) ∧ ∀ r, Ev 100 319 40 [.ref 1, .ref 16, .ref 71, .ref 562, .int (i32 i), v5, v6, v7] [.int x] I L S r ↔ Ev 100 319 2373 [.ref 1, .ref 16, .ref 71, .ref 562, .int (i32 i), w5, w6, w7] [] I' L' S' r := by
  by_cases h0 : x = 0
  · obtain ⟨I', L', S', w5, w6, w7, a, b⟩ := blk0 (L := L) (v5 := v5) (v6 := v6) (v7 := v7) hn hi hT
    refine ⟨I', L', S', w5, w6, w7, a, fun r => ?_⟩
    simp only [k319_40, eq_true h0, ↓reduceIte]
    exact b r
  by_cases h1 : x = 1
  · obtain ⟨I', L', S', w5, w6, w7, a, b⟩ := blk1 (L := L) (v5 := v5) (v6 := v6) (v7 := v7) hn hi hT
    refine ⟨I', L', S', w5, w6, w7, a, fun r => ?_⟩
    simp only [k319_40, eq_false h0, eq_true h1, ↓reduceIte]
    exact b r
  by_cases h2 : x = 2
  · obtain ⟨I', L', S', w5, w6, w7, a, b⟩ := blk2 (L := L) (v5 := v5) (v6 := v6) (v7 := v7) hn hi hT
    refine ⟨I', L', S', w5, w6, w7, a, fun r => ?_⟩
    simp only [k319_40, eq_false h0, eq_false h1, eq_true h2, ↓reduceIte]
    exact b r
  by_cases h3 : x = 3
  · obtain ⟨I', L', S', w5, w6, w7, a, b⟩ := blk3 (L := L) (v5 := v5) (v6 := v6) (v7 := v7) hn hi hT
    refine ⟨I', L', S', w5, w6, w7, a, fun r => ?_⟩
    simp only [k319_40, eq_false h0, eq_false h1, eq_false h2, eq_true h3, ↓reduceIte]
    exact b r
  by_cases h4 : x = 4
  · obtain ⟨I', L', S', w5, w6, w7, a, b⟩ := blk4 (L := L) (v5 := v5) (v6 := v6) (v7 := v7) hn hi hT
    refine ⟨I', L', S', w5, w6, w7, a, fun r => ?_⟩
    simp only [k319_40, eq_false h0, eq_false h1, eq_false h2, eq_false h3, eq_true h4, ↓reduceIte]
    exact b r
  by_cases h5 : x = 5
  · obtain ⟨I', L', S', w5, w6, w7, a, b⟩ := blk5 (L := L) (v5 := v5) (v6 := v6) (v7 := v7) hn hi hT
    refine ⟨I', L', S', w5, w6, w7, a, fun r => ?_⟩
    simp only [k319_40, eq_false h0, eq_false h1, eq_false h2, eq_false h3, eq_false h4, eq_true h5, ↓reduceIte]
    exact b r
  by_cases h6 : x = 6
  · obtain ⟨I', L', S', w5, w6, w7, a, b⟩ := blk6 (L := L) (v5 := v5) (v6 := v6) (v7 := v7) hn hi hT
    refine ⟨I', L', S', w5, w6, w7, a, fun r => ?_⟩
    simp only [k319_40, eq_false h0, eq_false h1, eq_false h2, eq_false h3, eq_false h4, eq_false h5, eq_true h6, ↓reduceIte]
    exact b r
  by_cases h7 : x = 7
  · obtain ⟨I', L', S', w5, w6, w7, a, b⟩ := blk7 (L := L) (v5 := v5) (v6 := v6) (v7 := v7) hn hi hT
    refine ⟨I', L', S', w5, w6, w7, a, fun r => ?_⟩
    simp only [k319_40, eq_false h0, eq_false h1, eq_false h2, eq_false h3, eq_false h4, eq_false h5, eq_false h6, eq_true h7, ↓reduceIte]
    exact b r
  by_cases h8 : x = 8
  · obtain ⟨I', L', S', w5, w6, w7, a, b⟩ := blk8 (L := L) (v5 := v5) (v6 := v6) (v7 := v7) hn hi hT
    refine ⟨I', L', S', w5, w6, w7, a, fun r => ?_⟩
    simp only [k319_40, eq_false h0, eq_false h1, eq_false h2, eq_false h3, eq_false h4, eq_false h5, eq_false h6, eq_false h7, eq_true h8, ↓reduceIte]
    exact b r
  by_cases h9 : x = 9
  · obtain ⟨I', L', S', w5, w6, w7, a, b⟩ := blk9 (L := L) (v5 := v5) (v6 := v6) (v7 := v7) hn hi hT
    refine ⟨I', L', S', w5, w6, w7, a, fun r => ?_⟩
    simp only [k319_40, eq_false h0, eq_false h1, eq_false h2, eq_false h3, eq_false h4, eq_false h5, eq_false h6, eq_false h7, eq_false h8, eq_true h9, ↓reduceIte]
    exact b r
  by_cases h10 : x = 10
  · obtain ⟨I', L', S', w5, w6, w7, a, b⟩ := blk10 (L := L) (v5 := v5) (v6 := v6) (v7 := v7) hn hi hT
    refine ⟨I', L', S', w5, w6, w7, a, fun r => ?_⟩
    simp only [k319_40, eq_false h0, eq_false h1, eq_false h2, eq_false h3, eq_false h4, eq_false h5, eq_false h6, eq_false h7, eq_false h8, eq_false h9, eq_true h10, ↓reduceIte]
    exact b r
  by_cases h11 : x = 11
  · obtain ⟨I', L', S', w5, w6, w7, a, b⟩ := blk11 (L := L) (v5 := v5) (v6 := v6) (v7 := v7) hn hi hT
    refine ⟨I', L', S', w5, w6, w7, a, fun r => ?_⟩
    simp only [k319_40, eq_false h0, eq_false h1, eq_false h2, eq_false h3, eq_false h4, eq_false h5, eq_false h6, eq_false h7, eq_false h8, eq_false h9, eq_false h10, eq_true h11, ↓reduceIte]
    exact b r
  by_cases h12 : x = 12
  · obtain ⟨I', L', S', w5, w6, w7, a, b⟩ := blk12 (L := L) (v5 := v5) (v6 := v6) (v7 := v7) hn hi hT
    refine ⟨I', L', S', w5, w6, w7, a, fun r => ?_⟩
    simp only [k319_40, eq_false h0, eq_false h1, eq_false h2, eq_false h3, eq_false h4, eq_false h5, eq_false h6, eq_false h7, eq_false h8, eq_false h9, eq_false h10, eq_false h11, eq_true h12, ↓reduceIte]
    exact b r
  by_cases h13 : x = 13
  · obtain ⟨I', L', S', w5, w6, w7, a, b⟩ := blk13 (L := L) (v5 := v5) (v6 := v6) (v7 := v7) hn hi hT
    refine ⟨I', L', S', w5, w6, w7, a, fun r => ?_⟩
    simp only [k319_40, eq_false h0, eq_false h1, eq_false h2, eq_false h3, eq_false h4, eq_false h5, eq_false h6, eq_false h7, eq_false h8, eq_false h9, eq_false h10, eq_false h11, eq_false h12, eq_true h13, ↓reduceIte]
    exact b r
  by_cases h14 : x = 14
  · obtain ⟨I', L', S', w5, w6, w7, a, b⟩ := blk14 (L := L) (v5 := v5) (v6 := v6) (v7 := v7) hn hi hT
    refine ⟨I', L', S', w5, w6, w7, a, fun r => ?_⟩
    simp only [k319_40, eq_false h0, eq_false h1, eq_false h2, eq_false h3, eq_false h4, eq_false h5, eq_false h6, eq_false h7, eq_false h8, eq_false h9, eq_false h10, eq_false h11, eq_false h12, eq_false h13, eq_true h14, ↓reduceIte]
    exact b r
  by_cases h15 : x = 15
  · obtain ⟨I', L', S', w5, w6, w7, a, b⟩ := blk15 (L := L) (v5 := v5) (v6 := v6) (v7 := v7) hn hi hT
    refine ⟨I', L', S', w5, w6, w7, a, fun r => ?_⟩
    simp only [k319_40, eq_false h0, eq_false h1, eq_false h2, eq_false h3, eq_false h4, eq_false h5, eq_false h6, eq_false h7, eq_false h8, eq_false h9, eq_false h10, eq_false h11, eq_false h12, eq_false h13, eq_false h14, eq_true h15, ↓reduceIte]
    exact b r
  by_cases h16 : x = 16
  · obtain ⟨I', L', S', w5, w6, w7, a, b⟩ := blk16 (L := L) (v5 := v5) (v6 := v6) (v7 := v7) hn hi hT
    refine ⟨I', L', S', w5, w6, w7, a, fun r => ?_⟩
    simp only [k319_40, eq_false h0, eq_false h1, eq_false h2, eq_false h3, eq_false h4, eq_false h5, eq_false h6, eq_false h7, eq_false h8, eq_false h9, eq_false h10, eq_false h11, eq_false h12, eq_false h13, eq_false h14, eq_false h15, eq_true h16, ↓reduceIte]
    exact b r
  by_cases h17 : x = 17
  · obtain ⟨I', L', S', w5, w6, w7, a, b⟩ := blk17 (L := L) (v5 := v5) (v6 := v6) (v7 := v7) hn hi hT
    refine ⟨I', L', S', w5, w6, w7, a, fun r => ?_⟩
    simp only [k319_40, eq_false h0, eq_false h1, eq_false h2, eq_false h3, eq_false h4, eq_false h5, eq_false h6, eq_false h7, eq_false h8, eq_false h9, eq_false h10, eq_false h11, eq_false h12, eq_false h13, eq_false h14, eq_false h15, eq_false h16, eq_true h17, ↓reduceIte]
    exact b r
  by_cases h18 : x = 18
  · obtain ⟨I', L', S', w5, w6, w7, a, b⟩ := blk18 (L := L) (v5 := v5) (v6 := v6) (v7 := v7) hn hi hT
    refine ⟨I', L', S', w5, w6, w7, a, fun r => ?_⟩
    simp only [k319_40, eq_false h0, eq_false h1, eq_false h2, eq_false h3, eq_false h4, eq_false h5, eq_false h6, eq_false h7, eq_false h8, eq_false h9, eq_false h10, eq_false h11, eq_false h12, eq_false h13, eq_false h14, eq_false h15, eq_false h16, eq_false h17, eq_true h18, ↓reduceIte]
    exact b r
  by_cases h19 : x = 19
  · obtain ⟨I', L', S', w5, w6, w7, a, b⟩ := blk19 (L := L) (v5 := v5) (v6 := v6) (v7 := v7) hn hi hT
    refine ⟨I', L', S', w5, w6, w7, a, fun r => ?_⟩
    simp only [k319_40, eq_false h0, eq_false h1, eq_false h2, eq_false h3, eq_false h4, eq_false h5, eq_false h6, eq_false h7, eq_false h8, eq_false h9, eq_false h10, eq_false h11, eq_false h12, eq_false h13, eq_false h14, eq_false h15, eq_false h16, eq_false h17, eq_false h18, eq_true h19, ↓reduceIte]
    exact b r
  by_cases h20 : x = 20
  · obtain ⟨I', L', S', w5, w6, w7, a, b⟩ := blk20 (L := L) (v5 := v5) (v6 := v6) (v7 := v7) hn hi hT
    refine ⟨I', L', S', w5, w6, w7, a, fun r => ?_⟩
    simp only [k319_40, eq_false h0, eq_false h1, eq_false h2, eq_false h3, eq_false h4, eq_false h5, eq_false h6, eq_false h7, eq_false h8, eq_false h9, eq_false h10, eq_false h11, eq_false h12, eq_false h13, eq_false h14, eq_false h15, eq_false h16, eq_false h17, eq_false h18, eq_false h19, eq_true h20, ↓reduceIte]
    exact b r
  by_cases h21 : x = 21
  · obtain ⟨I', L', S', w5, w6, w7, a, b⟩ := blk21 (L := L) (v5 := v5) (v6 := v6) (v7 := v7) hn hi hT
    refine ⟨I', L', S', w5, w6, w7, a, fun r => ?_⟩
    simp only [k319_40, eq_false h0, eq_false h1, eq_false h2, eq_false h3, eq_false h4, eq_false h5, eq_false h6, eq_false h7, eq_false h8, eq_false h9, eq_false h10, eq_false h11, eq_false h12, eq_false h13, eq_false h14, eq_false h15, eq_false h16, eq_false h17, eq_false h18, eq_false h19, eq_false h20, eq_true h21, ↓reduceIte]
    exact b r
  by_cases h22 : x = 22
  · obtain ⟨I', L', S', w5, w6, w7, a, b⟩ := blk22 (L := L) (v5 := v5) (v6 := v6) (v7 := v7) hn hi hT
    refine ⟨I', L', S', w5, w6, w7, a, fun r => ?_⟩
    simp only [k319_40, eq_false h0, eq_false h1, eq_false h2, eq_false h3, eq_false h4, eq_false h5, eq_false h6, eq_false h7, eq_false h8, eq_false h9, eq_false h10, eq_false h11, eq_false h12, eq_false h13, eq_false h14, eq_false h15, eq_false h16, eq_false h17, eq_false h18, eq_false h19, eq_false h20, eq_false h21, eq_true h22, ↓reduceIte]
    exact b r
  by_cases h23 : x = 23
  · obtain ⟨I', L', S', w5, w6, w7, a, b⟩ := blk23 (L := L) (v5 := v5) (v6 := v6) (v7 := v7) hn hi hT
    refine ⟨I', L', S', w5, w6, w7, a, fun r => ?_⟩
    simp only [k319_40, eq_false h0, eq_false h1, eq_false h2, eq_false h3, eq_false h4, eq_false h5, eq_false h6, eq_false h7, eq_false h8, eq_false h9, eq_false h10, eq_false h11, eq_false h12, eq_false h13, eq_false h14, eq_false h15, eq_false h16, eq_false h17, eq_false h18, eq_false h19, eq_false h20, eq_false h21, eq_false h22, eq_true h23, ↓reduceIte]
    exact b r
  by_cases h24 : x = 24
  · obtain ⟨I', L', S', w5, w6, w7, a, b⟩ := blk24 (L := L) (v5 := v5) (v6 := v6) (v7 := v7) hn hi hT
    refine ⟨I', L', S', w5, w6, w7, a, fun r => ?_⟩
    simp only [k319_40, eq_false h0, eq_false h1, eq_false h2, eq_false h3, eq_false h4, eq_false h5, eq_false h6, eq_false h7, eq_false h8, eq_false h9, eq_false h10, eq_false h11, eq_false h12, eq_false h13, eq_false h14, eq_false h15, eq_false h16, eq_false h17, eq_false h18, eq_false h19, eq_false h20, eq_false h21, eq_false h22, eq_false h23, eq_true h24, ↓reduceIte]
    exact b r
  by_cases h25 : x = 25
  · obtain ⟨I', L', S', w5, w6, w7, a, b⟩ := blk25 (L := L) (v5 := v5) (v6 := v6) (v7 := v7) hn hi hT
    refine ⟨I', L', S', w5, w6, w7, a, fun r => ?_⟩
    simp only [k319_40, eq_false h0, eq_false h1, eq_false h2, eq_false h3, eq_false h4, eq_false h5, eq_false h6, eq_false h7, eq_false h8, eq_false h9, eq_false h10, eq_false h11, eq_false h12, eq_false h13, eq_false h14, eq_false h15, eq_false h16, eq_false h17, eq_false h18, eq_false h19, eq_false h20, eq_false h21, eq_false h22, eq_false h23, eq_false h24, eq_true h25, ↓reduceIte]
    exact b r
  by_cases h26 : x = 26
  · obtain ⟨I', L', S', w5, w6, w7, a, b⟩ := blk26 (L := L) (v5 := v5) (v6 := v6) (v7 := v7) hn hi hT
    refine ⟨I', L', S', w5, w6, w7, a, fun r => ?_⟩
    simp only [k319_40, eq_false h0, eq_false h1, eq_false h2, eq_false h3, eq_false h4, eq_false h5, eq_false h6, eq_false h7, eq_false h8, eq_false h9, eq_false h10, eq_false h11, eq_false h12, eq_false h13, eq_false h14, eq_false h15, eq_false h16, eq_false h17, eq_false h18, eq_false h19, eq_false h20, eq_false h21, eq_false h22, eq_false h23, eq_false h24, eq_false h25, eq_true h26, ↓reduceIte]
    exact b r
  by_cases h27 : x = 27
  · obtain ⟨I', L', S', w5, w6, w7, a, b⟩ := blk27 (L := L) (v5 := v5) (v6 := v6) (v7 := v7) hn hi hT
    refine ⟨I', L', S', w5, w6, w7, a, fun r => ?_⟩
    simp only [k319_40, eq_false h0, eq_false h1, eq_false h2, eq_false h3, eq_false h4, eq_false h5, eq_false h6, eq_false h7, eq_false h8, eq_false h9, eq_false h10, eq_false h11, eq_false h12, eq_false h13, eq_false h14, eq_false h15, eq_false h16, eq_false h17, eq_false h18, eq_false h19, eq_false h20, eq_false h21, eq_false h22, eq_false h23, eq_false h24, eq_false h25, eq_false h26, eq_true h27, ↓reduceIte]
    exact b r
  by_cases h28 : x = 28
  · obtain ⟨I', L', S', w5, w6, w7, a, b⟩ := blk28 (L := L) (v5 := v5) (v6 := v6) (v7 := v7) hn hi hT
    refine ⟨I', L', S', w5, w6, w7, a, fun r => ?_⟩
    simp only [k319_40, eq_false h0, eq_false h1, eq_false h2, eq_false h3, eq_false h4, eq_false h5, eq_false h6, eq_false h7, eq_false h8, eq_false h9, eq_false h10, eq_false h11, eq_false h12, eq_false h13, eq_false h14, eq_false h15, eq_false h16, eq_false h17, eq_false h18, eq_false h19, eq_false h20, eq_false h21, eq_false h22, eq_false h23, eq_false h24, eq_false h25, eq_false h26, eq_false h27, eq_true h28, ↓reduceIte]
    exact b r
  by_cases h29 : x = 29
  · obtain ⟨I', L', S', w5, w6, w7, a, b⟩ := blk29 (L := L) (v5 := v5) (v6 := v6) (v7 := v7) hn hi hT
    refine ⟨I', L', S', w5, w6, w7, a, fun r => ?_⟩
    simp only [k319_40, eq_false h0, eq_false h1, eq_false h2, eq_false h3, eq_false h4, eq_false h5, eq_false h6, eq_false h7, eq_false h8, eq_false h9, eq_false h10, eq_false h11, eq_false h12, eq_false h13, eq_false h14, eq_false h15, eq_false h16, eq_false h17, eq_false h18, eq_false h19, eq_false h20, eq_false h21, eq_false h22, eq_false h23, eq_false h24, eq_false h25, eq_false h26, eq_false h27, eq_false h28, eq_true h29, ↓reduceIte]
    exact b r
  by_cases h30 : x = 30
  · obtain ⟨I', L', S', w5, w6, w7, a, b⟩ := blk30 (L := L) (v5 := v5) (v6 := v6) (v7 := v7) hn hi hT
    refine ⟨I', L', S', w5, w6, w7, a, fun r => ?_⟩
    simp only [k319_40, eq_false h0, eq_false h1, eq_false h2, eq_false h3, eq_false h4, eq_false h5, eq_false h6, eq_false h7, eq_false h8, eq_false h9, eq_false h10, eq_false h11, eq_false h12, eq_false h13, eq_false h14, eq_false h15, eq_false h16, eq_false h17, eq_false h18, eq_false h19, eq_false h20, eq_false h21, eq_false h22, eq_false h23, eq_false h24, eq_false h25, eq_false h26, eq_false h27, eq_false h28, eq_false h29, eq_true h30, ↓reduceIte]
    exact b r
  by_cases h31 : x = 31
  · obtain ⟨I', L', S', w5, w6, w7, a, b⟩ := blk31 (L := L) (v5 := v5) (v6 := v6) (v7 := v7) hn hi hT
    refine ⟨I', L', S', w5, w6, w7, a, fun r => ?_⟩
    simp only [k319_40, eq_false h0, eq_false h1, eq_false h2, eq_false h3, eq_false h4, eq_false h5, eq_false h6, eq_false h7, eq_false h8, eq_false h9, eq_false h10, eq_false h11, eq_false h12, eq_false h13, eq_false h14, eq_false h15, eq_false h16, eq_false h17, eq_false h18, eq_false h19, eq_false h20, eq_false h21, eq_false h22, eq_false h23, eq_false h24, eq_false h25, eq_false h26, eq_false h27, eq_false h28, eq_false h29, eq_false h30, eq_true h31, ↓reduceIte]
    exact b r
  by_cases h32 : x = 32
  · obtain ⟨I', L', S', w5, w6, w7, a, b⟩ := blk32 (L := L) (v5 := v5) (v6 := v6) (v7 := v7) hn hi hT
    refine ⟨I', L', S', w5, w6, w7, a, fun r => ?_⟩
    simp only [k319_40, eq_false h0, eq_false h1, eq_false h2, eq_false h3, eq_false h4, eq_false h5, eq_false h6, eq_false h7, eq_false h8, eq_false h9, eq_false h10, eq_false h11, eq_false h12, eq_false h13, eq_false h14, eq_false h15, eq_false h16, eq_false h17, eq_false h18, eq_false h19, eq_false h20, eq_false h21, eq_false h22, eq_false h23, eq_false h24, eq_false h25, eq_false h26, eq_false h27, eq_false h28, eq_false h29, eq_false h30, eq_false h31, eq_true h32, ↓reduceIte]
    exact b r
  by_cases h33 : x = 33
  · obtain ⟨I', L', S', w5, w6, w7, a, b⟩ := blk33 (L := L) (v5 := v5) (v6 := v6) (v7 := v7) hn hi hT
    refine ⟨I', L', S', w5, w6, w7, a, fun r => ?_⟩
    simp only [k319_40, eq_false h0, eq_false h1, eq_false h2, eq_false h3, eq_false h4, eq_false h5, eq_false h6, eq_false h7, eq_false h8, eq_false h9, eq_false h10, eq_false h11, eq_false h12, eq_false h13, eq_false h14, eq_false h15, eq_false h16, eq_false h17, eq_false h18, eq_false h19, eq_false h20, eq_false h21, eq_false h22, eq_false h23, eq_false h24, eq_false h25, eq_false h26, eq_false h27, eq_false h28, eq_false h29, eq_false h30, eq_false h31, eq_false h32, eq_true h33, ↓reduceIte]
    exact b r
  by_cases h34 : x = 34
  · obtain ⟨I', L', S', w5, w6, w7, a, b⟩ := blk34 (L := L) (v5 := v5) (v6 := v6) (v7 := v7) hn hi hT
    refine ⟨I', L', S', w5, w6, w7, a, fun r => ?_⟩
    simp only [k319_40, eq_false h0, eq_false h1, eq_false h2, eq_false h3, eq_false h4, eq_false h5, eq_false h6, eq_false h7, eq_false h8, eq_false h9, eq_false h10, eq_false h11, eq_false h12, eq_false h13, eq_false h14, eq_false h15, eq_false h16, eq_false h17, eq_false h18, eq_false h19, eq_false h20, eq_false h21, eq_false h22, eq_false h23, eq_false h24, eq_false h25, eq_false h26, eq_false h27, eq_false h28, eq_false h29, eq_false h30, eq_false h31, eq_false h32, eq_false h33, eq_true h34, ↓reduceIte]
    exact b r
  by_cases h35 : x = 35
  · obtain ⟨I', L', S', w5, w6, w7, a, b⟩ := blk35 (L := L) (v5 := v5) (v6 := v6) (v7 := v7) hn hi hT
    refine ⟨I', L', S', w5, w6, w7, a, fun r => ?_⟩
    simp only [k319_40, eq_false h0, eq_false h1, eq_false h2, eq_false h3, eq_false h4, eq_false h5, eq_false h6, eq_false h7, eq_false h8, eq_false h9, eq_false h10, eq_false h11, eq_false h12, eq_false h13, eq_false h14, eq_false h15, eq_false h16, eq_false h17, eq_false h18, eq_false h19, eq_false h20, eq_false h21, eq_false h22, eq_false h23, eq_false h24, eq_false h25, eq_false h26, eq_false h27, eq_false h28, eq_false h29, eq_false h30, eq_false h31, eq_false h32, eq_false h33, eq_false h34, eq_true h35, ↓reduceIte]
    exact b r
  by_cases h36 : x = 36
  · obtain ⟨I', L', S', w5, w6, w7, a, b⟩ := blk36 (L := L) (v5 := v5) (v6 := v6) (v7 := v7) hn hi hT
    refine ⟨I', L', S', w5, w6, w7, a, fun r => ?_⟩
    simp only [k319_40, eq_false h0, eq_false h1, eq_false h2, eq_false h3, eq_false h4, eq_false h5, eq_false h6, eq_false h7, eq_false h8, eq_false h9, eq_false h10, eq_false h11, eq_false h12, eq_false h13, eq_false h14, eq_false h15, eq_false h16, eq_false h17, eq_false h18, eq_false h19, eq_false h20, eq_false h21, eq_false h22, eq_false h23, eq_false h24, eq_false h25, eq_false h26, eq_false h27, eq_false h28, eq_false h29, eq_false h30, eq_false h31, eq_false h32, eq_false h33, eq_false h34, eq_false h35, eq_true h36, ↓reduceIte]
    exact b r
  by_cases h37 : x = 37
  · obtain ⟨I', L', S', w5, w6, w7, a, b⟩ := blk37 (L := L) (v5 := v5) (v6 := v6) (v7 := v7) hn hi hT
    refine ⟨I', L', S', w5, w6, w7, a, fun r => ?_⟩
    simp only [k319_40, eq_false h0, eq_false h1, eq_false h2, eq_false h3, eq_false h4, eq_false h5, eq_false h6, eq_false h7, eq_false h8, eq_false h9, eq_false h10, eq_false h11, eq_false h12, eq_false h13, eq_false h14, eq_false h15, eq_false h16, eq_false h17, eq_false h18, eq_false h19, eq_false h20, eq_false h21, eq_false h22, eq_false h23, eq_false h24, eq_false h25, eq_false h26, eq_false h27, eq_false h28, eq_false h29, eq_false h30, eq_false h31, eq_false h32, eq_false h33, eq_false h34, eq_false h35, eq_false h36, eq_true h37, ↓reduceIte]
    exact b r
  obtain ⟨a1, a2, a3, a4, a5, a6⟩ := hT
  refine ⟨I, L, S, v5, v6, v7, ⟨a1, a2, a3, a4, by omega, by omega⟩, fun r => ?_⟩
  simp only [k319_40, eq_false h0, eq_false h1, eq_false h2, eq_false h3, eq_false h4, eq_false h5, eq_false h6, eq_false h7, eq_false h8, eq_false h9, eq_false h10, eq_false h11, eq_false h12, eq_false h13, eq_false h14, eq_false h15, eq_false h16, eq_false h17, eq_false h18, eq_false h19, eq_false h20, eq_false h21, eq_false h22, eq_false h23, eq_false h24, eq_false h25, eq_false h26, eq_false h27, eq_false h28, eq_false h29, eq_false h30, eq_false h31, eq_false h32, eq_false h33, eq_false h34, eq_false h35, eq_false h36, eq_false h37, ↓reduceIte]
