/-! THE LAW: its loop -/
theorem nm10 {n i : Nat} (hn : n ≤ 5120) (hi : i < 100000) : (i32 n - i32 10 < i32 i) = (n < i + 10) := by
  by_cases h : 10 ≤ n
  · rw [i_sub h, i_lt (by omega) (by omega)]
    exact propext ⟨fun _ => by omega, fun _ => by omega⟩
  · have h1 : ∀ k, k < 10 → (i32 k - i32 10).toInt < 0 := by decide
    rw [Int32.lt_iff_toInt_lt, i_int (by omega)]
    have h2 := h1 n (by omega)
    exact propext ⟨fun _ => by omega, fun _ => by omega⟩
theorem blkAll {x : Int32} {n i c s : Nat} {xs : Nat → Int32} {I : VI} {L : VL} {S : SW} {v5 v6 v7 : Value} (hn : n ≤ 5120) (hi : i + 10 ≤ n) (hT : TI n xs I S c s) : ∃ I' L' S' w5 w6 w7, TI n xs I' S' (c + 1) (s + 6) ∧ ∀ r, Ev 100 319 40 [.ref 1, .ref 16, .ref 71, .ref 562, .int (i32 i), v5, v6, v7] [.int x] I L S r ↔ Ev 100 319 2373 [.ref 1, .ref 16, .ref 71, .ref 562, .int (i32 i), w5, w6, w7] [] I' L' S' r := by
  by_cases h0 : x = 0
  · obtain ⟨I', L', S', w5, w6, w7, a, b⟩ := blk0 (L := L) (v5 := v5) (v6 := v6) (v7 := v7) hn hi hT
    refine ⟨I', L', S', w5, w6, w7, a, fun r => ?_⟩
    rw [k319_40, if_pos h0]
    exact b r
  by_cases h1 : x = 1
  · obtain ⟨I', L', S', w5, w6, w7, a, b⟩ := blk1 (L := L) (v5 := v5) (v6 := v6) (v7 := v7) hn hi hT
    refine ⟨I', L', S', w5, w6, w7, a, fun r => ?_⟩
    rw [k319_40, if_neg h0, if_pos h1]
    exact b r
  by_cases h2 : x = 2
  · obtain ⟨I', L', S', w5, w6, w7, a, b⟩ := blk2 (L := L) (v5 := v5) (v6 := v6) (v7 := v7) hn hi hT
    refine ⟨I', L', S', w5, w6, w7, a, fun r => ?_⟩
    rw [k319_40, if_neg h0, if_neg h1, if_pos h2]
    exact b r
  by_cases h3 : x = 3
  · obtain ⟨I', L', S', w5, w6, w7, a, b⟩ := blk3 (L := L) (v5 := v5) (v6 := v6) (v7 := v7) hn hi hT
    refine ⟨I', L', S', w5, w6, w7, a, fun r => ?_⟩
    rw [k319_40, if_neg h0, if_neg h1, if_neg h2, if_pos h3]
    exact b r
  by_cases h4 : x = 4
  · obtain ⟨I', L', S', w5, w6, w7, a, b⟩ := blk4 (L := L) (v5 := v5) (v6 := v6) (v7 := v7) hn hi hT
    refine ⟨I', L', S', w5, w6, w7, a, fun r => ?_⟩
    rw [k319_40, if_neg h0, if_neg h1, if_neg h2, if_neg h3, if_pos h4]
    exact b r
  by_cases h5 : x = 5
  · obtain ⟨I', L', S', w5, w6, w7, a, b⟩ := blk5 (L := L) (v5 := v5) (v6 := v6) (v7 := v7) hn hi hT
    refine ⟨I', L', S', w5, w6, w7, a, fun r => ?_⟩
    rw [k319_40, if_neg h0, if_neg h1, if_neg h2, if_neg h3, if_neg h4, if_pos h5]
    exact b r
  by_cases h6 : x = 6
  · obtain ⟨I', L', S', w5, w6, w7, a, b⟩ := blk6 (L := L) (v5 := v5) (v6 := v6) (v7 := v7) hn hi hT
    refine ⟨I', L', S', w5, w6, w7, a, fun r => ?_⟩
    rw [k319_40, if_neg h0, if_neg h1, if_neg h2, if_neg h3, if_neg h4, if_neg h5, if_pos h6]
    exact b r
  by_cases h7 : x = 7
  · obtain ⟨I', L', S', w5, w6, w7, a, b⟩ := blk7 (L := L) (v5 := v5) (v6 := v6) (v7 := v7) hn hi hT
    refine ⟨I', L', S', w5, w6, w7, a, fun r => ?_⟩
    rw [k319_40, if_neg h0, if_neg h1, if_neg h2, if_neg h3, if_neg h4, if_neg h5, if_neg h6, if_pos h7]
    exact b r
  by_cases h8 : x = 8
  · obtain ⟨I', L', S', w5, w6, w7, a, b⟩ := blk8 (L := L) (v5 := v5) (v6 := v6) (v7 := v7) hn hi hT
    refine ⟨I', L', S', w5, w6, w7, a, fun r => ?_⟩
    rw [k319_40, if_neg h0, if_neg h1, if_neg h2, if_neg h3, if_neg h4, if_neg h5, if_neg h6, if_neg h7, if_pos h8]
    exact b r
  by_cases h9 : x = 9
  · obtain ⟨I', L', S', w5, w6, w7, a, b⟩ := blk9 (L := L) (v5 := v5) (v6 := v6) (v7 := v7) hn hi hT
    refine ⟨I', L', S', w5, w6, w7, a, fun r => ?_⟩
    rw [k319_40, if_neg h0, if_neg h1, if_neg h2, if_neg h3, if_neg h4, if_neg h5, if_neg h6, if_neg h7, if_neg h8, if_pos h9]
    exact b r
  by_cases h10 : x = 10
  · obtain ⟨I', L', S', w5, w6, w7, a, b⟩ := blk10 (L := L) (v5 := v5) (v6 := v6) (v7 := v7) hn hi hT
    refine ⟨I', L', S', w5, w6, w7, a, fun r => ?_⟩
    rw [k319_40, if_neg h0, if_neg h1, if_neg h2, if_neg h3, if_neg h4, if_neg h5, if_neg h6, if_neg h7, if_neg h8, if_neg h9, if_pos h10]
    exact b r
  by_cases h11 : x = 11
  · obtain ⟨I', L', S', w5, w6, w7, a, b⟩ := blk11 (L := L) (v5 := v5) (v6 := v6) (v7 := v7) hn hi hT
    refine ⟨I', L', S', w5, w6, w7, a, fun r => ?_⟩
    rw [k319_40, if_neg h0, if_neg h1, if_neg h2, if_neg h3, if_neg h4, if_neg h5, if_neg h6, if_neg h7, if_neg h8, if_neg h9, if_neg h10, if_pos h11]
    exact b r
  by_cases h12 : x = 12
  · obtain ⟨I', L', S', w5, w6, w7, a, b⟩ := blk12 (L := L) (v5 := v5) (v6 := v6) (v7 := v7) hn hi hT
    refine ⟨I', L', S', w5, w6, w7, a, fun r => ?_⟩
    rw [k319_40, if_neg h0, if_neg h1, if_neg h2, if_neg h3, if_neg h4, if_neg h5, if_neg h6, if_neg h7, if_neg h8, if_neg h9, if_neg h10, if_neg h11, if_pos h12]
    exact b r
  by_cases h13 : x = 13
  · obtain ⟨I', L', S', w5, w6, w7, a, b⟩ := blk13 (L := L) (v5 := v5) (v6 := v6) (v7 := v7) hn hi hT
    refine ⟨I', L', S', w5, w6, w7, a, fun r => ?_⟩
    rw [k319_40, if_neg h0, if_neg h1, if_neg h2, if_neg h3, if_neg h4, if_neg h5, if_neg h6, if_neg h7, if_neg h8, if_neg h9, if_neg h10, if_neg h11, if_neg h12, if_pos h13]
    exact b r
  by_cases h14 : x = 14
  · obtain ⟨I', L', S', w5, w6, w7, a, b⟩ := blk14 (L := L) (v5 := v5) (v6 := v6) (v7 := v7) hn hi hT
    refine ⟨I', L', S', w5, w6, w7, a, fun r => ?_⟩
    rw [k319_40, if_neg h0, if_neg h1, if_neg h2, if_neg h3, if_neg h4, if_neg h5, if_neg h6, if_neg h7, if_neg h8, if_neg h9, if_neg h10, if_neg h11, if_neg h12, if_neg h13, if_pos h14]
    exact b r
  by_cases h15 : x = 15
  · obtain ⟨I', L', S', w5, w6, w7, a, b⟩ := blk15 (L := L) (v5 := v5) (v6 := v6) (v7 := v7) hn hi hT
    refine ⟨I', L', S', w5, w6, w7, a, fun r => ?_⟩
    rw [k319_40, if_neg h0, if_neg h1, if_neg h2, if_neg h3, if_neg h4, if_neg h5, if_neg h6, if_neg h7, if_neg h8, if_neg h9, if_neg h10, if_neg h11, if_neg h12, if_neg h13, if_neg h14, if_pos h15]
    exact b r
  by_cases h16 : x = 16
  · obtain ⟨I', L', S', w5, w6, w7, a, b⟩ := blk16 (L := L) (v5 := v5) (v6 := v6) (v7 := v7) hn hi hT
    refine ⟨I', L', S', w5, w6, w7, a, fun r => ?_⟩
    rw [k319_40, if_neg h0, if_neg h1, if_neg h2, if_neg h3, if_neg h4, if_neg h5, if_neg h6, if_neg h7, if_neg h8, if_neg h9, if_neg h10, if_neg h11, if_neg h12, if_neg h13, if_neg h14, if_neg h15, if_pos h16]
    exact b r
  by_cases h17 : x = 17
  · obtain ⟨I', L', S', w5, w6, w7, a, b⟩ := blk17 (L := L) (v5 := v5) (v6 := v6) (v7 := v7) hn hi hT
    refine ⟨I', L', S', w5, w6, w7, a, fun r => ?_⟩
    rw [k319_40, if_neg h0, if_neg h1, if_neg h2, if_neg h3, if_neg h4, if_neg h5, if_neg h6, if_neg h7, if_neg h8, if_neg h9, if_neg h10, if_neg h11, if_neg h12, if_neg h13, if_neg h14, if_neg h15, if_neg h16, if_pos h17]
    exact b r
  by_cases h18 : x = 18
  · obtain ⟨I', L', S', w5, w6, w7, a, b⟩ := blk18 (L := L) (v5 := v5) (v6 := v6) (v7 := v7) hn hi hT
    refine ⟨I', L', S', w5, w6, w7, a, fun r => ?_⟩
    rw [k319_40, if_neg h0, if_neg h1, if_neg h2, if_neg h3, if_neg h4, if_neg h5, if_neg h6, if_neg h7, if_neg h8, if_neg h9, if_neg h10, if_neg h11, if_neg h12, if_neg h13, if_neg h14, if_neg h15, if_neg h16, if_neg h17, if_pos h18]
    exact b r
  by_cases h19 : x = 19
  · obtain ⟨I', L', S', w5, w6, w7, a, b⟩ := blk19 (L := L) (v5 := v5) (v6 := v6) (v7 := v7) hn hi hT
    refine ⟨I', L', S', w5, w6, w7, a, fun r => ?_⟩
    rw [k319_40, if_neg h0, if_neg h1, if_neg h2, if_neg h3, if_neg h4, if_neg h5, if_neg h6, if_neg h7, if_neg h8, if_neg h9, if_neg h10, if_neg h11, if_neg h12, if_neg h13, if_neg h14, if_neg h15, if_neg h16, if_neg h17, if_neg h18, if_pos h19]
    exact b r
  by_cases h20 : x = 20
  · obtain ⟨I', L', S', w5, w6, w7, a, b⟩ := blk20 (L := L) (v5 := v5) (v6 := v6) (v7 := v7) hn hi hT
    refine ⟨I', L', S', w5, w6, w7, a, fun r => ?_⟩
    rw [k319_40, if_neg h0, if_neg h1, if_neg h2, if_neg h3, if_neg h4, if_neg h5, if_neg h6, if_neg h7, if_neg h8, if_neg h9, if_neg h10, if_neg h11, if_neg h12, if_neg h13, if_neg h14, if_neg h15, if_neg h16, if_neg h17, if_neg h18, if_neg h19, if_pos h20]
    exact b r
  by_cases h21 : x = 21
  · obtain ⟨I', L', S', w5, w6, w7, a, b⟩ := blk21 (L := L) (v5 := v5) (v6 := v6) (v7 := v7) hn hi hT
    refine ⟨I', L', S', w5, w6, w7, a, fun r => ?_⟩
    rw [k319_40, if_neg h0, if_neg h1, if_neg h2, if_neg h3, if_neg h4, if_neg h5, if_neg h6, if_neg h7, if_neg h8, if_neg h9, if_neg h10, if_neg h11, if_neg h12, if_neg h13, if_neg h14, if_neg h15, if_neg h16, if_neg h17, if_neg h18, if_neg h19, if_neg h20, if_pos h21]
    exact b r
  by_cases h22 : x = 22
  · obtain ⟨I', L', S', w5, w6, w7, a, b⟩ := blk22 (L := L) (v5 := v5) (v6 := v6) (v7 := v7) hn hi hT
    refine ⟨I', L', S', w5, w6, w7, a, fun r => ?_⟩
    rw [k319_40, if_neg h0, if_neg h1, if_neg h2, if_neg h3, if_neg h4, if_neg h5, if_neg h6, if_neg h7, if_neg h8, if_neg h9, if_neg h10, if_neg h11, if_neg h12, if_neg h13, if_neg h14, if_neg h15, if_neg h16, if_neg h17, if_neg h18, if_neg h19, if_neg h20, if_neg h21, if_pos h22]
    exact b r
  by_cases h23 : x = 23
  · obtain ⟨I', L', S', w5, w6, w7, a, b⟩ := blk23 (L := L) (v5 := v5) (v6 := v6) (v7 := v7) hn hi hT
    refine ⟨I', L', S', w5, w6, w7, a, fun r => ?_⟩
    rw [k319_40, if_neg h0, if_neg h1, if_neg h2, if_neg h3, if_neg h4, if_neg h5, if_neg h6, if_neg h7, if_neg h8, if_neg h9, if_neg h10, if_neg h11, if_neg h12, if_neg h13, if_neg h14, if_neg h15, if_neg h16, if_neg h17, if_neg h18, if_neg h19, if_neg h20, if_neg h21, if_neg h22, if_pos h23]
    exact b r
  by_cases h24 : x = 24
  · obtain ⟨I', L', S', w5, w6, w7, a, b⟩ := blk24 (L := L) (v5 := v5) (v6 := v6) (v7 := v7) hn hi hT
    refine ⟨I', L', S', w5, w6, w7, a, fun r => ?_⟩
    rw [k319_40, if_neg h0, if_neg h1, if_neg h2, if_neg h3, if_neg h4, if_neg h5, if_neg h6, if_neg h7, if_neg h8, if_neg h9, if_neg h10, if_neg h11, if_neg h12, if_neg h13, if_neg h14, if_neg h15, if_neg h16, if_neg h17, if_neg h18, if_neg h19, if_neg h20, if_neg h21, if_neg h22, if_neg h23, if_pos h24]
    exact b r
  by_cases h25 : x = 25
  · obtain ⟨I', L', S', w5, w6, w7, a, b⟩ := blk25 (L := L) (v5 := v5) (v6 := v6) (v7 := v7) hn hi hT
    refine ⟨I', L', S', w5, w6, w7, a, fun r => ?_⟩
    rw [k319_40, if_neg h0, if_neg h1, if_neg h2, if_neg h3, if_neg h4, if_neg h5, if_neg h6, if_neg h7, if_neg h8, if_neg h9, if_neg h10, if_neg h11, if_neg h12, if_neg h13, if_neg h14, if_neg h15, if_neg h16, if_neg h17, if_neg h18, if_neg h19, if_neg h20, if_neg h21, if_neg h22, if_neg h23, if_neg h24, if_pos h25]
    exact b r
  by_cases h26 : x = 26
  · obtain ⟨I', L', S', w5, w6, w7, a, b⟩ := blk26 (L := L) (v5 := v5) (v6 := v6) (v7 := v7) hn hi hT
    refine ⟨I', L', S', w5, w6, w7, a, fun r => ?_⟩
    rw [k319_40, if_neg h0, if_neg h1, if_neg h2, if_neg h3, if_neg h4, if_neg h5, if_neg h6, if_neg h7, if_neg h8, if_neg h9, if_neg h10, if_neg h11, if_neg h12, if_neg h13, if_neg h14, if_neg h15, if_neg h16, if_neg h17, if_neg h18, if_neg h19, if_neg h20, if_neg h21, if_neg h22, if_neg h23, if_neg h24, if_neg h25, if_pos h26]
    exact b r
  by_cases h27 : x = 27
  · obtain ⟨I', L', S', w5, w6, w7, a, b⟩ := blk27 (L := L) (v5 := v5) (v6 := v6) (v7 := v7) hn hi hT
    refine ⟨I', L', S', w5, w6, w7, a, fun r => ?_⟩
    rw [k319_40, if_neg h0, if_neg h1, if_neg h2, if_neg h3, if_neg h4, if_neg h5, if_neg h6, if_neg h7, if_neg h8, if_neg h9, if_neg h10, if_neg h11, if_neg h12, if_neg h13, if_neg h14, if_neg h15, if_neg h16, if_neg h17, if_neg h18, if_neg h19, if_neg h20, if_neg h21, if_neg h22, if_neg h23, if_neg h24, if_neg h25, if_neg h26, if_pos h27]
    exact b r
  by_cases h28 : x = 28
  · obtain ⟨I', L', S', w5, w6, w7, a, b⟩ := blk28 (L := L) (v5 := v5) (v6 := v6) (v7 := v7) hn hi hT
    refine ⟨I', L', S', w5, w6, w7, a, fun r => ?_⟩
    rw [k319_40, if_neg h0, if_neg h1, if_neg h2, if_neg h3, if_neg h4, if_neg h5, if_neg h6, if_neg h7, if_neg h8, if_neg h9, if_neg h10, if_neg h11, if_neg h12, if_neg h13, if_neg h14, if_neg h15, if_neg h16, if_neg h17, if_neg h18, if_neg h19, if_neg h20, if_neg h21, if_neg h22, if_neg h23, if_neg h24, if_neg h25, if_neg h26, if_neg h27, if_pos h28]
    exact b r
  by_cases h29 : x = 29
  · obtain ⟨I', L', S', w5, w6, w7, a, b⟩ := blk29 (L := L) (v5 := v5) (v6 := v6) (v7 := v7) hn hi hT
    refine ⟨I', L', S', w5, w6, w7, a, fun r => ?_⟩
    rw [k319_40, if_neg h0, if_neg h1, if_neg h2, if_neg h3, if_neg h4, if_neg h5, if_neg h6, if_neg h7, if_neg h8, if_neg h9, if_neg h10, if_neg h11, if_neg h12, if_neg h13, if_neg h14, if_neg h15, if_neg h16, if_neg h17, if_neg h18, if_neg h19, if_neg h20, if_neg h21, if_neg h22, if_neg h23, if_neg h24, if_neg h25, if_neg h26, if_neg h27, if_neg h28, if_pos h29]
    exact b r
  by_cases h30 : x = 30
  · obtain ⟨I', L', S', w5, w6, w7, a, b⟩ := blk30 (L := L) (v5 := v5) (v6 := v6) (v7 := v7) hn hi hT
    refine ⟨I', L', S', w5, w6, w7, a, fun r => ?_⟩
    rw [k319_40, if_neg h0, if_neg h1, if_neg h2, if_neg h3, if_neg h4, if_neg h5, if_neg h6, if_neg h7, if_neg h8, if_neg h9, if_neg h10, if_neg h11, if_neg h12, if_neg h13, if_neg h14, if_neg h15, if_neg h16, if_neg h17, if_neg h18, if_neg h19, if_neg h20, if_neg h21, if_neg h22, if_neg h23, if_neg h24, if_neg h25, if_neg h26, if_neg h27, if_neg h28, if_neg h29, if_pos h30]
    exact b r
  by_cases h31 : x = 31
  · obtain ⟨I', L', S', w5, w6, w7, a, b⟩ := blk31 (L := L) (v5 := v5) (v6 := v6) (v7 := v7) hn hi hT
    refine ⟨I', L', S', w5, w6, w7, a, fun r => ?_⟩
    rw [k319_40, if_neg h0, if_neg h1, if_neg h2, if_neg h3, if_neg h4, if_neg h5, if_neg h6, if_neg h7, if_neg h8, if_neg h9, if_neg h10, if_neg h11, if_neg h12, if_neg h13, if_neg h14, if_neg h15, if_neg h16, if_neg h17, if_neg h18, if_neg h19, if_neg h20, if_neg h21, if_neg h22, if_neg h23, if_neg h24, if_neg h25, if_neg h26, if_neg h27, if_neg h28, if_neg h29, if_neg h30, if_pos h31]
    exact b r
  by_cases h32 : x = 32
  · obtain ⟨I', L', S', w5, w6, w7, a, b⟩ := blk32 (L := L) (v5 := v5) (v6 := v6) (v7 := v7) hn hi hT
    refine ⟨I', L', S', w5, w6, w7, a, fun r => ?_⟩
    rw [k319_40, if_neg h0, if_neg h1, if_neg h2, if_neg h3, if_neg h4, if_neg h5, if_neg h6, if_neg h7, if_neg h8, if_neg h9, if_neg h10, if_neg h11, if_neg h12, if_neg h13, if_neg h14, if_neg h15, if_neg h16, if_neg h17, if_neg h18, if_neg h19, if_neg h20, if_neg h21, if_neg h22, if_neg h23, if_neg h24, if_neg h25, if_neg h26, if_neg h27, if_neg h28, if_neg h29, if_neg h30, if_neg h31, if_pos h32]
    exact b r
  by_cases h33 : x = 33
  · obtain ⟨I', L', S', w5, w6, w7, a, b⟩ := blk33 (L := L) (v5 := v5) (v6 := v6) (v7 := v7) hn hi hT
    refine ⟨I', L', S', w5, w6, w7, a, fun r => ?_⟩
    rw [k319_40, if_neg h0, if_neg h1, if_neg h2, if_neg h3, if_neg h4, if_neg h5, if_neg h6, if_neg h7, if_neg h8, if_neg h9, if_neg h10, if_neg h11, if_neg h12, if_neg h13, if_neg h14, if_neg h15, if_neg h16, if_neg h17, if_neg h18, if_neg h19, if_neg h20, if_neg h21, if_neg h22, if_neg h23, if_neg h24, if_neg h25, if_neg h26, if_neg h27, if_neg h28, if_neg h29, if_neg h30, if_neg h31, if_neg h32, if_pos h33]
    exact b r
  by_cases h34 : x = 34
  · obtain ⟨I', L', S', w5, w6, w7, a, b⟩ := blk34 (L := L) (v5 := v5) (v6 := v6) (v7 := v7) hn hi hT
    refine ⟨I', L', S', w5, w6, w7, a, fun r => ?_⟩
    rw [k319_40, if_neg h0, if_neg h1, if_neg h2, if_neg h3, if_neg h4, if_neg h5, if_neg h6, if_neg h7, if_neg h8, if_neg h9, if_neg h10, if_neg h11, if_neg h12, if_neg h13, if_neg h14, if_neg h15, if_neg h16, if_neg h17, if_neg h18, if_neg h19, if_neg h20, if_neg h21, if_neg h22, if_neg h23, if_neg h24, if_neg h25, if_neg h26, if_neg h27, if_neg h28, if_neg h29, if_neg h30, if_neg h31, if_neg h32, if_neg h33, if_pos h34]
    exact b r
  by_cases h35 : x = 35
  · obtain ⟨I', L', S', w5, w6, w7, a, b⟩ := blk35 (L := L) (v5 := v5) (v6 := v6) (v7 := v7) hn hi hT
    refine ⟨I', L', S', w5, w6, w7, a, fun r => ?_⟩
    rw [k319_40, if_neg h0, if_neg h1, if_neg h2, if_neg h3, if_neg h4, if_neg h5, if_neg h6, if_neg h7, if_neg h8, if_neg h9, if_neg h10, if_neg h11, if_neg h12, if_neg h13, if_neg h14, if_neg h15, if_neg h16, if_neg h17, if_neg h18, if_neg h19, if_neg h20, if_neg h21, if_neg h22, if_neg h23, if_neg h24, if_neg h25, if_neg h26, if_neg h27, if_neg h28, if_neg h29, if_neg h30, if_neg h31, if_neg h32, if_neg h33, if_neg h34, if_pos h35]
    exact b r
  by_cases h36 : x = 36
  · obtain ⟨I', L', S', w5, w6, w7, a, b⟩ := blk36 (L := L) (v5 := v5) (v6 := v6) (v7 := v7) hn hi hT
    refine ⟨I', L', S', w5, w6, w7, a, fun r => ?_⟩
    rw [k319_40, if_neg h0, if_neg h1, if_neg h2, if_neg h3, if_neg h4, if_neg h5, if_neg h6, if_neg h7, if_neg h8, if_neg h9, if_neg h10, if_neg h11, if_neg h12, if_neg h13, if_neg h14, if_neg h15, if_neg h16, if_neg h17, if_neg h18, if_neg h19, if_neg h20, if_neg h21, if_neg h22, if_neg h23, if_neg h24, if_neg h25, if_neg h26, if_neg h27, if_neg h28, if_neg h29, if_neg h30, if_neg h31, if_neg h32, if_neg h33, if_neg h34, if_neg h35, if_pos h36]
    exact b r
  by_cases h37 : x = 37
  · obtain ⟨I', L', S', w5, w6, w7, a, b⟩ := blk37 (L := L) (v5 := v5) (v6 := v6) (v7 := v7) hn hi hT
    refine ⟨I', L', S', w5, w6, w7, a, fun r => ?_⟩
    rw [k319_40, if_neg h0, if_neg h1, if_neg h2, if_neg h3, if_neg h4, if_neg h5, if_neg h6, if_neg h7, if_neg h8, if_neg h9, if_neg h10, if_neg h11, if_neg h12, if_neg h13, if_neg h14, if_neg h15, if_neg h16, if_neg h17, if_neg h18, if_neg h19, if_neg h20, if_neg h21, if_neg h22, if_neg h23, if_neg h24, if_neg h25, if_neg h26, if_neg h27, if_neg h28, if_neg h29, if_neg h30, if_neg h31, if_neg h32, if_neg h33, if_neg h34, if_neg h35, if_neg h36, if_pos h37]
    exact b r
  obtain ⟨a1, a2, a3, a4, a5, a6⟩ := hT
  refine ⟨I, L, S, v5, v6, v7, ⟨a1, a2, a3, a4, by omega, by omega⟩, fun r => ?_⟩
  rw [k319_40, if_neg h0, if_neg h1, if_neg h2, if_neg h3, if_neg h4, if_neg h5, if_neg h6, if_neg h7, if_neg h8, if_neg h9, if_neg h10, if_neg h11, if_neg h12, if_neg h13, if_neg h14, if_neg h15, if_neg h16, if_neg h17, if_neg h18, if_neg h19, if_neg h20, if_neg h21, if_neg h22, if_neg h23, if_neg h24, if_neg h25, if_neg h26, if_neg h27, if_neg h28, if_neg h29, if_neg h30, if_neg h31, if_neg h32, if_neg h33, if_neg h34, if_neg h35, if_neg h36, if_neg h37]
theorem lawEnd {n i : Nat} {I : VI} {L : VL} {S : SW} {v5 v6 v7 : Value} (hn : n ≤ 5120) (hS : S.1 = W0 n) (h : n < i + 10) (hi : i ≤ n + 10) (r : Res) : Ev 100 319 23 [.ref 1, .ref 16, .ref 71, .ref 562, .int (i32 i), v5, v6, v7] [] I L S r ↔ r = (.inl (some (.int 1)), I, L, S) := by
  have q : (i32 n - i32 10 < i32 i) = True := by rw [nm10 hn (by omega)]; exact eq_true h
  simp (disch := first | assumption | omega) only [k319_23, k319_25, k319_26, k319_27, k319_29, k319_30, k319_2379, k319_2380, hS, t_16, f_16_0, f_16_1, f_16_2, f_16_3, f_16_4, f_16_5, f_16_6, f_16_7, f_16_8, f_16_9, f_16_10, f_16_11, f_16_12, f_16_13, t_71, f_71_9, f_71_10, f_71_11, f_71_12, f_71_13, f_71_14, f_71_15, f_71_16, f_71_17, f_71_20, f_71_21, f_71_22, f_71_23, f_71_24, f_71_25, f_71_26, f_71_28, f_71_29, f_71_30, f_71_31, f_71_32, f_71_40, f_71_41, t_562, l_562, t_1, l_1, rowX_s, rowX_n, rowX_f, rowX_2, up_s, up_n, Nat.zero_add, n_m1, i_dec, cat_n, cat_i, cat_r, cat_l, i_add, i_tn, i_vi, i_lt, i_eq, i_shl, n_ltT, n_ltF, n_eqT, n_eqF, n_leT, t_and, nb_0, nb_1, b2_0, b2_n, cont_v, cont_n, ex_eq, u_s, u_c, u_j, ↓reduceIte, ite_not, not_true_eq_false, not_false_eq_true, Bool.false_eq_true, Bool.true_eq_false, false_and, true_and, and_false, and_true, or_self, or_false, false_or, or_true, true_or, cont_x, n_leF, c_1, i_of, c_10, q, nb_1]
theorem lawStep {n i : Nat} {xs : Nat → Int32} {I : VI} {L : VL} {S : SW} {v5 v6 v7 : Value} (hn : n ≤ 5120) (hS : S.1 = W0 n) (hx : ∀ j, I 1 j = xs j) (h : ¬ n < i + 10) (r : Res) : Ev 100 319 23 [.ref 1, .ref 16, .ref 71, .ref 562, .int (i32 i), v5, v6, v7] [] I L S r ↔ Ev 100 319 40 [.ref 1, .ref 16, .ref 71, .ref 562, .int (i32 i), v5, v6, v7] [.int (xs i &&& 63)] I L S r := by
  have q : (i32 n - i32 10 < i32 i) = False := by rw [nm10 hn (by omega)]; exact eq_false h
  simp (disch := first | assumption | omega) only [k319_23, k319_25, k319_26, k319_27, k319_29, k319_30, k319_33, k319_34, k319_36, k319_37, k319_39, hS, t_16, f_16_0, f_16_1, f_16_2, f_16_3, f_16_4, f_16_5, f_16_6, f_16_7, f_16_8, f_16_9, f_16_10, f_16_11, f_16_12, f_16_13, t_71, f_71_9, f_71_10, f_71_11, f_71_12, f_71_13, f_71_14, f_71_15, f_71_16, f_71_17, f_71_20, f_71_21, f_71_22, f_71_23, f_71_24, f_71_25, f_71_26, f_71_28, f_71_29, f_71_30, f_71_31, f_71_32, f_71_40, f_71_41, t_562, l_562, t_1, l_1, rowX_s, rowX_n, rowX_f, rowX_2, up_s, up_n, Nat.zero_add, n_m1, i_dec, cat_n, cat_i, cat_r, cat_l, i_add, i_tn, i_vi, i_lt, i_eq, i_shl, n_ltT, n_ltF, n_eqT, n_eqF, n_leT, t_and, nb_0, nb_1, b2_0, b2_n, cont_v, cont_n, ex_eq, u_s, u_c, u_j, ↓reduceIte, ite_not, not_true_eq_false, not_false_eq_true, Bool.false_eq_true, Bool.true_eq_false, false_and, true_and, and_false, and_true, or_self, or_false, false_or, or_true, true_or, cont_x, n_leF, c_1, i_of, c_10, q, hx]
theorem lawNext {i : Nat} {I : VI} {L : VL} {S : SW} {v5 v6 v7 : Value} (r : Res) : Ev 100 319 2373 [.ref 1, .ref 16, .ref 71, .ref 562, .int (i32 i), v5, v6, v7] [] I L S r ↔ Ev 100 319 23 [.ref 1, .ref 16, .ref 71, .ref 562, .int (i32 (i + 10)), v5, v6, v7] [] I L S r := by
  simp only [k319_2373, k319_2376, c_10, i_add]
theorem lawLoop {n : Nat} {xs : Nat → Int32} (hn : n ≤ 5120) : ∀ m i c s I L S v5 v6 v7, n < i + 10 * m + 10 → i ≤ n + 10 → TI n xs I S c s → ∃ I' L' S', S'.2.2.1 ≤ c + m ∧ S'.2.2.2 ≤ s + 6 * m ∧ ∀ r, Ev 100 319 23 [.ref 1, .ref 16, .ref 71, .ref 562, .int (i32 i), v5, v6, v7] [] I L S r ↔ r = (.inl (some (.int 1)), I', L', S') := by
  intro m
  induction m with
  | zero =>
    intro i c s I L S v5 v6 v7 h hi hT
    obtain ⟨a1, a2, a3, a4, a5, a6⟩ := hT
    exact ⟨I, L, S, by omega, by omega, lawEnd hn a4 (by omega) hi⟩
  | succ m ih =>
    intro i c s I L S v5 v6 v7 h hi hT
    have hT2 := hT
    obtain ⟨a1, a2, a3, a4, a5, a6⟩ := hT2
    by_cases hq : n < i + 10
    · exact ⟨I, L, S, by omega, by omega, lawEnd hn a4 hq hi⟩
    · obtain ⟨I1, L1, S1, w5, w6, w7, t1, b1⟩ := blkAll (x := xs i &&& 63) (L := L) (v5 := v5) (v6 := v6) (v7 := v7) hn (by omega : i + 10 ≤ n) hT
      obtain ⟨I2, L2, S2, c1, c2, c3⟩ := ih (i + 10) (c + 1) (s + 6) I1 L1 S1 w5 w6 w7 (by omega) (by omega) t1
      refine ⟨I2, L2, S2, by omega, by omega, fun r => ?_⟩
      rw [lawStep hn a4 (fun j => by rw [a3]) hq, b1 r, lawNext]
      exact c3 r
