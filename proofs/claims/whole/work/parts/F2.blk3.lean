theorem blk30 {n i c s : Nat} {xs : Nat → Int32} {I : VI} {L : VL} {S : SW} {v5 v6 v7 : Value} (hn : n ≤ 5120) (hi : i + 10 ≤ n) (hT : TI n xs I S c s) : ∃ I' L' S' w5 w6 w7, TI n xs I' S' (c + 1) (s + 6) ∧ ∀ r, Ev 100 319 2018 [.ref 1, .ref 16, .ref 71, .ref 562, .int (i32 i), v5, v6, v7] [] I L S r ↔ Ev 100 319 2373 [.ref 1, .ref 16, .ref 71, .ref 562, .int (i32 i), w5, w6, w7] [] I' L' S' r := by
  obtain ⟨hI, hU, h1, hS, hc, hs⟩ := id hT
  have hx : ∀ j, I 1 j = xs j := fun j => by rw [h1]
  have hl : 16 ≤ S.1.length := by rw [hS]; exact W0_len
  have P : PairM n 99 150 270 [.int (xs (i + 1))] [(0, 1)] I L S := mixP hS (pr_oldest (d := 91) I L S hS hI) (pr_oldest (d := 92) I L S hS hI)
  rcases P with ⟨v, I1, h, ⟨o1, sh⟩, h2⟩ | ⟨E, w, v, I1, he, h, o1, h2⟩
  · obtain ⟨x, rfl⟩ := shp_i (y := 150) (by decide +kernel) sh
    have hc' := hA_316 (d := 99) hS h
    obtain ⟨I2, L2, l1, m2, o2, inv2, z2, s2⟩ := h2 (uL L 562 0 x.toInt64) S hS
    rw [uL_s] at l1
    have i1 : ∀ j, I1 1 j = xs j := fun j => by rw [o1 1 (by omega)]; exact hx j
    refine ⟨I2, L2, S, .int (i32 0), .int x, v7, ⟨inv2, fun j hj => by rw [o2 2 (by omega)]; exact hU j hj, s2.trans h1, hS, by omega, by omega⟩, fun r => ?_⟩
    simp (disch := first | assumption | omega) only [k319_2018, k319_2019, k319_2020, k319_2022, k319_2023, k319_2024, k319_2025, k319_2026, k319_2029, k319_2031, k319_2032, k319_2033, k319_2035, k319_2036, k319_2037, k319_2038, k319_2041, k319_2043, k319_2044, k319_2047, k319_2049, k319_2052, k319_2053, k319_2054, k319_2056, k319_2059, k319_2060, k319_2061, k319_2062, k319_2064, k319_2065, k319_2066, k319_2069, k319_2070, k319_2071, c_0, c_1, c_2, c_3, c_4, c_5, c_6, c_7, c_8, c_9, hS, t_16, f_16_0, f_16_1, f_16_2, f_16_3, f_16_4, f_16_5, f_16_6, f_16_7, f_16_8, f_16_9, f_16_10, f_16_11, f_16_12, f_16_13, t_71, f_71_9, f_71_10, f_71_11, f_71_12, f_71_13, f_71_14, f_71_15, f_71_16, f_71_17, f_71_20, f_71_21, f_71_22, f_71_23, f_71_24, f_71_25, f_71_26, f_71_28, f_71_29, f_71_30, f_71_31, f_71_32, f_71_40, f_71_41, t_562, l_562, t_1, l_1, rowX_s, rowX_n, rowX_f, rowX_2, up_s, up_n, Nat.zero_add, n_m1, i_dec, cat_n, cat_i, cat_r, cat_l, i_add, i_tn, i_vi, i_lt, i_eq, i_shl, n_ltT, n_ltF, n_eqT, n_eqF, n_leT, t_and, nb_0, nb_1, b2_0, b2_n, cont_v, cont_n, ex_eq, u_s, u_c, u_j, ↓reduceIte, ite_not, not_true_eq_false, not_false_eq_true, Bool.false_eq_true, Bool.true_eq_false, false_and, true_and, and_false, and_true, or_self, or_false, false_or, or_true, true_or, cont_x, n_leF, c_1, hx, i1, hc', m2, d168 hS, z2, l1, lc_self]
  · simp only [List.mem_cons, Prod.mk.injEq, List.not_mem_nil, or_false] at he
    rcases he with ⟨rfl, rfl⟩
    · have hc' := hB_316_0 (d := 99) hS h
      obtain ⟨I2, m2, sh2, o2, inv2, z2, s2⟩ := h2 L (bump S) hS
      obtain ⟨x, rfl⟩ := shp_i (y := 270) (by decide +kernel) sh2
      have i1 : ∀ j, I1 1 j = xs j := fun j => by rw [o1 1 (by omega)]; exact hx j
      refine ⟨I2, L, bump S, .int (i32 1), .int x, v7, ⟨inv2, fun j hj => by rw [o2 2 (by omega)]; exact hU j hj, s2.trans h1, hS, by show S.2.2.1 + 1 ≤ c + 1; omega, by show S.2.2.2 + 6 ≤ s + 6; omega⟩, fun r => ?_⟩
      simp (disch := first | assumption | omega) only [k319_2018, k319_2019, k319_2020, k319_2022, k319_2023, k319_2024, k319_2025, k319_2026, k319_2029, k319_2031, k319_2032, k319_2033, k319_2035, k319_2036, k319_2037, k319_2038, k319_2041, k319_2043, k319_2044, k319_2047, k319_2049, k319_2052, k319_2053, k319_2054, k319_2056, k319_2059, k319_2060, k319_2061, k319_2062, k319_2064, k319_2065, k319_2066, k319_2069, k319_2070, k319_2071, c_0, c_1, c_2, c_3, c_4, c_5, c_6, c_7, c_8, c_9, hS, t_16, f_16_0, f_16_1, f_16_2, f_16_3, f_16_4, f_16_5, f_16_6, f_16_7, f_16_8, f_16_9, f_16_10, f_16_11, f_16_12, f_16_13, t_71, f_71_9, f_71_10, f_71_11, f_71_12, f_71_13, f_71_14, f_71_15, f_71_16, f_71_17, f_71_20, f_71_21, f_71_22, f_71_23, f_71_24, f_71_25, f_71_26, f_71_28, f_71_29, f_71_30, f_71_31, f_71_32, f_71_40, f_71_41, t_562, l_562, t_1, l_1, rowX_s, rowX_n, rowX_f, rowX_2, up_s, up_n, Nat.zero_add, n_m1, i_dec, cat_n, cat_i, cat_r, cat_l, i_add, i_tn, i_vi, i_lt, i_eq, i_shl, n_ltT, n_ltF, n_eqT, n_eqF, n_leT, t_and, nb_0, nb_1, b2_0, b2_n, cont_v, cont_n, ex_eq, u_s, u_c, u_j, ↓reduceIte, ite_not, not_true_eq_false, not_false_eq_true, Bool.false_eq_true, Bool.true_eq_false, false_and, true_and, and_false, and_true, or_self, or_false, false_or, or_true, true_or, cont_x, n_leF, c_1, bump_S, hx, i1, hc', m2, d168 (bump_S.trans hS), z2]

theorem blk31 {n i c s : Nat} {xs : Nat → Int32} {I : VI} {L : VL} {S : SW} {v5 v6 v7 : Value} (hn : n ≤ 5120) (hi : i + 10 ≤ n) (hT : TI n xs I S c s) : ∃ I' L' S' w5 w6 w7, TI n xs I' S' (c + 1) (s + 6) ∧ ∀ r, Ev 100 319 2074 [.ref 1, .ref 16, .ref 71, .ref 562, .int (i32 i), v5, v6, v7] [] I L S r ↔ Ev 100 319 2373 [.ref 1, .ref 16, .ref 71, .ref 562, .int (i32 i), w5, w6, w7] [] I' L' S' r := by
  obtain ⟨hI, hU, h1, hS, hc, hs⟩ := id hT
  have hx : ∀ j, I 1 j = xs j := fun j => by rw [h1]
  have hl : 16 ≤ S.1.length := by rw [hS]; exact W0_len
  rcases pr_thirst  (d := 92) I L S hS hI with ⟨v, I1, h, h2⟩ | ⟨E, w, v, I1, he, _⟩
  · have k1 := keep 100 _ _ _ _ _ _ ((h _).mpr rfl) hl
    obtain ⟨x, rfl⟩ := shp_i (y := 151) (by decide +kernel) k1.2
    obtain ⟨I2, L2, l1, m2, inv2, z2, s2⟩ := h2 L S hS
    have k2 := keep 100 _ _ _ _ _ _ ((m2 _).mpr rfl) hl
    have i1 : ∀ j, I1 1 j = xs j := fun j => (congrFun (k1.1.1 1 (by omega)) j).trans (hx j)
    have o2 : old I I2 := old_t k1.1.1 k2.1.1
    refine ⟨I2, L2, S, v5, v6, v7, ⟨inv2, fun j hj => by rw [o2 2 (by omega)]; exact hU j hj, s2.trans h1, hS, by omega, by omega⟩, fun r => ?_⟩
    simp (disch := first | assumption | omega) only [k319_2074, k319_2075, k319_2078, k319_2079, k319_2082, k319_2085, k319_2086, c_0, c_1, c_2, c_3, c_4, c_5, c_6, c_7, c_8, c_9, hS, t_16, f_16_0, f_16_1, f_16_2, f_16_3, f_16_4, f_16_5, f_16_6, f_16_7, f_16_8, f_16_9, f_16_10, f_16_11, f_16_12, f_16_13, t_71, f_71_9, f_71_10, f_71_11, f_71_12, f_71_13, f_71_14, f_71_15, f_71_16, f_71_17, f_71_20, f_71_21, f_71_22, f_71_23, f_71_24, f_71_25, f_71_26, f_71_28, f_71_29, f_71_30, f_71_31, f_71_32, f_71_40, f_71_41, t_562, l_562, t_1, l_1, rowX_s, rowX_n, rowX_f, rowX_2, up_s, up_n, Nat.zero_add, n_m1, i_dec, cat_n, cat_i, cat_r, cat_l, i_add, i_tn, i_vi, i_lt, i_eq, i_shl, n_ltT, n_ltF, n_eqT, n_eqF, n_leT, t_and, nb_0, nb_1, b2_0, b2_n, cont_v, cont_n, ex_eq, u_s, u_c, u_j, ↓reduceIte, ite_not, not_true_eq_false, not_false_eq_true, Bool.false_eq_true, Bool.true_eq_false, false_and, true_and, and_false, and_true, or_self, or_false, false_or, or_true, true_or, cont_x, n_leF, c_1, hx, i1, h, m2]
  · cases he

theorem blk32 {n i c s : Nat} {xs : Nat → Int32} {I : VI} {L : VL} {S : SW} {v5 v6 v7 : Value} (hn : n ≤ 5120) (hi : i + 10 ≤ n) (hT : TI n xs I S c s) : ∃ I' L' S' w5 w6 w7, TI n xs I' S' (c + 1) (s + 6) ∧ ∀ r, Ev 100 319 2087 [.ref 1, .ref 16, .ref 71, .ref 562, .int (i32 i), v5, v6, v7] [] I L S r ↔ Ev 100 319 2373 [.ref 1, .ref 16, .ref 71, .ref 562, .int (i32 i), w5, w6, w7] [] I' L' S' r := by
  obtain ⟨hI, hU, h1, hS, hc, hs⟩ := id hT
  have hx : ∀ j, I 1 j = xs j := fun j => by rw [h1]
  have hl : 16 ≤ S.1.length := by rw [hS]; exact W0_len
  have P : PairM n 99 152 277 [.int (xs (i + 1)), .int (xs (i + 2)), .int (xs (i + 3)), .int (xs (i + 4))] [(0, 1)] I L S := mixP hS (pr_year (d := 91) I L S hS hI) (pr_year (d := 92) I L S hS hI)
  rcases P with ⟨v, I1, h, ⟨o1, sh⟩, h2⟩ | ⟨E, w, v, I1, he, h, o1, h2⟩
  · obtain ⟨x, rfl⟩ := shp_i (y := 152) (by decide +kernel) sh
    have hc' := hA_317 (d := 99) hS h
    obtain ⟨I2, L2, l1, m2, o2, inv2, z2, s2⟩ := h2 (uL L 562 0 x.toInt64) S hS
    rw [uL_s] at l1
    have i1 : ∀ j, I1 1 j = xs j := fun j => by rw [o1 1 (by omega)]; exact hx j
    refine ⟨I2, L2, S, .int (i32 0), .int x, v7, ⟨inv2, fun j hj => by rw [o2 2 (by omega)]; exact hU j hj, s2.trans h1, hS, by omega, by omega⟩, fun r => ?_⟩
    simp (disch := first | assumption | omega) only [k319_2087, k319_2088, k319_2089, k319_2091, k319_2092, k319_2093, k319_2094, k319_2095, k319_2097, k319_2098, k319_2099, k319_2100, k319_2101, k319_2103, k319_2104, k319_2105, k319_2106, k319_2107, k319_2109, k319_2110, k319_2111, k319_2112, k319_2113, k319_2116, k319_2118, k319_2119, k319_2120, k319_2122, k319_2123, k319_2124, k319_2125, k319_2126, k319_2128, k319_2129, k319_2130, k319_2131, k319_2132, k319_2134, k319_2135, k319_2136, k319_2137, k319_2138, k319_2140, k319_2141, k319_2142, k319_2143, k319_2146, k319_2148, k319_2149, k319_2152, k319_2154, k319_2157, k319_2158, k319_2159, k319_2161, k319_2164, k319_2165, k319_2166, k319_2167, k319_2169, k319_2170, k319_2171, k319_2174, k319_2175, k319_2176, c_0, c_1, c_2, c_3, c_4, c_5, c_6, c_7, c_8, c_9, hS, t_16, f_16_0, f_16_1, f_16_2, f_16_3, f_16_4, f_16_5, f_16_6, f_16_7, f_16_8, f_16_9, f_16_10, f_16_11, f_16_12, f_16_13, t_71, f_71_9, f_71_10, f_71_11, f_71_12, f_71_13, f_71_14, f_71_15, f_71_16, f_71_17, f_71_20, f_71_21, f_71_22, f_71_23, f_71_24, f_71_25, f_71_26, f_71_28, f_71_29, f_71_30, f_71_31, f_71_32, f_71_40, f_71_41, t_562, l_562, t_1, l_1, rowX_s, rowX_n, rowX_f, rowX_2, up_s, up_n, Nat.zero_add, n_m1, i_dec, cat_n, cat_i, cat_r, cat_l, i_add, i_tn, i_vi, i_lt, i_eq, i_shl, n_ltT, n_ltF, n_eqT, n_eqF, n_leT, t_and, nb_0, nb_1, b2_0, b2_n, cont_v, cont_n, ex_eq, u_s, u_c, u_j, ↓reduceIte, ite_not, not_true_eq_false, not_false_eq_true, Bool.false_eq_true, Bool.true_eq_false, false_and, true_and, and_false, and_true, or_self, or_false, false_or, or_true, true_or, cont_x, n_leF, c_1, hx, i1, hc', m2, d168 hS, z2, l1, lc_self]
  · simp only [List.mem_cons, Prod.mk.injEq, List.not_mem_nil, or_false] at he
    rcases he with ⟨rfl, rfl⟩
    · have hc' := hB_317_0 (d := 99) hS h
      obtain ⟨I2, m2, sh2, o2, inv2, z2, s2⟩ := h2 L (bump S) hS
      obtain ⟨x, rfl⟩ := shp_i (y := 277) (by decide +kernel) sh2
      have i1 : ∀ j, I1 1 j = xs j := fun j => by rw [o1 1 (by omega)]; exact hx j
      refine ⟨I2, L, bump S, .int (i32 1), .int x, v7, ⟨inv2, fun j hj => by rw [o2 2 (by omega)]; exact hU j hj, s2.trans h1, hS, by show S.2.2.1 + 1 ≤ c + 1; omega, by show S.2.2.2 + 6 ≤ s + 6; omega⟩, fun r => ?_⟩
      simp (disch := first | assumption | omega) only [k319_2087, k319_2088, k319_2089, k319_2091, k319_2092, k319_2093, k319_2094, k319_2095, k319_2097, k319_2098, k319_2099, k319_2100, k319_2101, k319_2103, k319_2104, k319_2105, k319_2106, k319_2107, k319_2109, k319_2110, k319_2111, k319_2112, k319_2113, k319_2116, k319_2118, k319_2119, k319_2120, k319_2122, k319_2123, k319_2124, k319_2125, k319_2126, k319_2128, k319_2129, k319_2130, k319_2131, k319_2132, k319_2134, k319_2135, k319_2136, k319_2137, k319_2138, k319_2140, k319_2141, k319_2142, k319_2143, k319_2146, k319_2148, k319_2149, k319_2152, k319_2154, k319_2157, k319_2158, k319_2159, k319_2161, k319_2164, k319_2165, k319_2166, k319_2167, k319_2169, k319_2170, k319_2171, k319_2174, k319_2175, k319_2176, c_0, c_1, c_2, c_3, c_4, c_5, c_6, c_7, c_8, c_9, hS, t_16, f_16_0, f_16_1, f_16_2, f_16_3, f_16_4, f_16_5, f_16_6, f_16_7, f_16_8, f_16_9, f_16_10, f_16_11, f_16_12, f_16_13, t_71, f_71_9, f_71_10, f_71_11, f_71_12, f_71_13, f_71_14, f_71_15, f_71_16, f_71_17, f_71_20, f_71_21, f_71_22, f_71_23, f_71_24, f_71_25, f_71_26, f_71_28, f_71_29, f_71_30, f_71_31, f_71_32, f_71_40, f_71_41, t_562, l_562, t_1, l_1, rowX_s, rowX_n, rowX_f, rowX_2, up_s, up_n, Nat.zero_add, n_m1, i_dec, cat_n, cat_i, cat_r, cat_l, i_add, i_tn, i_vi, i_lt, i_eq, i_shl, n_ltT, n_ltF, n_eqT, n_eqF, n_leT, t_and, nb_0, nb_1, b2_0, b2_n, cont_v, cont_n, ex_eq, u_s, u_c, u_j, ↓reduceIte, ite_not, not_true_eq_false, not_false_eq_true, Bool.false_eq_true, Bool.true_eq_false, false_and, true_and, and_false, and_true, or_self, or_false, false_or, or_true, true_or, cont_x, n_leF, c_1, bump_S, hx, i1, hc', m2, d168 (bump_S.trans hS), z2]

theorem blk33 {n i c s : Nat} {xs : Nat → Int32} {I : VI} {L : VL} {S : SW} {v5 v6 v7 : Value} (hn : n ≤ 5120) (hi : i + 10 ≤ n) (hT : TI n xs I S c s) : ∃ I' L' S' w5 w6 w7, TI n xs I' S' (c + 1) (s + 6) ∧ ∀ r, Ev 100 319 2179 [.ref 1, .ref 16, .ref 71, .ref 562, .int (i32 i), v5, v6, v7] [] I L S r ↔ Ev 100 319 2373 [.ref 1, .ref 16, .ref 71, .ref 562, .int (i32 i), w5, w6, w7] [] I' L' S' r := by
  obtain ⟨hI, hU, h1, hS, hc, hs⟩ := id hT
  have hx : ∀ j, I 1 j = xs j := fun j => by rw [h1]
  have hl : 16 ≤ S.1.length := by rw [hS]; exact W0_len
  have P : PairM n 99 153 278 [.int (xs (i + 1)), .int (xs (i + 2)), .int (xs (i + 3)), .int (xs (i + 4)), .int (xs (i + 5)), .int (xs (i + 6))] [(0, 1)] I L S := mixP hS (pr_span (d := 91) I L S hS hI) (pr_span (d := 92) I L S hS hI)
  rcases P with ⟨v, I1, h, ⟨o1, sh⟩, h2⟩ | ⟨E, w, v, I1, he, h, o1, h2⟩
  · obtain ⟨x, rfl⟩ := shp_i (y := 153) (by decide +kernel) sh
    have hc' := hA_318 (d := 99) hS h
    obtain ⟨I2, L2, l1, m2, o2, inv2, z2, s2⟩ := h2 (uL L 562 0 x.toInt64) S hS
    rw [uL_s] at l1
    have i1 : ∀ j, I1 1 j = xs j := fun j => by rw [o1 1 (by omega)]; exact hx j
    refine ⟨I2, L2, S, .int (i32 0), .int x, v7, ⟨inv2, fun j hj => by rw [o2 2 (by omega)]; exact hU j hj, s2.trans h1, hS, by omega, by omega⟩, fun r => ?_⟩
    simp (disch := first | assumption | omega) only [k319_2179, k319_2180, k319_2181, k319_2183, k319_2184, k319_2185, k319_2186, k319_2187, k319_2189, k319_2190, k319_2191, k319_2192, k319_2193, k319_2195, k319_2196, k319_2197, k319_2198, k319_2199, k319_2201, k319_2202, k319_2203, k319_2204, k319_2205, k319_2207, k319_2208, k319_2209, k319_2210, k319_2211, k319_2213, k319_2215, k319_2216, k319_2217, k319_2218, k319_2221, k319_2223, k319_2224, k319_2225, k319_2227, k319_2228, k319_2229, k319_2230, k319_2231, k319_2233, k319_2234, k319_2235, k319_2236, k319_2237, k319_2239, k319_2240, k319_2241, k319_2242, k319_2243, k319_2245, k319_2246, k319_2247, k319_2248, k319_2249, k319_2251, k319_2252, k319_2253, k319_2254, k319_2255, k319_2257, k319_2259, k319_2260, k319_2261, k319_2264, k319_2266, k319_2267, k319_2270, k319_2272, k319_2275, k319_2276, k319_2277, k319_2279, k319_2282, k319_2283, k319_2284, k319_2285, k319_2287, k319_2288, k319_2289, k319_2292, k319_2293, k319_2294, c_0, c_1, c_2, c_3, c_4, c_5, c_6, c_7, c_8, c_9, hS, t_16, f_16_0, f_16_1, f_16_2, f_16_3, f_16_4, f_16_5, f_16_6, f_16_7, f_16_8, f_16_9, f_16_10, f_16_11, f_16_12, f_16_13, t_71, f_71_9, f_71_10, f_71_11, f_71_12, f_71_13, f_71_14, f_71_15, f_71_16, f_71_17, f_71_20, f_71_21, f_71_22, f_71_23, f_71_24, f_71_25, f_71_26, f_71_28, f_71_29, f_71_30, f_71_31, f_71_32, f_71_40, f_71_41, t_562, l_562, t_1, l_1, rowX_s, rowX_n, rowX_f, rowX_2, up_s, up_n, Nat.zero_add, n_m1, i_dec, cat_n, cat_i, cat_r, cat_l, i_add, i_tn, i_vi, i_lt, i_eq, i_shl, n_ltT, n_ltF, n_eqT, n_eqF, n_leT, t_and, nb_0, nb_1, b2_0, b2_n, cont_v, cont_n, ex_eq, u_s, u_c, u_j, ↓reduceIte, ite_not, not_true_eq_false, not_false_eq_true, Bool.false_eq_true, Bool.true_eq_false, false_and, true_and, and_false, and_true, or_self, or_false, false_or, or_true, true_or, cont_x, n_leF, c_1, hx, i1, hc', m2, d168 hS, z2, l1, lc_self]
  · simp only [List.mem_cons, Prod.mk.injEq, List.not_mem_nil, or_false] at he
    rcases he with ⟨rfl, rfl⟩
    · have hc' := hB_318_0 (d := 99) hS h
      obtain ⟨I2, m2, sh2, o2, inv2, z2, s2⟩ := h2 L (bump S) hS
      obtain ⟨x, rfl⟩ := shp_i (y := 278) (by decide +kernel) sh2
      have i1 : ∀ j, I1 1 j = xs j := fun j => by rw [o1 1 (by omega)]; exact hx j
      refine ⟨I2, L, bump S, .int (i32 1), .int x, v7, ⟨inv2, fun j hj => by rw [o2 2 (by omega)]; exact hU j hj, s2.trans h1, hS, by show S.2.2.1 + 1 ≤ c + 1; omega, by show S.2.2.2 + 6 ≤ s + 6; omega⟩, fun r => ?_⟩
      simp (disch := first | assumption | omega) only [k319_2179, k319_2180, k319_2181, k319_2183, k319_2184, k319_2185, k319_2186, k319_2187, k319_2189, k319_2190, k319_2191, k319_2192, k319_2193, k319_2195, k319_2196, k319_2197, k319_2198, k319_2199, k319_2201, k319_2202, k319_2203, k319_2204, k319_2205, k319_2207, k319_2208, k319_2209, k319_2210, k319_2211, k319_2213, k319_2215, k319_2216, k319_2217, k319_2218, k319_2221, k319_2223, k319_2224, k319_2225, k319_2227, k319_2228, k319_2229, k319_2230, k319_2231, k319_2233, k319_2234, k319_2235, k319_2236, k319_2237, k319_2239, k319_2240, k319_2241, k319_2242, k319_2243, k319_2245, k319_2246, k319_2247, k319_2248, k319_2249, k319_2251, k319_2252, k319_2253, k319_2254, k319_2255, k319_2257, k319_2259, k319_2260, k319_2261, k319_2264, k319_2266, k319_2267, k319_2270, k319_2272, k319_2275, k319_2276, k319_2277, k319_2279, k319_2282, k319_2283, k319_2284, k319_2285, k319_2287, k319_2288, k319_2289, k319_2292, k319_2293, k319_2294, c_0, c_1, c_2, c_3, c_4, c_5, c_6, c_7, c_8, c_9, hS, t_16, f_16_0, f_16_1, f_16_2, f_16_3, f_16_4, f_16_5, f_16_6, f_16_7, f_16_8, f_16_9, f_16_10, f_16_11, f_16_12, f_16_13, t_71, f_71_9, f_71_10, f_71_11, f_71_12, f_71_13, f_71_14, f_71_15, f_71_16, f_71_17, f_71_20, f_71_21, f_71_22, f_71_23, f_71_24, f_71_25, f_71_26, f_71_28, f_71_29, f_71_30, f_71_31, f_71_32, f_71_40, f_71_41, t_562, l_562, t_1, l_1, rowX_s, rowX_n, rowX_f, rowX_2, up_s, up_n, Nat.zero_add, n_m1, i_dec, cat_n, cat_i, cat_r, cat_l, i_add, i_tn, i_vi, i_lt, i_eq, i_shl, n_ltT, n_ltF, n_eqT, n_eqF, n_leT, t_and, nb_0, nb_1, b2_0, b2_n, cont_v, cont_n, ex_eq, u_s, u_c, u_j, ↓reduceIte, ite_not, not_true_eq_false, not_false_eq_true, Bool.false_eq_true, Bool.true_eq_false, false_and, true_and, and_false, and_true, or_self, or_false, false_or, or_true, true_or, cont_x, n_leF, c_1, bump_S, hx, i1, hc', m2, d168 (bump_S.trans hS), z2]

theorem blk34 {n i c s : Nat} {xs : Nat → Int32} {I : VI} {L : VL} {S : SW} {v5 v6 v7 : Value} (hn : n ≤ 5120) (hi : i + 10 ≤ n) (hT : TI n xs I S c s) : ∃ I' L' S' w5 w6 w7, TI n xs I' S' (c + 1) (s + 6) ∧ ∀ r, Ev 100 319 2297 [.ref 1, .ref 16, .ref 71, .ref 562, .int (i32 i), v5, v6, v7] [] I L S r ↔ Ev 100 319 2373 [.ref 1, .ref 16, .ref 71, .ref 562, .int (i32 i), w5, w6, w7] [] I' L' S' r := by
  obtain ⟨hI, hU, h1, hS, hc, hs⟩ := id hT
  have hx : ∀ j, I 1 j = xs j := fun j => by rw [h1]
  have hl : 16 ≤ S.1.length := by rw [hS]; exact W0_len
  rcases pr_image  (d := 92) I L S hS hI with ⟨v, I1, h, h2⟩ | ⟨E, w, v, I1, he, _⟩
  · have k1 := keep 100 _ _ _ _ _ _ ((h _).mpr rfl) hl
    obtain ⟨x, rfl⟩ := shp_i (y := 154) (by decide +kernel) k1.2
    obtain ⟨I2, L2, l1, m2, inv2, z2, s2⟩ := h2 L S hS
    have k2 := keep 100 _ _ _ _ _ _ ((m2 _).mpr rfl) hl
    have i1 : ∀ j, I1 1 j = xs j := fun j => (congrFun (k1.1.1 1 (by omega)) j).trans (hx j)
    have o2 : old I I2 := old_t k1.1.1 k2.1.1
    refine ⟨I2, L2, S, v5, v6, v7, ⟨inv2, fun j hj => by rw [o2 2 (by omega)]; exact hU j hj, s2.trans h1, hS, by omega, by omega⟩, fun r => ?_⟩
    simp (disch := first | assumption | omega) only [k319_2297, k319_2298, k319_2301, k319_2302, k319_2305, k319_2308, k319_2309, c_0, c_1, c_2, c_3, c_4, c_5, c_6, c_7, c_8, c_9, hS, t_16, f_16_0, f_16_1, f_16_2, f_16_3, f_16_4, f_16_5, f_16_6, f_16_7, f_16_8, f_16_9, f_16_10, f_16_11, f_16_12, f_16_13, t_71, f_71_9, f_71_10, f_71_11, f_71_12, f_71_13, f_71_14, f_71_15, f_71_16, f_71_17, f_71_20, f_71_21, f_71_22, f_71_23, f_71_24, f_71_25, f_71_26, f_71_28, f_71_29, f_71_30, f_71_31, f_71_32, f_71_40, f_71_41, t_562, l_562, t_1, l_1, rowX_s, rowX_n, rowX_f, rowX_2, up_s, up_n, Nat.zero_add, n_m1, i_dec, cat_n, cat_i, cat_r, cat_l, i_add, i_tn, i_vi, i_lt, i_eq, i_shl, n_ltT, n_ltF, n_eqT, n_eqF, n_leT, t_and, nb_0, nb_1, b2_0, b2_n, cont_v, cont_n, ex_eq, u_s, u_c, u_j, ↓reduceIte, ite_not, not_true_eq_false, not_false_eq_true, Bool.false_eq_true, Bool.true_eq_false, false_and, true_and, and_false, and_true, or_self, or_false, false_or, or_true, true_or, cont_x, n_leF, c_1, hx, i1, h, m2]
  · cases he

theorem blk35 {n i c s : Nat} {xs : Nat → Int32} {I : VI} {L : VL} {S : SW} {v5 v6 v7 : Value} (hn : n ≤ 5120) (hi : i + 10 ≤ n) (hT : TI n xs I S c s) : ∃ I' L' S' w5 w6 w7, TI n xs I' S' (c + 1) (s + 6) ∧ ∀ r, Ev 100 319 2310 [.ref 1, .ref 16, .ref 71, .ref 562, .int (i32 i), v5, v6, v7] [] I L S r ↔ Ev 100 319 2373 [.ref 1, .ref 16, .ref 71, .ref 562, .int (i32 i), w5, w6, w7] [] I' L' S' r := by
  obtain ⟨hI, hU, h1, hS, hc, hs⟩ := id hT
  have hx : ∀ j, I 1 j = xs j := fun j => by rw [h1]
  have hl : 16 ≤ S.1.length := by rw [hS]; exact W0_len
  rcases pr_restore  (d := 92) I L S hS hI with ⟨v, I1, h, h2⟩ | ⟨E, w, v, I1, he, _⟩
  · have k1 := keep 100 _ _ _ _ _ _ ((h _).mpr rfl) hl
    obtain ⟨x, rfl⟩ := shp_i (y := 155) (by decide +kernel) k1.2
    obtain ⟨I2, L2, l1, m2, inv2, z2, s2⟩ := h2 L S hS
    have k2 := keep 100 _ _ _ _ _ _ ((m2 _).mpr rfl) hl
    have i1 : ∀ j, I1 1 j = xs j := fun j => (congrFun (k1.1.1 1 (by omega)) j).trans (hx j)
    have o2 : old I I2 := old_t k1.1.1 k2.1.1
    refine ⟨I2, L2, S, v5, v6, v7, ⟨inv2, fun j hj => by rw [o2 2 (by omega)]; exact hU j hj, s2.trans h1, hS, by omega, by omega⟩, fun r => ?_⟩
    simp (disch := first | assumption | omega) only [k319_2310, k319_2311, k319_2314, k319_2315, k319_2318, k319_2321, k319_2322, c_0, c_1, c_2, c_3, c_4, c_5, c_6, c_7, c_8, c_9, hS, t_16, f_16_0, f_16_1, f_16_2, f_16_3, f_16_4, f_16_5, f_16_6, f_16_7, f_16_8, f_16_9, f_16_10, f_16_11, f_16_12, f_16_13, t_71, f_71_9, f_71_10, f_71_11, f_71_12, f_71_13, f_71_14, f_71_15, f_71_16, f_71_17, f_71_20, f_71_21, f_71_22, f_71_23, f_71_24, f_71_25, f_71_26, f_71_28, f_71_29, f_71_30, f_71_31, f_71_32, f_71_40, f_71_41, t_562, l_562, t_1, l_1, rowX_s, rowX_n, rowX_f, rowX_2, up_s, up_n, Nat.zero_add, n_m1, i_dec, cat_n, cat_i, cat_r, cat_l, i_add, i_tn, i_vi, i_lt, i_eq, i_shl, n_ltT, n_ltF, n_eqT, n_eqF, n_leT, t_and, nb_0, nb_1, b2_0, b2_n, cont_v, cont_n, ex_eq, u_s, u_c, u_j, ↓reduceIte, ite_not, not_true_eq_false, not_false_eq_true, Bool.false_eq_true, Bool.true_eq_false, false_and, true_and, and_false, and_true, or_self, or_false, false_or, or_true, true_or, cont_x, n_leF, c_1, hx, i1, h, m2]
  · cases he

theorem blk36 {n i c s : Nat} {xs : Nat → Int32} {I : VI} {L : VL} {S : SW} {v5 v6 v7 : Value} (hn : n ≤ 5120) (hi : i + 10 ≤ n) (hT : TI n xs I S c s) : ∃ I' L' S' w5 w6 w7, TI n xs I' S' (c + 1) (s + 6) ∧ ∀ r, Ev 100 319 2323 [.ref 1, .ref 16, .ref 71, .ref 562, .int (i32 i), v5, v6, v7] [] I L S r ↔ Ev 100 319 2373 [.ref 1, .ref 16, .ref 71, .ref 562, .int (i32 i), w5, w6, w7] [] I' L' S' r := by
  obtain ⟨hI, hU, h1, hS, hc, hs⟩ := id hT
  have hx : ∀ j, I 1 j = xs j := fun j => by rw [h1]
  have hl : 16 ≤ S.1.length := by rw [hS]; exact W0_len
  rcases pr_status (x := xs (i + 1)) (d := 92) I L S hS hI with ⟨v, I1, h, h2⟩ | ⟨E, w, v, I1, he, _⟩
  · have k1 := keep 100 _ _ _ _ _ _ ((h _).mpr rfl) hl
    obtain ⟨x, rfl⟩ := shp_i (y := 156) (by decide +kernel) k1.2
    obtain ⟨I2, L2, l1, m2, inv2, z2, s2⟩ := h2 L S hS
    have k2 := keep 100 _ _ _ _ _ _ ((m2 _).mpr rfl) hl
    have i1 : ∀ j, I1 1 j = xs j := fun j => (congrFun (k1.1.1 1 (by omega)) j).trans (hx j)
    have o2 : old I I2 := old_t k1.1.1 k2.1.1
    refine ⟨I2, L2, S, v5, v6, v7, ⟨inv2, fun j hj => by rw [o2 2 (by omega)]; exact hU j hj, s2.trans h1, hS, by omega, by omega⟩, fun r => ?_⟩
    simp (disch := first | assumption | omega) only [k319_2323, k319_2324, k319_2325, k319_2327, k319_2328, k319_2329, k319_2330, k319_2333, k319_2334, k319_2335, k319_2337, k319_2338, k319_2339, k319_2340, k319_2343, k319_2346, k319_2347, c_0, c_1, c_2, c_3, c_4, c_5, c_6, c_7, c_8, c_9, hS, t_16, f_16_0, f_16_1, f_16_2, f_16_3, f_16_4, f_16_5, f_16_6, f_16_7, f_16_8, f_16_9, f_16_10, f_16_11, f_16_12, f_16_13, t_71, f_71_9, f_71_10, f_71_11, f_71_12, f_71_13, f_71_14, f_71_15, f_71_16, f_71_17, f_71_20, f_71_21, f_71_22, f_71_23, f_71_24, f_71_25, f_71_26, f_71_28, f_71_29, f_71_30, f_71_31, f_71_32, f_71_40, f_71_41, t_562, l_562, t_1, l_1, rowX_s, rowX_n, rowX_f, rowX_2, up_s, up_n, Nat.zero_add, n_m1, i_dec, cat_n, cat_i, cat_r, cat_l, i_add, i_tn, i_vi, i_lt, i_eq, i_shl, n_ltT, n_ltF, n_eqT, n_eqF, n_leT, t_and, nb_0, nb_1, b2_0, b2_n, cont_v, cont_n, ex_eq, u_s, u_c, u_j, ↓reduceIte, ite_not, not_true_eq_false, not_false_eq_true, Bool.false_eq_true, Bool.true_eq_false, false_and, true_and, and_false, and_true, or_self, or_false, false_or, or_true, true_or, cont_x, n_leF, c_1, hx, i1, h, m2]
  · cases he

theorem blk37 {n i c s : Nat} {xs : Nat → Int32} {I : VI} {L : VL} {S : SW} {v5 v6 v7 : Value} (hn : n ≤ 5120) (hi : i + 10 ≤ n) (hT : TI n xs I S c s) : ∃ I' L' S' w5 w6 w7, TI n xs I' S' (c + 1) (s + 6) ∧ ∀ r, Ev 100 319 2348 [.ref 1, .ref 16, .ref 71, .ref 562, .int (i32 i), v5, v6, v7] [] I L S r ↔ Ev 100 319 2373 [.ref 1, .ref 16, .ref 71, .ref 562, .int (i32 i), w5, w6, w7] [] I' L' S' r := by
  obtain ⟨hI, hU, h1, hS, hc, hs⟩ := id hT
  have hx : ∀ j, I 1 j = xs j := fun j => by rw [h1]
  have hl : 16 ≤ S.1.length := by rw [hS]; exact W0_len
  rcases pr_count (x := xs (i + 1)) (d := 92) I L S hS hI with ⟨v, I1, h, h2⟩ | ⟨E, w, v, I1, he, _⟩
  · have k1 := keep 100 _ _ _ _ _ _ ((h _).mpr rfl) hl
    obtain ⟨x, rfl⟩ := shp_i (y := 157) (by decide +kernel) k1.2
    obtain ⟨I2, L2, l1, m2, inv2, z2, s2⟩ := h2 L S hS
    have k2 := keep 100 _ _ _ _ _ _ ((m2 _).mpr rfl) hl
    have i1 : ∀ j, I1 1 j = xs j := fun j => (congrFun (k1.1.1 1 (by omega)) j).trans (hx j)
    have o2 : old I I2 := old_t k1.1.1 k2.1.1
    refine ⟨I2, L2, S, v5, v6, v7, ⟨inv2, fun j hj => by rw [o2 2 (by omega)]; exact hU j hj, s2.trans h1, hS, by omega, by omega⟩, fun r => ?_⟩
    simp (disch := first | assumption | omega) only [k319_2348, k319_2349, k319_2350, k319_2352, k319_2353, k319_2354, k319_2355, k319_2358, k319_2359, k319_2360, k319_2362, k319_2363, k319_2364, k319_2365, k319_2368, k319_2371, k319_2372, c_0, c_1, c_2, c_3, c_4, c_5, c_6, c_7, c_8, c_9, hS, t_16, f_16_0, f_16_1, f_16_2, f_16_3, f_16_4, f_16_5, f_16_6, f_16_7, f_16_8, f_16_9, f_16_10, f_16_11, f_16_12, f_16_13, t_71, f_71_9, f_71_10, f_71_11, f_71_12, f_71_13, f_71_14, f_71_15, f_71_16, f_71_17, f_71_20, f_71_21, f_71_22, f_71_23, f_71_24, f_71_25, f_71_26, f_71_28, f_71_29, f_71_30, f_71_31, f_71_32, f_71_40, f_71_41, t_562, l_562, t_1, l_1, rowX_s, rowX_n, rowX_f, rowX_2, up_s, up_n, Nat.zero_add, n_m1, i_dec, cat_n, cat_i, cat_r, cat_l, i_add, i_tn, i_vi, i_lt, i_eq, i_shl, n_ltT, n_ltF, n_eqT, n_eqF, n_leT, t_and, nb_0, nb_1, b2_0, b2_n, cont_v, cont_n, ex_eq, u_s, u_c, u_j, ↓reduceIte, ite_not, not_true_eq_false, not_false_eq_true, Bool.false_eq_true, Bool.true_eq_false, false_and, true_and, and_false, and_true, or_self, or_false, false_or, or_true, true_or, cont_x, n_leF, c_1, hx, i1, h, m2]
  · cases he

