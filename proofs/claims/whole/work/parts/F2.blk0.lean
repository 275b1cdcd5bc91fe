/-! THE LAW: what each call does -/
def TI (n : Nat) (xs : Nat → Int32) (I : VI) (S : SW) (c s : Nat) : Prop := Inv I ∧ (∀ j, j < 9 → I 2 j = usual j) ∧ I 1 = xs ∧ S.1 = W0 n ∧ S.2.2.1 ≤ c ∧ S.2.2.2 ≤ s
theorem shp_i {y : Nat} {v : Value} (hy : mR y = some .int) (h : shp y (.inl (some v))) : ∃ x, v = .int x := by
  cases v with
  | int x => exact ⟨x, rfl⟩
  | long x => unfold shp at h; dsimp only at h; rw [hy] at h; cases h
  | _ => exact h.elim
theorem shp_z {y : Nat} {v : Value} (hy : mR y = some .boolean) (h : shp y (.inl (some v))) : ∃ x, v = .int x := by
  cases v with
  | int x => exact ⟨x, rfl⟩
  | long x => unfold shp at h; dsimp only at h; rw [hy] at h; cases h
  | _ => exact h.elim
theorem shp_j {y : Nat} {v : Value} (hy : (List.range (mB y).size).all (fun pc => !isIr (decode (mB y) pc)) = true) (h : shp y (.inl (some v))) : ∃ x, v = .long x := by
  cases v with
  | int x =>
    unfold shp at h
    dsimp only at h
    obtain ⟨_, _, _, _, _, hd⟩ := h
    exact (noIr hy hd).elim
  | long x => exact ⟨x, rfl⟩
  | _ => exact h.elim
theorem blk0 {n i c s : Nat} {xs : Nat → Int32} {I : VI} {L : VL} {S : SW} {v5 v6 v7 : Value} (hn : n ≤ 5120) (hi : i + 10 ≤ n) (hT : TI n xs I S c s) : ∃ I' L' S' w5 w6 w7, TI n xs I' S' (c + 1) (s + 6) ∧ ∀ r, Ev 100 319 208 [.ref 1, .ref 16, .ref 71, .ref 562, .int (i32 i), v5, v6, v7] [] I L S r ↔ Ev 100 319 2373 [.ref 1, .ref 16, .ref 71, .ref 562, .int (i32 i), w5, w6, w7] [] I' L' S' r := by
  obtain ⟨hI, hU, h1, hS, hc, hs⟩ := id hT
  have hx : ∀ j, I 1 j = xs j := fun j => by rw [h1]
  have hl : 16 ≤ S.1.length := by rw [hS]; exact W0_len
  rcases pr_feed (a := xs (i + 1)) (b := xs (i + 2)) (c := xs (i + 3)) (e := xs (i + 4)) (f := xs (i + 5)) (d := 92) I L S hS hI with ⟨v, I1, h, h2⟩ | ⟨E, w, v, I1, he, _⟩
  · have k1 := keep 100 _ _ _ _ _ _ ((h _).mpr rfl) hl
    obtain ⟨x, rfl⟩ := shp_i (y := 120) (by decide +kernel) k1.2
    obtain ⟨I2, L2, l1, m2, inv2, z2, s2⟩ := h2 L S hS
    have k2 := keep 100 _ _ _ _ _ _ ((m2 _).mpr rfl) hl
    have i1 : ∀ j, I1 1 j = xs j := fun j => (congrFun (k1.1.1 1 (by omega)) j).trans (hx j)
    have o2 : old I I2 := old_t k1.1.1 k2.1.1
    refine ⟨I2, L2, S, v5, v6, v7, ⟨inv2, fun j hj => by rw [o2 2 (by omega)]; exact hU j hj, s2.trans h1, hS, by omega, by omega⟩, fun r => ?_⟩
    simp (disch := first | assumption | omega) only [k319_208, k319_209, k319_210, k319_212, k319_213, k319_214, k319_215, k319_216, k319_218, k319_219, k319_220, k319_221, k319_222, k319_224, k319_225, k319_226, k319_227, k319_228, k319_230, k319_231, k319_232, k319_233, k319_234, k319_236, k319_237, k319_238, k319_239, k319_242, k319_243, k319_244, k319_246, k319_247, k319_248, k319_249, k319_250, k319_252, k319_253, k319_254, k319_255, k319_256, k319_258, k319_259, k319_260, k319_261, k319_262, k319_264, k319_265, k319_266, k319_267, k319_268, k319_270, k319_271, k319_272, k319_273, k319_276, k319_279, k319_280, c_0, c_1, c_2, c_3, c_4, c_5, c_6, c_7, c_8, c_9, hS, t_16, f_16_0, f_16_1, f_16_2, f_16_3, f_16_4, f_16_5, f_16_6, f_16_7, f_16_8, f_16_9, f_16_10, f_16_11, f_16_12, f_16_13, t_71, f_71_9, f_71_10, f_71_11, f_71_12, f_71_13, f_71_14, f_71_15, f_71_16, f_71_17, f_71_20, f_71_21, f_71_22, f_71_23, f_71_24, f_71_25, f_71_26, f_71_28, f_71_29, f_71_30, f_71_31, f_71_32, f_71_40, f_71_41, t_562, l_562, t_1, l_1, rowX_s, rowX_n, rowX_f, rowX_2, up_s, up_n, Nat.zero_add, n_m1, i_dec, cat_n, cat_i, cat_r, cat_l, i_add, i_tn, i_vi, i_lt, i_eq, i_shl, n_ltT, n_ltF, n_eqT, n_eqF, n_leT, t_and, nb_0, nb_1, b2_0, b2_n, cont_v, cont_n, ex_eq, u_s, u_c, u_j, ↓reduceIte, ite_not, not_true_eq_false, not_false_eq_true, Bool.false_eq_true, Bool.true_eq_false, false_and, true_and, and_false, and_true, or_self, or_false, false_or, or_true, true_or, cont_x, n_leF, c_1, hx, i1, h, m2]
  · cases he

theorem blk1 {n i c s : Nat} {xs : Nat → Int32} {I : VI} {L : VL} {S : SW} {v5 v6 v7 : Value} (hn : n ≤ 5120) (hi : i + 10 ≤ n) (hT : TI n xs I S c s) : ∃ I' L' S' w5 w6 w7, TI n xs I' S' (c + 1) (s + 6) ∧ ∀ r, Ev 100 319 281 [.ref 1, .ref 16, .ref 71, .ref 562, .int (i32 i), v5, v6, v7] [] I L S r ↔ Ev 100 319 2373 [.ref 1, .ref 16, .ref 71, .ref 562, .int (i32 i), w5, w6, w7] [] I' L' S' r := by
  obtain ⟨hI, hU, h1, hS, hc, hs⟩ := id hT
  have hx : ∀ j, I 1 j = xs j := fun j => by rw [h1]
  have hl : 16 ≤ S.1.length := by rw [hS]; exact W0_len
  have P : PairM n 99 121 194 [.int (xs (i + 1))] [(0, 1)] I L S := mixP hS (pval (d := 91) hS hI hU) (pval (d := 92) hS hI hU)
  rcases P with ⟨v, I1, h, ⟨o1, sh⟩, h2⟩ | ⟨E, w, v, I1, he, h, o1, h2⟩
  · obtain ⟨x, rfl⟩ := shp_i (y := 121) (by decide +kernel) sh
    have hc' := hA_290 (d := 99) hS h
    obtain ⟨I2, L2, l1, m2, o2, inv2, z2, s2⟩ := h2 (uL L 562 0 x.toInt64) S hS
    rw [uL_s] at l1
    have i1 : ∀ j, I1 1 j = xs j := fun j => by rw [o1 1 (by omega)]; exact hx j
    refine ⟨I2, L2, S, .int (i32 0), .int x, v7, ⟨inv2, fun j hj => by rw [o2 2 (by omega)]; exact hU j hj, s2.trans h1, hS, by omega, by omega⟩, fun r => ?_⟩
    simp (disch := first | assumption | omega) only [k319_281, k319_282, k319_283, k319_285, k319_286, k319_287, k319_288, k319_289, k319_292, k319_294, k319_295, k319_296, k319_298, k319_299, k319_300, k319_301, k319_304, k319_306, k319_307, k319_310, k319_312, k319_315, k319_316, k319_317, k319_319, k319_322, k319_323, k319_324, k319_325, k319_327, k319_328, k319_329, k319_332, k319_333, k319_334, c_0, c_1, c_2, c_3, c_4, c_5, c_6, c_7, c_8, c_9, hS, t_16, f_16_0, f_16_1, f_16_2, f_16_3, f_16_4, f_16_5, f_16_6, f_16_7, f_16_8, f_16_9, f_16_10, f_16_11, f_16_12, f_16_13, t_71, f_71_9, f_71_10, f_71_11, f_71_12, f_71_13, f_71_14, f_71_15, f_71_16, f_71_17, f_71_20, f_71_21, f_71_22, f_71_23, f_71_24, f_71_25, f_71_26, f_71_28, f_71_29, f_71_30, f_71_31, f_71_32, f_71_40, f_71_41, t_562, l_562, t_1, l_1, rowX_s, rowX_n, rowX_f, rowX_2, up_s, up_n, Nat.zero_add, n_m1, i_dec, cat_n, cat_i, cat_r, cat_l, i_add, i_tn, i_vi, i_lt, i_eq, i_shl, n_ltT, n_ltF, n_eqT, n_eqF, n_leT, t_and, nb_0, nb_1, b2_0, b2_n, cont_v, cont_n, ex_eq, u_s, u_c, u_j, ↓reduceIte, ite_not, not_true_eq_false, not_false_eq_true, Bool.false_eq_true, Bool.true_eq_false, false_and, true_and, and_false, and_true, or_self, or_false, false_or, or_true, true_or, cont_x, n_leF, c_1, hx, i1, hc', m2, d168 hS, z2, l1, lc_self]
  · simp only [List.mem_cons, Prod.mk.injEq, List.not_mem_nil, or_false] at he
    rcases he with ⟨rfl, rfl⟩
    · have hc' := hB_290_0 (d := 99) hS h
      obtain ⟨I2, m2, sh2, o2, inv2, z2, s2⟩ := h2 L (bump S) hS
      obtain ⟨x, rfl⟩ := shp_i (y := 194) (by decide +kernel) sh2
      have i1 : ∀ j, I1 1 j = xs j := fun j => by rw [o1 1 (by omega)]; exact hx j
      refine ⟨I2, L, bump S, .int (i32 1), .int x, v7, ⟨inv2, fun j hj => by rw [o2 2 (by omega)]; exact hU j hj, s2.trans h1, hS, by show S.2.2.1 + 1 ≤ c + 1; omega, by show S.2.2.2 + 6 ≤ s + 6; omega⟩, fun r => ?_⟩
      simp (disch := first | assumption | omega) only [k319_281, k319_282, k319_283, k319_285, k319_286, k319_287, k319_288, k319_289, k319_292, k319_294, k319_295, k319_296, k319_298, k319_299, k319_300, k319_301, k319_304, k319_306, k319_307, k319_310, k319_312, k319_315, k319_316, k319_317, k319_319, k319_322, k319_323, k319_324, k319_325, k319_327, k319_328, k319_329, k319_332, k319_333, k319_334, c_0, c_1, c_2, c_3, c_4, c_5, c_6, c_7, c_8, c_9, hS, t_16, f_16_0, f_16_1, f_16_2, f_16_3, f_16_4, f_16_5, f_16_6, f_16_7, f_16_8, f_16_9, f_16_10, f_16_11, f_16_12, f_16_13, t_71, f_71_9, f_71_10, f_71_11, f_71_12, f_71_13, f_71_14, f_71_15, f_71_16, f_71_17, f_71_20, f_71_21, f_71_22, f_71_23, f_71_24, f_71_25, f_71_26, f_71_28, f_71_29, f_71_30, f_71_31, f_71_32, f_71_40, f_71_41, t_562, l_562, t_1, l_1, rowX_s, rowX_n, rowX_f, rowX_2, up_s, up_n, Nat.zero_add, n_m1, i_dec, cat_n, cat_i, cat_r, cat_l, i_add, i_tn, i_vi, i_lt, i_eq, i_shl, n_ltT, n_ltF, n_eqT, n_eqF, n_leT, t_and, nb_0, nb_1, b2_0, b2_n, cont_v, cont_n, ex_eq, u_s, u_c, u_j, ↓reduceIte, ite_not, not_true_eq_false, not_false_eq_true, Bool.false_eq_true, Bool.true_eq_false, false_and, true_and, and_false, and_true, or_self, or_false, false_or, or_true, true_or, cont_x, n_leF, c_1, bump_S, hx, i1, hc', m2, d168 (bump_S.trans hS), z2]

theorem blk2 {n i c s : Nat} {xs : Nat → Int32} {I : VI} {L : VL} {S : SW} {v5 v6 v7 : Value} (hn : n ≤ 5120) (hi : i + 10 ≤ n) (hT : TI n xs I S c s) : ∃ I' L' S' w5 w6 w7, TI n xs I' S' (c + 1) (s + 6) ∧ ∀ r, Ev 100 319 337 [.ref 1, .ref 16, .ref 71, .ref 562, .int (i32 i), v5, v6, v7] [] I L S r ↔ Ev 100 319 2373 [.ref 1, .ref 16, .ref 71, .ref 562, .int (i32 i), w5, w6, w7] [] I' L' S' r := by
  obtain ⟨hI, hU, h1, hS, hc, hs⟩ := id hT
  have hx : ∀ j, I 1 j = xs j := fun j => by rw [h1]
  have hl : 16 ≤ S.1.length := by rw [hS]; exact W0_len
  have P : PairM n 99 122 204 [.int (xs (i + 1))] [(0, 1)] I L S := mixP hS (pr_law (d := 59) I L S hS hI) (pr_law (d := 60) I L S hS hI)
  rcases P with ⟨v, I1, h, ⟨o1, sh⟩, h2⟩ | ⟨E, w, v, I1, he, h, o1, h2⟩
  · obtain ⟨x, rfl⟩ := shp_i (y := 122) (by decide +kernel) sh
    have hc' := hA_291 (d := 99) hS h
    obtain ⟨I2, L2, l1, m2, o2, inv2, z2, s2⟩ := h2 (uL L 562 0 x.toInt64) S hS
    rw [uL_s] at l1
    have i1 : ∀ j, I1 1 j = xs j := fun j => by rw [o1 1 (by omega)]; exact hx j
    refine ⟨I2, L2, S, .int (i32 0), .int x, v7, ⟨inv2, fun j hj => by rw [o2 2 (by omega)]; exact hU j hj, s2.trans h1, hS, by omega, by omega⟩, fun r => ?_⟩
    simp (disch := first | assumption | omega) only [k319_337, k319_338, k319_339, k319_341, k319_342, k319_343, k319_344, k319_345, k319_348, k319_350, k319_351, k319_352, k319_354, k319_355, k319_356, k319_357, k319_360, k319_362, k319_363, k319_366, k319_368, k319_371, k319_372, k319_373, k319_375, k319_378, k319_379, k319_380, k319_381, k319_383, k319_384, k319_385, k319_388, k319_389, k319_390, c_0, c_1, c_2, c_3, c_4, c_5, c_6, c_7, c_8, c_9, hS, t_16, f_16_0, f_16_1, f_16_2, f_16_3, f_16_4, f_16_5, f_16_6, f_16_7, f_16_8, f_16_9, f_16_10, f_16_11, f_16_12, f_16_13, t_71, f_71_9, f_71_10, f_71_11, f_71_12, f_71_13, f_71_14, f_71_15, f_71_16, f_71_17, f_71_20, f_71_21, f_71_22, f_71_23, f_71_24, f_71_25, f_71_26, f_71_28, f_71_29, f_71_30, f_71_31, f_71_32, f_71_40, f_71_41, t_562, l_562, t_1, l_1, rowX_s, rowX_n, rowX_f, rowX_2, up_s, up_n, Nat.zero_add, n_m1, i_dec, cat_n, cat_i, cat_r, cat_l, i_add, i_tn, i_vi, i_lt, i_eq, i_shl, n_ltT, n_ltF, n_eqT, n_eqF, n_leT, t_and, nb_0, nb_1, b2_0, b2_n, cont_v, cont_n, ex_eq, u_s, u_c, u_j, ↓reduceIte, ite_not, not_true_eq_false, not_false_eq_true, Bool.false_eq_true, Bool.true_eq_false, false_and, true_and, and_false, and_true, or_self, or_false, false_or, or_true, true_or, cont_x, n_leF, c_1, hx, i1, hc', m2, d168 hS, z2, l1, lc_self]
  · simp only [List.mem_cons, Prod.mk.injEq, List.not_mem_nil, or_false] at he
    rcases he with ⟨rfl, rfl⟩
    · have hc' := hB_291_0 (d := 99) hS h
      obtain ⟨I2, m2, sh2, o2, inv2, z2, s2⟩ := h2 L (bump S) hS
      obtain ⟨x, rfl⟩ := shp_i (y := 204) (by decide +kernel) sh2
      have i1 : ∀ j, I1 1 j = xs j := fun j => by rw [o1 1 (by omega)]; exact hx j
      refine ⟨I2, L, bump S, .int (i32 1), .int x, v7, ⟨inv2, fun j hj => by rw [o2 2 (by omega)]; exact hU j hj, s2.trans h1, hS, by show S.2.2.1 + 1 ≤ c + 1; omega, by show S.2.2.2 + 6 ≤ s + 6; omega⟩, fun r => ?_⟩
      simp (disch := first | assumption | omega) only [k319_337, k319_338, k319_339, k319_341, k319_342, k319_343, k319_344, k319_345, k319_348, k319_350, k319_351, k319_352, k319_354, k319_355, k319_356, k319_357, k319_360, k319_362, k319_363, k319_366, k319_368, k319_371, k319_372, k319_373, k319_375, k319_378, k319_379, k319_380, k319_381, k319_383, k319_384, k319_385, k319_388, k319_389, k319_390, c_0, c_1, c_2, c_3, c_4, c_5, c_6, c_7, c_8, c_9, hS, t_16, f_16_0, f_16_1, f_16_2, f_16_3, f_16_4, f_16_5, f_16_6, f_16_7, f_16_8, f_16_9, f_16_10, f_16_11, f_16_12, f_16_13, t_71, f_71_9, f_71_10, f_71_11, f_71_12, f_71_13, f_71_14, f_71_15, f_71_16, f_71_17, f_71_20, f_71_21, f_71_22, f_71_23, f_71_24, f_71_25, f_71_26, f_71_28, f_71_29, f_71_30, f_71_31, f_71_32, f_71_40, f_71_41, t_562, l_562, t_1, l_1, rowX_s, rowX_n, rowX_f, rowX_2, up_s, up_n, Nat.zero_add, n_m1, i_dec, cat_n, cat_i, cat_r, cat_l, i_add, i_tn, i_vi, i_lt, i_eq, i_shl, n_ltT, n_ltF, n_eqT, n_eqF, n_leT, t_and, nb_0, nb_1, b2_0, b2_n, cont_v, cont_n, ex_eq, u_s, u_c, u_j, ↓reduceIte, ite_not, not_true_eq_false, not_false_eq_true, Bool.false_eq_true, Bool.true_eq_false, false_and, true_and, and_false, and_true, or_self, or_false, false_or, or_true, true_or, cont_x, n_leF, c_1, bump_S, hx, i1, hc', m2, d168 (bump_S.trans hS), z2]

theorem blk3 {n i c s : Nat} {xs : Nat → Int32} {I : VI} {L : VL} {S : SW} {v5 v6 v7 : Value} (hn : n ≤ 5120) (hi : i + 10 ≤ n) (hT : TI n xs I S c s) : ∃ I' L' S' w5 w6 w7, TI n xs I' S' (c + 1) (s + 6) ∧ ∀ r, Ev 100 319 393 [.ref 1, .ref 16, .ref 71, .ref 562, .int (i32 i), v5, v6, v7] [] I L S r ↔ Ev 100 319 2373 [.ref 1, .ref 16, .ref 71, .ref 562, .int (i32 i), w5, w6, w7] [] I' L' S' r := by
  obtain ⟨hI, hU, h1, hS, hc, hs⟩ := id hT
  have hx : ∀ j, I 1 j = xs j := fun j => by rw [h1]
  have hl : 16 ≤ S.1.length := by rw [hS]; exact W0_len
  have P : PairM n 99 123 228 [.int (xs (i + 1))] [(0, 1)] I L S := mixP hS (pr_work (d := 59) I L S hS hI) (pr_work (d := 60) I L S hS hI)
  rcases P with ⟨v, I1, h, ⟨o1, sh⟩, h2⟩ | ⟨E, w, v, I1, he, h, o1, h2⟩
  · obtain ⟨x, rfl⟩ := shp_i (y := 123) (by decide +kernel) sh
    have hc' := hA_292 (d := 99) hS h
    obtain ⟨I2, L2, l1, m2, o2, inv2, z2, s2⟩ := h2 (uL L 562 0 x.toInt64) S hS
    rw [uL_s] at l1
    have i1 : ∀ j, I1 1 j = xs j := fun j => by rw [o1 1 (by omega)]; exact hx j
    refine ⟨I2, L2, S, .int (i32 0), .int x, v7, ⟨inv2, fun j hj => by rw [o2 2 (by omega)]; exact hU j hj, s2.trans h1, hS, by omega, by omega⟩, fun r => ?_⟩
    simp (disch := first | assumption | omega) only [k319_393, k319_394, k319_395, k319_397, k319_398, k319_399, k319_400, k319_401, k319_404, k319_406, k319_407, k319_408, k319_410, k319_411, k319_412, k319_413, k319_416, k319_418, k319_419, k319_422, k319_424, k319_427, k319_428, k319_429, k319_431, k319_434, k319_435, k319_436, k319_437, k319_439, k319_440, k319_441, k319_444, k319_445, k319_446, c_0, c_1, c_2, c_3, c_4, c_5, c_6, c_7, c_8, c_9, hS, t_16, f_16_0, f_16_1, f_16_2, f_16_3, f_16_4, f_16_5, f_16_6, f_16_7, f_16_8, f_16_9, f_16_10, f_16_11, f_16_12, f_16_13, t_71, f_71_9, f_71_10, f_71_11, f_71_12, f_71_13, f_71_14, f_71_15, f_71_16, f_71_17, f_71_20, f_71_21, f_71_22, f_71_23, f_71_24, f_71_25, f_71_26, f_71_28, f_71_29, f_71_30, f_71_31, f_71_32, f_71_40, f_71_41, t_562, l_562, t_1, l_1, rowX_s, rowX_n, rowX_f, rowX_2, up_s, up_n, Nat.zero_add, n_m1, i_dec, cat_n, cat_i, cat_r, cat_l, i_add, i_tn, i_vi, i_lt, i_eq, i_shl, n_ltT, n_ltF, n_eqT, n_eqF, n_leT, t_and, nb_0, nb_1, b2_0, b2_n, cont_v, cont_n, ex_eq, u_s, u_c, u_j, ↓reduceIte, ite_not, not_true_eq_false, not_false_eq_true, Bool.false_eq_true, Bool.true_eq_false, false_and, true_and, and_false, and_true, or_self, or_false, false_or, or_true, true_or, cont_x, n_leF, c_1, hx, i1, hc', m2, d168 hS, z2, l1, lc_self]
  · simp only [List.mem_cons, Prod.mk.injEq, List.not_mem_nil, or_false] at he
    rcases he with ⟨rfl, rfl⟩
    · have hc' := hB_292_0 (d := 99) hS h
      obtain ⟨I2, m2, sh2, o2, inv2, z2, s2⟩ := h2 L (bump S) hS
      obtain ⟨x, rfl⟩ := shp_i (y := 228) (by decide +kernel) sh2
      have i1 : ∀ j, I1 1 j = xs j := fun j => by rw [o1 1 (by omega)]; exact hx j
      refine ⟨I2, L, bump S, .int (i32 1), .int x, v7, ⟨inv2, fun j hj => by rw [o2 2 (by omega)]; exact hU j hj, s2.trans h1, hS, by show S.2.2.1 + 1 ≤ c + 1; omega, by show S.2.2.2 + 6 ≤ s + 6; omega⟩, fun r => ?_⟩
      simp (disch := first | assumption | omega) only [k319_393, k319_394, k319_395, k319_397, k319_398, k319_399, k319_400, k319_401, k319_404, k319_406, k319_407, k319_408, k319_410, k319_411, k319_412, k319_413, k319_416, k319_418, k319_419, k319_422, k319_424, k319_427, k319_428, k319_429, k319_431, k319_434, k319_435, k319_436, k319_437, k319_439, k319_440, k319_441, k319_444, k319_445, k319_446, c_0, c_1, c_2, c_3, c_4, c_5, c_6, c_7, c_8, c_9, hS, t_16, f_16_0, f_16_1, f_16_2, f_16_3, f_16_4, f_16_5, f_16_6, f_16_7, f_16_8, f_16_9, f_16_10, f_16_11, f_16_12, f_16_13, t_71, f_71_9, f_71_10, f_71_11, f_71_12, f_71_13, f_71_14, f_71_15, f_71_16, f_71_17, f_71_20, f_71_21, f_71_22, f_71_23, f_71_24, f_71_25, f_71_26, f_71_28, f_71_29, f_71_30, f_71_31, f_71_32, f_71_40, f_71_41, t_562, l_562, t_1, l_1, rowX_s, rowX_n, rowX_f, rowX_2, up_s, up_n, Nat.zero_add, n_m1, i_dec, cat_n, cat_i, cat_r, cat_l, i_add, i_tn, i_vi, i_lt, i_eq, i_shl, n_ltT, n_ltF, n_eqT, n_eqF, n_leT, t_and, nb_0, nb_1, b2_0, b2_n, cont_v, cont_n, ex_eq, u_s, u_c, u_j, ↓reduceIte, ite_not, not_true_eq_false, not_false_eq_true, Bool.false_eq_true, Bool.true_eq_false, false_and, true_and, and_false, and_true, or_self, or_false, false_or, or_true, true_or, cont_x, n_leF, c_1, bump_S, hx, i1, hc', m2, d168 (bump_S.trans hS), z2]

theorem blk4 {n i c s : Nat} {xs : Nat → Int32} {I : VI} {L : VL} {S : SW} {v5 v6 v7 : Value} (hn : n ≤ 5120) (hi : i + 10 ≤ n) (hT : TI n xs I S c s) : ∃ I' L' S' w5 w6 w7, TI n xs I' S' (c + 1) (s + 6) ∧ ∀ r, Ev 100 319 449 [.ref 1, .ref 16, .ref 71, .ref 562, .int (i32 i), v5, v6, v7] [] I L S r ↔ Ev 100 319 2373 [.ref 1, .ref 16, .ref 71, .ref 562, .int (i32 i), w5, w6, w7] [] I' L' S' r := by
  obtain ⟨hI, hU, h1, hS, hc, hs⟩ := id hT
  have hx : ∀ j, I 1 j = xs j := fun j => by rw [h1]
  have hl : 16 ≤ S.1.length := by rw [hS]; exact W0_len
  have P : PairM n 99 124 209 [.int (xs (i + 1))] [(0, 1)] I L S := mixP hS (pr_book (d := 91) I L S hS hI) (pr_book (d := 92) I L S hS hI)
  rcases P with ⟨v, I1, h, ⟨o1, sh⟩, h2⟩ | ⟨E, w, v, I1, he, h, o1, h2⟩
  · obtain ⟨x, rfl⟩ := shp_i (y := 124) (by decide +kernel) sh
    have hc' := hA_293 (d := 99) hS h
    obtain ⟨I2, L2, l1, m2, o2, inv2, z2, s2⟩ := h2 (uL L 562 0 x.toInt64) S hS
    rw [uL_s] at l1
    have i1 : ∀ j, I1 1 j = xs j := fun j => by rw [o1 1 (by omega)]; exact hx j
    refine ⟨I2, L2, S, .int (i32 0), .int x, v7, ⟨inv2, fun j hj => by rw [o2 2 (by omega)]; exact hU j hj, s2.trans h1, hS, by omega, by omega⟩, fun r => ?_⟩
    simp (disch := first | assumption | omega) only [k319_449, k319_450, k319_451, k319_453, k319_454, k319_455, k319_456, k319_457, k319_460, k319_462, k319_463, k319_464, k319_466, k319_467, k319_468, k319_469, k319_472, k319_474, k319_475, k319_478, k319_480, k319_483, k319_484, k319_485, k319_487, k319_490, k319_491, k319_492, k319_493, k319_495, k319_496, k319_497, k319_500, k319_501, k319_502, c_0, c_1, c_2, c_3, c_4, c_5, c_6, c_7, c_8, c_9, hS, t_16, f_16_0, f_16_1, f_16_2, f_16_3, f_16_4, f_16_5, f_16_6, f_16_7, f_16_8, f_16_9, f_16_10, f_16_11, f_16_12, f_16_13, t_71, f_71_9, f_71_10, f_71_11, f_71_12, f_71_13, f_71_14, f_71_15, f_71_16, f_71_17, f_71_20, f_71_21, f_71_22, f_71_23, f_71_24, f_71_25, f_71_26, f_71_28, f_71_29, f_71_30, f_71_31, f_71_32, f_71_40, f_71_41, t_562, l_562, t_1, l_1, rowX_s, rowX_n, rowX_f, rowX_2, up_s, up_n, Nat.zero_add, n_m1, i_dec, cat_n, cat_i, cat_r, cat_l, i_add, i_tn, i_vi, i_lt, i_eq, i_shl, n_ltT, n_ltF, n_eqT, n_eqF, n_leT, t_and, nb_0, nb_1, b2_0, b2_n, cont_v, cont_n, ex_eq, u_s, u_c, u_j, ↓reduceIte, ite_not, not_true_eq_false, not_false_eq_true, Bool.false_eq_true, Bool.true_eq_false, false_and, true_and, and_false, and_true, or_self, or_false, false_or, or_true, true_or, cont_x, n_leF, c_1, hx, i1, hc', m2, d168 hS, z2, l1, lc_self]
  · simp only [List.mem_cons, Prod.mk.injEq, List.not_mem_nil, or_false] at he
    rcases he with ⟨rfl, rfl⟩
    · have hc' := hB_293_0 (d := 99) hS h
      obtain ⟨I2, m2, sh2, o2, inv2, z2, s2⟩ := h2 L (bump S) hS
      obtain ⟨x, rfl⟩ := shp_i (y := 209) (by decide +kernel) sh2
      have i1 : ∀ j, I1 1 j = xs j := fun j => by rw [o1 1 (by omega)]; exact hx j
      refine ⟨I2, L, bump S, .int (i32 1), .int x, v7, ⟨inv2, fun j hj => by rw [o2 2 (by omega)]; exact hU j hj, s2.trans h1, hS, by show S.2.2.1 + 1 ≤ c + 1; omega, by show S.2.2.2 + 6 ≤ s + 6; omega⟩, fun r => ?_⟩
      simp (disch := first | assumption | omega) only [k319_449, k319_450, k319_451, k319_453, k319_454, k319_455, k319_456, k319_457, k319_460, k319_462, k319_463, k319_464, k319_466, k319_467, k319_468, k319_469, k319_472, k319_474, k319_475, k319_478, k319_480, k319_483, k319_484, k319_485, k319_487, k319_490, k319_491, k319_492, k319_493, k319_495, k319_496, k319_497, k319_500, k319_501, k319_502, c_0, c_1, c_2, c_3, c_4, c_5, c_6, c_7, c_8, c_9, hS, t_16, f_16_0, f_16_1, f_16_2, f_16_3, f_16_4, f_16_5, f_16_6, f_16_7, f_16_8, f_16_9, f_16_10, f_16_11, f_16_12, f_16_13, t_71, f_71_9, f_71_10, f_71_11, f_71_12, f_71_13, f_71_14, f_71_15, f_71_16, f_71_17, f_71_20, f_71_21, f_71_22, f_71_23, f_71_24, f_71_25, f_71_26, f_71_28, f_71_29, f_71_30, f_71_31, f_71_32, f_71_40, f_71_41, t_562, l_562, t_1, l_1, rowX_s, rowX_n, rowX_f, rowX_2, up_s, up_n, Nat.zero_add, n_m1, i_dec, cat_n, cat_i, cat_r, cat_l, i_add, i_tn, i_vi, i_lt, i_eq, i_shl, n_ltT, n_ltF, n_eqT, n_eqF, n_leT, t_and, nb_0, nb_1, b2_0, b2_n, cont_v, cont_n, ex_eq, u_s, u_c, u_j, ↓reduceIte, ite_not, not_true_eq_false, not_false_eq_true, Bool.false_eq_true, Bool.true_eq_false, false_and, true_and, and_false, and_true, or_self, or_false, false_or, or_true, true_or, cont_x, n_leF, c_1, bump_S, hx, i1, hc', m2, d168 (bump_S.trans hS), z2]

theorem blk5 {n i c s : Nat} {xs : Nat → Int32} {I : VI} {L : VL} {S : SW} {v5 v6 v7 : Value} (hn : n ≤ 5120) (hi : i + 10 ≤ n) (hT : TI n xs I S c s) : ∃ I' L' S' w5 w6 w7, TI n xs I' S' (c + 1) (s + 6) ∧ ∀ r, Ev 100 319 505 [.ref 1, .ref 16, .ref 71, .ref 562, .int (i32 i), v5, v6, v7] [] I L S r ↔ Ev 100 319 2373 [.ref 1, .ref 16, .ref 71, .ref 562, .int (i32 i), w5, w6, w7] [] I' L' S' r := by
  obtain ⟨hI, hU, h1, hS, hc, hs⟩ := id hT
  have hx : ∀ j, I 1 j = xs j := fun j => by rw [h1]
  have hl : 16 ≤ S.1.length := by rw [hS]; exact W0_len
  rcases pr_fault  (d := 92) I L S hS hI with ⟨v, I1, h, h2⟩ | ⟨E, w, v, I1, he, _⟩
  · have k1 := keep 100 _ _ _ _ _ _ ((h _).mpr rfl) hl
    obtain ⟨x, rfl⟩ := shp_i (y := 125) (by decide +kernel) k1.2
    obtain ⟨I2, L2, l1, m2, inv2, z2, s2⟩ := h2 L S hS
    have k2 := keep 100 _ _ _ _ _ _ ((m2 _).mpr rfl) hl
    have i1 : ∀ j, I1 1 j = xs j := fun j => (congrFun (k1.1.1 1 (by omega)) j).trans (hx j)
    have o2 : old I I2 := old_t k1.1.1 k2.1.1
    refine ⟨I2, L2, S, v5, v6, v7, ⟨inv2, fun j hj => by rw [o2 2 (by omega)]; exact hU j hj, s2.trans h1, hS, by omega, by omega⟩, fun r => ?_⟩
    simp (disch := first | assumption | omega) only [k319_505, k319_506, k319_509, k319_510, k319_513, k319_516, k319_517, c_0, c_1, c_2, c_3, c_4, c_5, c_6, c_7, c_8, c_9, hS, t_16, f_16_0, f_16_1, f_16_2, f_16_3, f_16_4, f_16_5, f_16_6, f_16_7, f_16_8, f_16_9, f_16_10, f_16_11, f_16_12, f_16_13, t_71, f_71_9, f_71_10, f_71_11, f_71_12, f_71_13, f_71_14, f_71_15, f_71_16, f_71_17, f_71_20, f_71_21, f_71_22, f_71_23, f_71_24, f_71_25, f_71_26, f_71_28, f_71_29, f_71_30, f_71_31, f_71_32, f_71_40, f_71_41, t_562, l_562, t_1, l_1, rowX_s, rowX_n, rowX_f, rowX_2, up_s, up_n, Nat.zero_add, n_m1, i_dec, cat_n, cat_i, cat_r, cat_l, i_add, i_tn, i_vi, i_lt, i_eq, i_shl, n_ltT, n_ltF, n_eqT, n_eqF, n_leT, t_and, nb_0, nb_1, b2_0, b2_n, cont_v, cont_n, ex_eq, u_s, u_c, u_j, ↓reduceIte, ite_not, not_true_eq_false, not_false_eq_true, Bool.false_eq_true, Bool.true_eq_false, false_and, true_and, and_false, and_true, or_self, or_false, false_or, or_true, true_or, cont_x, n_leF, c_1, hx, i1, h, m2]
  · cases he

theorem blk6 {n i c s : Nat} {xs : Nat → Int32} {I : VI} {L : VL} {S : SW} {v5 v6 v7 : Value} (hn : n ≤ 5120) (hi : i + 10 ≤ n) (hT : TI n xs I S c s) : ∃ I' L' S' w5 w6 w7, TI n xs I' S' (c + 1) (s + 6) ∧ ∀ r, Ev 100 319 518 [.ref 1, .ref 16, .ref 71, .ref 562, .int (i32 i), v5, v6, v7] [] I L S r ↔ Ev 100 319 2373 [.ref 1, .ref 16, .ref 71, .ref 562, .int (i32 i), w5, w6, w7] [] I' L' S' r := by
  obtain ⟨hI, hU, h1, hS, hc, hs⟩ := id hT
  have hx : ∀ j, I 1 j = xs j := fun j => by rw [h1]
  have hl : 16 ≤ S.1.length := by rw [hS]; exact W0_len
  rcases pr_undo  (d := 92) I L S hS hI with ⟨v, I1, h, h2⟩ | ⟨E, w, v, I1, he, _⟩
  · have k1 := keep 100 _ _ _ _ _ _ ((h _).mpr rfl) hl
    obtain ⟨x, rfl⟩ := shp_i (y := 126) (by decide +kernel) k1.2
    obtain ⟨I2, L2, l1, m2, inv2, z2, s2⟩ := h2 L S hS
    have k2 := keep 100 _ _ _ _ _ _ ((m2 _).mpr rfl) hl
    have i1 : ∀ j, I1 1 j = xs j := fun j => (congrFun (k1.1.1 1 (by omega)) j).trans (hx j)
    have o2 : old I I2 := old_t k1.1.1 k2.1.1
    refine ⟨I2, L2, S, v5, v6, v7, ⟨inv2, fun j hj => by rw [o2 2 (by omega)]; exact hU j hj, s2.trans h1, hS, by omega, by omega⟩, fun r => ?_⟩
    simp (disch := first | assumption | omega) only [k319_518, k319_519, k319_522, k319_523, k319_526, k319_529, k319_530, c_0, c_1, c_2, c_3, c_4, c_5, c_6, c_7, c_8, c_9, hS, t_16, f_16_0, f_16_1, f_16_2, f_16_3, f_16_4, f_16_5, f_16_6, f_16_7, f_16_8, f_16_9, f_16_10, f_16_11, f_16_12, f_16_13, t_71, f_71_9, f_71_10, f_71_11, f_71_12, f_71_13, f_71_14, f_71_15, f_71_16, f_71_17, f_71_20, f_71_21, f_71_22, f_71_23, f_71_24, f_71_25, f_71_26, f_71_28, f_71_29, f_71_30, f_71_31, f_71_32, f_71_40, f_71_41, t_562, l_562, t_1, l_1, rowX_s, rowX_n, rowX_f, rowX_2, up_s, up_n, Nat.zero_add, n_m1, i_dec, cat_n, cat_i, cat_r, cat_l, i_add, i_tn, i_vi, i_lt, i_eq, i_shl, n_ltT, n_ltF, n_eqT, n_eqF, n_leT, t_and, nb_0, nb_1, b2_0, b2_n, cont_v, cont_n, ex_eq, u_s, u_c, u_j, ↓reduceIte, ite_not, not_true_eq_false, not_false_eq_true, Bool.false_eq_true, Bool.true_eq_false, false_and, true_and, and_false, and_true, or_self, or_false, false_or, or_true, true_or, cont_x, n_leF, c_1, hx, i1, h, m2]
  · cases he

theorem blk7 {n i c s : Nat} {xs : Nat → Int32} {I : VI} {L : VL} {S : SW} {v5 v6 v7 : Value} (hn : n ≤ 5120) (hi : i + 10 ≤ n) (hT : TI n xs I S c s) : ∃ I' L' S' w5 w6 w7, TI n xs I' S' (c + 1) (s + 6) ∧ ∀ r, Ev 100 319 531 [.ref 1, .ref 16, .ref 71, .ref 562, .int (i32 i), v5, v6, v7] [] I L S r ↔ Ev 100 319 2373 [.ref 1, .ref 16, .ref 71, .ref 562, .int (i32 i), w5, w6, w7] [] I' L' S' r := by
  obtain ⟨hI, hU, h1, hS, hc, hs⟩ := id hT
  have hx : ∀ j, I 1 j = xs j := fun j => by rw [h1]
  have hl : 16 ≤ S.1.length := by rw [hS]; exact W0_len
  have P : PairM n 99 127 234 [.int (xs (i + 1))] [(0, 1)] I L S := mixP hS (pr_told (d := 91) I L S hS hI) (pr_told (d := 92) I L S hS hI)
  rcases P with ⟨v, I1, h, ⟨o1, sh⟩, h2⟩ | ⟨E, w, v, I1, he, h, o1, h2⟩
  · obtain ⟨x, rfl⟩ := shp_i (y := 127) (by decide +kernel) sh
    have hc' := hA_294 (d := 99) hS h
    obtain ⟨I2, L2, l1, m2, o2, inv2, z2, s2⟩ := h2 (uL L 562 0 x.toInt64) S hS
    rw [uL_s] at l1
    have i1 : ∀ j, I1 1 j = xs j := fun j => by rw [o1 1 (by omega)]; exact hx j
    refine ⟨I2, L2, S, .int (i32 0), .int x, v7, ⟨inv2, fun j hj => by rw [o2 2 (by omega)]; exact hU j hj, s2.trans h1, hS, by omega, by omega⟩, fun r => ?_⟩
    simp (disch := first | assumption | omega) only [k319_531, k319_532, k319_533, k319_535, k319_536, k319_537, k319_538, k319_539, k319_542, k319_544, k319_545, k319_546, k319_548, k319_549, k319_550, k319_551, k319_554, k319_556, k319_557, k319_560, k319_562, k319_565, k319_566, k319_567, k319_569, k319_572, k319_573, k319_574, k319_575, k319_577, k319_578, k319_579, k319_582, k319_583, k319_584, c_0, c_1, c_2, c_3, c_4, c_5, c_6, c_7, c_8, c_9, hS, t_16, f_16_0, f_16_1, f_16_2, f_16_3, f_16_4, f_16_5, f_16_6, f_16_7, f_16_8, f_16_9, f_16_10, f_16_11, f_16_12, f_16_13, t_71, f_71_9, f_71_10, f_71_11, f_71_12, f_71_13, f_71_14, f_71_15, f_71_16, f_71_17, f_71_20, f_71_21, f_71_22, f_71_23, f_71_24, f_71_25, f_71_26, f_71_28, f_71_29, f_71_30, f_71_31, f_71_32, f_71_40, f_71_41, t_562, l_562, t_1, l_1, rowX_s, rowX_n, rowX_f, rowX_2, up_s, up_n, Nat.zero_add, n_m1, i_dec, cat_n, cat_i, cat_r, cat_l, i_add, i_tn, i_vi, i_lt, i_eq, i_shl, n_ltT, n_ltF, n_eqT, n_eqF, n_leT, t_and, nb_0, nb_1, b2_0, b2_n, cont_v, cont_n, ex_eq, u_s, u_c, u_j, ↓reduceIte, ite_not, not_true_eq_false, not_false_eq_true, Bool.false_eq_true, Bool.true_eq_false, false_and, true_and, and_false, and_true, or_self, or_false, false_or, or_true, true_or, cont_x, n_leF, c_1, hx, i1, hc', m2, d168 hS, z2, l1, lc_self]
  · simp only [List.mem_cons, Prod.mk.injEq, List.not_mem_nil, or_false] at he
    rcases he with ⟨rfl, rfl⟩
    · have hc' := hB_294_0 (d := 99) hS h
      obtain ⟨I2, m2, sh2, o2, inv2, z2, s2⟩ := h2 L (bump S) hS
      obtain ⟨x, rfl⟩ := shp_i (y := 234) (by decide +kernel) sh2
      have i1 : ∀ j, I1 1 j = xs j := fun j => by rw [o1 1 (by omega)]; exact hx j
      refine ⟨I2, L, bump S, .int (i32 1), .int x, v7, ⟨inv2, fun j hj => by rw [o2 2 (by omega)]; exact hU j hj, s2.trans h1, hS, by show S.2.2.1 + 1 ≤ c + 1; omega, by show S.2.2.2 + 6 ≤ s + 6; omega⟩, fun r => ?_⟩
      simp (disch := first | assumption | omega) only [k319_531, k319_532, k319_533, k319_535, k319_536, k319_537, k319_538, k319_539, k319_542, k319_544, k319_545, k319_546, k319_548, k319_549, k319_550, k319_551, k319_554, k319_556, k319_557, k319_560, k319_562, k319_565, k319_566, k319_567, k319_569, k319_572, k319_573, k319_574, k319_575, k319_577, k319_578, k319_579, k319_582, k319_583, k319_584, c_0, c_1, c_2, c_3, c_4, c_5, c_6, c_7, c_8, c_9, hS, t_16, f_16_0, f_16_1, f_16_2, f_16_3, f_16_4, f_16_5, f_16_6, f_16_7, f_16_8, f_16_9, f_16_10, f_16_11, f_16_12, f_16_13, t_71, f_71_9, f_71_10, f_71_11, f_71_12, f_71_13, f_71_14, f_71_15, f_71_16, f_71_17, f_71_20, f_71_21, f_71_22, f_71_23, f_71_24, f_71_25, f_71_26, f_71_28, f_71_29, f_71_30, f_71_31, f_71_32, f_71_40, f_71_41, t_562, l_562, t_1, l_1, rowX_s, rowX_n, rowX_f, rowX_2, up_s, up_n, Nat.zero_add, n_m1, i_dec, cat_n, cat_i, cat_r, cat_l, i_add, i_tn, i_vi, i_lt, i_eq, i_shl, n_ltT, n_ltF, n_eqT, n_eqF, n_leT, t_and, nb_0, nb_1, b2_0, b2_n, cont_v, cont_n, ex_eq, u_s, u_c, u_j, ↓reduceIte, ite_not, not_true_eq_false, not_false_eq_true, Bool.false_eq_true, Bool.true_eq_false, false_and, true_and, and_false, and_true, or_self, or_false, false_or, or_true, true_or, cont_x, n_leF, c_1, bump_S, hx, i1, hc', m2, d168 (bump_S.trans hS), z2]

theorem blk8 {n i c s : Nat} {xs : Nat → Int32} {I : VI} {L : VL} {S : SW} {v5 v6 v7 : Value} (hn : n ≤ 5120) (hi : i + 10 ≤ n) (hT : TI n xs I S c s) : ∃ I' L' S' w5 w6 w7, TI n xs I' S' (c + 1) (s + 6) ∧ ∀ r, Ev 100 319 587 [.ref 1, .ref 16, .ref 71, .ref 562, .int (i32 i), v5, v6, v7] [] I L S r ↔ Ev 100 319 2373 [.ref 1, .ref 16, .ref 71, .ref 562, .int (i32 i), w5, w6, w7] [] I' L' S' r := by
  obtain ⟨hI, hU, h1, hS, hc, hs⟩ := id hT
  have hx : ∀ j, I 1 j = xs j := fun j => by rw [h1]
  have hl : 16 ≤ S.1.length := by rw [hS]; exact W0_len
  have P : PairM n 99 128 238 [.int (xs (i + 1)), .int (xs (i + 2))] [(1, 1), (0, 2)] I L S := mixP hS (pr_house (d := 91) I L S hS hI) (pr_house (d := 92) I L S hS hI)
  rcases P with ⟨v, I1, h, ⟨o1, sh⟩, h2⟩ | ⟨E, w, v, I1, he, h, o1, h2⟩
  · obtain ⟨x, rfl⟩ := shp_i (y := 128) (by decide +kernel) sh
    have hc' := hA_295 (d := 99) hS h
    obtain ⟨I2, L2, l1, m2, o2, inv2, z2, s2⟩ := h2 (uL L 562 0 x.toInt64) S hS
    rw [uL_s] at l1
    have i1 : ∀ j, I1 1 j = xs j := fun j => by rw [o1 1 (by omega)]; exact hx j
    refine ⟨I2, L2, S, .int (i32 0), .int x, v7, ⟨inv2, fun j hj => by rw [o2 2 (by omega)]; exact hU j hj, s2.trans h1, hS, by omega, by omega⟩, fun r => ?_⟩
    simp (disch := first | assumption | omega) only [k319_587, k319_588, k319_589, k319_591, k319_592, k319_593, k319_594, k319_595, k319_597, k319_598, k319_599, k319_600, k319_601, k319_604, k319_606, k319_607, k319_608, k319_610, k319_611, k319_612, k319_613, k319_614, k319_616, k319_617, k319_618, k319_619, k319_622, k319_624, k319_625, k319_628, k319_630, k319_633, k319_634, k319_635, k319_637, k319_640, k319_641, k319_642, k319_643, k319_645, k319_646, k319_647, k319_650, k319_651, k319_652, c_0, c_1, c_2, c_3, c_4, c_5, c_6, c_7, c_8, c_9, hS, t_16, f_16_0, f_16_1, f_16_2, f_16_3, f_16_4, f_16_5, f_16_6, f_16_7, f_16_8, f_16_9, f_16_10, f_16_11, f_16_12, f_16_13, t_71, f_71_9, f_71_10, f_71_11, f_71_12, f_71_13, f_71_14, f_71_15, f_71_16, f_71_17, f_71_20, f_71_21, f_71_22, f_71_23, f_71_24, f_71_25, f_71_26, f_71_28, f_71_29, f_71_30, f_71_31, f_71_32, f_71_40, f_71_41, t_562, l_562, t_1, l_1, rowX_s, rowX_n, rowX_f, rowX_2, up_s, up_n, Nat.zero_add, n_m1, i_dec, cat_n, cat_i, cat_r, cat_l, i_add, i_tn, i_vi, i_lt, i_eq, i_shl, n_ltT, n_ltF, n_eqT, n_eqF, n_leT, t_and, nb_0, nb_1, b2_0, b2_n, cont_v, cont_n, ex_eq, u_s, u_c, u_j, ↓reduceIte, ite_not, not_true_eq_false, not_false_eq_true, Bool.false_eq_true, Bool.true_eq_false, false_and, true_and, and_false, and_true, or_self, or_false, false_or, or_true, true_or, cont_x, n_leF, c_1, hx, i1, hc', m2, d168 hS, z2, l1, lc_self]
  · simp only [List.mem_cons, Prod.mk.injEq, List.not_mem_nil, or_false] at he
    rcases he with ⟨rfl, rfl⟩ | ⟨rfl, rfl⟩
    · have hc' := hB_295_1 (d := 99) hS h
      obtain ⟨I2, m2, sh2, o2, inv2, z2, s2⟩ := h2 L (bump S) hS
      obtain ⟨x, rfl⟩ := shp_i (y := 238) (by decide +kernel) sh2
      have i1 : ∀ j, I1 1 j = xs j := fun j => by rw [o1 1 (by omega)]; exact hx j
      refine ⟨I2, L, bump S, .int (i32 1), .int x, v7, ⟨inv2, fun j hj => by rw [o2 2 (by omega)]; exact hU j hj, s2.trans h1, hS, by show S.2.2.1 + 1 ≤ c + 1; omega, by show S.2.2.2 + 6 ≤ s + 6; omega⟩, fun r => ?_⟩
      simp (disch := first | assumption | omega) only [k319_587, k319_588, k319_589, k319_591, k319_592, k319_593, k319_594, k319_595, k319_597, k319_598, k319_599, k319_600, k319_601, k319_604, k319_606, k319_607, k319_608, k319_610, k319_611, k319_612, k319_613, k319_614, k319_616, k319_617, k319_618, k319_619, k319_622, k319_624, k319_625, k319_628, k319_630, k319_633, k319_634, k319_635, k319_637, k319_640, k319_641, k319_642, k319_643, k319_645, k319_646, k319_647, k319_650, k319_651, k319_652, c_0, c_1, c_2, c_3, c_4, c_5, c_6, c_7, c_8, c_9, hS, t_16, f_16_0, f_16_1, f_16_2, f_16_3, f_16_4, f_16_5, f_16_6, f_16_7, f_16_8, f_16_9, f_16_10, f_16_11, f_16_12, f_16_13, t_71, f_71_9, f_71_10, f_71_11, f_71_12, f_71_13, f_71_14, f_71_15, f_71_16, f_71_17, f_71_20, f_71_21, f_71_22, f_71_23, f_71_24, f_71_25, f_71_26, f_71_28, f_71_29, f_71_30, f_71_31, f_71_32, f_71_40, f_71_41, t_562, l_562, t_1, l_1, rowX_s, rowX_n, rowX_f, rowX_2, up_s, up_n, Nat.zero_add, n_m1, i_dec, cat_n, cat_i, cat_r, cat_l, i_add, i_tn, i_vi, i_lt, i_eq, i_shl, n_ltT, n_ltF, n_eqT, n_eqF, n_leT, t_and, nb_0, nb_1, b2_0, b2_n, cont_v, cont_n, ex_eq, u_s, u_c, u_j, ↓reduceIte, ite_not, not_true_eq_false, not_false_eq_true, Bool.false_eq_true, Bool.true_eq_false, false_and, true_and, and_false, and_true, or_self, or_false, false_or, or_true, true_or, cont_x, n_leF, c_1, bump_S, hx, i1, hc', m2, d168 (bump_S.trans hS), z2]
    · have hc' := hB_295_0 (d := 99) hS h
      obtain ⟨I2, m2, sh2, o2, inv2, z2, s2⟩ := h2 L (bump S) hS
      obtain ⟨x, rfl⟩ := shp_i (y := 238) (by decide +kernel) sh2
      have i1 : ∀ j, I1 1 j = xs j := fun j => by rw [o1 1 (by omega)]; exact hx j
      refine ⟨I2, L, bump S, .int (i32 2), .int x, v7, ⟨inv2, fun j hj => by rw [o2 2 (by omega)]; exact hU j hj, s2.trans h1, hS, by show S.2.2.1 + 1 ≤ c + 1; omega, by show S.2.2.2 + 6 ≤ s + 6; omega⟩, fun r => ?_⟩
      simp (disch := first | assumption | omega) only [k319_587, k319_588, k319_589, k319_591, k319_592, k319_593, k319_594, k319_595, k319_597, k319_598, k319_599, k319_600, k319_601, k319_604, k319_606, k319_607, k319_608, k319_610, k319_611, k319_612, k319_613, k319_614, k319_616, k319_617, k319_618, k319_619, k319_622, k319_624, k319_625, k319_628, k319_630, k319_633, k319_634, k319_635, k319_637, k319_640, k319_641, k319_642, k319_643, k319_645, k319_646, k319_647, k319_650, k319_651, k319_652, c_0, c_1, c_2, c_3, c_4, c_5, c_6, c_7, c_8, c_9, hS, t_16, f_16_0, f_16_1, f_16_2, f_16_3, f_16_4, f_16_5, f_16_6, f_16_7, f_16_8, f_16_9, f_16_10, f_16_11, f_16_12, f_16_13, t_71, f_71_9, f_71_10, f_71_11, f_71_12, f_71_13, f_71_14, f_71_15, f_71_16, f_71_17, f_71_20, f_71_21, f_71_22, f_71_23, f_71_24, f_71_25, f_71_26, f_71_28, f_71_29, f_71_30, f_71_31, f_71_32, f_71_40, f_71_41, t_562, l_562, t_1, l_1, rowX_s, rowX_n, rowX_f, rowX_2, up_s, up_n, Nat.zero_add, n_m1, i_dec, cat_n, cat_i, cat_r, cat_l, i_add, i_tn, i_vi, i_lt, i_eq, i_shl, n_ltT, n_ltF, n_eqT, n_eqF, n_leT, t_and, nb_0, nb_1, b2_0, b2_n, cont_v, cont_n, ex_eq, u_s, u_c, u_j, ↓reduceIte, ite_not, not_true_eq_false, not_false_eq_true, Bool.false_eq_true, Bool.true_eq_false, false_and, true_and, and_false, and_true, or_self, or_false, false_or, or_true, true_or, cont_x, n_leF, c_1, bump_S, hx, i1, hc', m2, d168 (bump_S.trans hS), z2]

theorem blk9 {n i c s : Nat} {xs : Nat → Int32} {I : VI} {L : VL} {S : SW} {v5 v6 v7 : Value} (hn : n ≤ 5120) (hi : i + 10 ≤ n) (hT : TI n xs I S c s) : ∃ I' L' S' w5 w6 w7, TI n xs I' S' (c + 1) (s + 6) ∧ ∀ r, Ev 100 319 655 [.ref 1, .ref 16, .ref 71, .ref 562, .int (i32 i), v5, v6, v7] [] I L S r ↔ Ev 100 319 2373 [.ref 1, .ref 16, .ref 71, .ref 562, .int (i32 i), w5, w6, w7] [] I' L' S' r := by
  obtain ⟨hI, hU, h1, hS, hc, hs⟩ := id hT
  have hx : ∀ j, I 1 j = xs j := fun j => by rw [h1]
  have hl : 16 ≤ S.1.length := by rw [hS]; exact W0_len
  have P : PairM n 99 129 239 [.int (xs (i + 1)), .int (xs (i + 2))] [(1, 1), (0, 2)] I L S := mixP hS (pr_debt (d := 91) I L S hS hI) (pr_debt (d := 92) I L S hS hI)
  rcases P with ⟨v, I1, h, ⟨o1, sh⟩, h2⟩ | ⟨E, w, v, I1, he, h, o1, h2⟩
  · obtain ⟨x, rfl⟩ := shp_i (y := 129) (by decide +kernel) sh
    have hc' := hA_296 (d := 99) hS h
    obtain ⟨I2, L2, l1, m2, o2, inv2, z2, s2⟩ := h2 (uL L 562 0 x.toInt64) S hS
    rw [uL_s] at l1
    have i1 : ∀ j, I1 1 j = xs j := fun j => by rw [o1 1 (by omega)]; exact hx j
    refine ⟨I2, L2, S, .int (i32 0), .int x, v7, ⟨inv2, fun j hj => by rw [o2 2 (by omega)]; exact hU j hj, s2.trans h1, hS, by omega, by omega⟩, fun r => ?_⟩
    simp (disch := first | assumption | omega) only [k319_655, k319_656, k319_657, k319_659, k319_660, k319_661, k319_662, k319_663, k319_665, k319_666, k319_667, k319_668, k319_669, k319_672, k319_674, k319_675, k319_676, k319_678, k319_679, k319_680, k319_681, k319_682, k319_684, k319_685, k319_686, k319_687, k319_690, k319_692, k319_693, k319_696, k319_698, k319_701, k319_702, k319_703, k319_705, k319_708, k319_709, k319_710, k319_711, k319_713, k319_714, k319_715, k319_718, k319_719, k319_720, c_0, c_1, c_2, c_3, c_4, c_5, c_6, c_7, c_8, c_9, hS, t_16, f_16_0, f_16_1, f_16_2, f_16_3, f_16_4, f_16_5, f_16_6, f_16_7, f_16_8, f_16_9, f_16_10, f_16_11, f_16_12, f_16_13, t_71, f_71_9, f_71_10, f_71_11, f_71_12, f_71_13, f_71_14, f_71_15, f_71_16, f_71_17, f_71_20, f_71_21, f_71_22, f_71_23, f_71_24, f_71_25, f_71_26, f_71_28, f_71_29, f_71_30, f_71_31, f_71_32, f_71_40, f_71_41, t_562, l_562, t_1, l_1, rowX_s, rowX_n, rowX_f, rowX_2, up_s, up_n, Nat.zero_add, n_m1, i_dec, cat_n, cat_i, cat_r, cat_l, i_add, i_tn, i_vi, i_lt, i_eq, i_shl, n_ltT, n_ltF, n_eqT, n_eqF, n_leT, t_and, nb_0, nb_1, b2_0, b2_n, cont_v, cont_n, ex_eq, u_s, u_c, u_j, ↓reduceIte, ite_not, not_true_eq_false, not_false_eq_true, Bool.false_eq_true, Bool.true_eq_false, false_and, true_and, and_false, and_true, or_self, or_false, false_or, or_true, true_or, cont_x, n_leF, c_1, hx, i1, hc', m2, d168 hS, z2, l1, lc_self]
  · simp only [List.mem_cons, Prod.mk.injEq, List.not_mem_nil, or_false] at he
    rcases he with ⟨rfl, rfl⟩ | ⟨rfl, rfl⟩
    · have hc' := hB_296_1 (d := 99) hS h
      obtain ⟨I2, m2, sh2, o2, inv2, z2, s2⟩ := h2 L (bump S) hS
      obtain ⟨x, rfl⟩ := shp_i (y := 239) (by decide +kernel) sh2
      have i1 : ∀ j, I1 1 j = xs j := fun j => by rw [o1 1 (by omega)]; exact hx j
      refine ⟨I2, L, bump S, .int (i32 1), .int x, v7, ⟨inv2, fun j hj => by rw [o2 2 (by omega)]; exact hU j hj, s2.trans h1, hS, by show S.2.2.1 + 1 ≤ c + 1; omega, by show S.2.2.2 + 6 ≤ s + 6; omega⟩, fun r => ?_⟩
      simp (disch := first | assumption | omega) only [k319_655, k319_656, k319_657, k319_659, k319_660, k319_661, k319_662, k319_663, k319_665, k319_666, k319_667, k319_668, k319_669, k319_672, k319_674, k319_675, k319_676, k319_678, k319_679, k319_680, k319_681, k319_682, k319_684, k319_685, k319_686, k319_687, k319_690, k319_692, k319_693, k319_696, k319_698, k319_701, k319_702, k319_703, k319_705, k319_708, k319_709, k319_710, k319_711, k319_713, k319_714, k319_715, k319_718, k319_719, k319_720, c_0, c_1, c_2, c_3, c_4, c_5, c_6, c_7, c_8, c_9, hS, t_16, f_16_0, f_16_1, f_16_2, f_16_3, f_16_4, f_16_5, f_16_6, f_16_7, f_16_8, f_16_9, f_16_10, f_16_11, f_16_12, f_16_13, t_71, f_71_9, f_71_10, f_71_11, f_71_12, f_71_13, f_71_14, f_71_15, f_71_16, f_71_17, f_71_20, f_71_21, f_71_22, f_71_23, f_71_24, f_71_25, f_71_26, f_71_28, f_71_29, f_71_30, f_71_31, f_71_32, f_71_40, f_71_41, t_562, l_562, t_1, l_1, rowX_s, rowX_n, rowX_f, rowX_2, up_s, up_n, Nat.zero_add, n_m1, i_dec, cat_n, cat_i, cat_r, cat_l, i_add, i_tn, i_vi, i_lt, i_eq, i_shl, n_ltT, n_ltF, n_eqT, n_eqF, n_leT, t_and, nb_0, nb_1, b2_0, b2_n, cont_v, cont_n, ex_eq, u_s, u_c, u_j, ↓reduceIte, ite_not, not_true_eq_false, not_false_eq_true, Bool.false_eq_true, Bool.true_eq_false, false_and, true_and, and_false, and_true, or_self, or_false, false_or, or_true, true_or, cont_x, n_leF, c_1, bump_S, hx, i1, hc', m2, d168 (bump_S.trans hS), z2]
    · have hc' := hB_296_0 (d := 99) hS h
      obtain ⟨I2, m2, sh2, o2, inv2, z2, s2⟩ := h2 L (bump S) hS
      obtain ⟨x, rfl⟩ := shp_i (y := 239) (by decide +kernel) sh2
      have i1 : ∀ j, I1 1 j = xs j := fun j => by rw [o1 1 (by omega)]; exact hx j
      refine ⟨I2, L, bump S, .int (i32 2), .int x, v7, ⟨inv2, fun j hj => by rw [o2 2 (by omega)]; exact hU j hj, s2.trans h1, hS, by show S.2.2.1 + 1 ≤ c + 1; omega, by show S.2.2.2 + 6 ≤ s + 6; omega⟩, fun r => ?_⟩
      simp (disch := first | assumption | omega) only [k319_655, k319_656, k319_657, k319_659, k319_660, k319_661, k319_662, k319_663, k319_665, k319_666, k319_667, k319_668, k319_669, k319_672, k319_674, k319_675, k319_676, k319_678, k319_679, k319_680, k319_681, k319_682, k319_684, k319_685, k319_686, k319_687, k319_690, k319_692, k319_693, k319_696, k319_698, k319_701, k319_702, k319_703, k319_705, k319_708, k319_709, k319_710, k319_711, k319_713, k319_714, k319_715, k319_718, k319_719, k319_720, c_0, c_1, c_2, c_3, c_4, c_5, c_6, c_7, c_8, c_9, hS, t_16, f_16_0, f_16_1, f_16_2, f_16_3, f_16_4, f_16_5, f_16_6, f_16_7, f_16_8, f_16_9, f_16_10, f_16_11, f_16_12, f_16_13, t_71, f_71_9, f_71_10, f_71_11, f_71_12, f_71_13, f_71_14, f_71_15, f_71_16, f_71_17, f_71_20, f_71_21, f_71_22, f_71_23, f_71_24, f_71_25, f_71_26, f_71_28, f_71_29, f_71_30, f_71_31, f_71_32, f_71_40, f_71_41, t_562, l_562, t_1, l_1, rowX_s, rowX_n, rowX_f, rowX_2, up_s, up_n, Nat.zero_add, n_m1, i_dec, cat_n, cat_i, cat_r, cat_l, i_add, i_tn, i_vi, i_lt, i_eq, i_shl, n_ltT, n_ltF, n_eqT, n_eqF, n_leT, t_and, nb_0, nb_1, b2_0, b2_n, cont_v, cont_n, ex_eq, u_s, u_c, u_j, ↓reduceIte, ite_not, not_true_eq_false, not_false_eq_true, Bool.false_eq_true, Bool.true_eq_false, false_and, true_and, and_false, and_true, or_self, or_false, false_or, or_true, true_or, cont_x, n_leF, c_1, bump_S, hx, i1, hc', m2, d168 (bump_S.trans hS), z2]

