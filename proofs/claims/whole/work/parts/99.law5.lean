/-! THE LAW'S TEXT: the reference's units -/
theorem c_91b : (91 : Int32) = i32 91 := rfl
theorem c_93b : (93 : Int32) = i32 93 := rfl
section LawT
variable {tb : Nat → Nat} {m : Nat}
theorem lwd_nil {p : Nat} (h : ¬ (p < m ∧ isLt tb p = true)) : lwd tb m p = [] := by
  have e : ltE tb m p = p := adv_f h
  unfold lwd; rw [e, Nat.sub_self]; rfl
theorem dg_nl {p : Nat} (h : isDg tb p = true) : lwd tb m p = [] := lwd_nil (fun z => by
  have z2 := z.2
  unfold isDg at h
  unfold isLt at z2
  simp only [decide_eq_true_eq] at h z2
  omega)
theorem ch_nl {p : Nat} (h : tb p = 40) : lwd tb m p = [] := lwd_nil (fun z => by
  have z2 := z.2
  unfold isLt at z2
  simp only [decide_eq_true_eq] at z2
  omega)
theorem numF_nd {p : Nat} {lo hi : Int32} (h : ¬ (p < m ∧ isDg tb p = true)) : numF tb m lo hi p = 1 := by
  have e : dgE tb m p = p := adv_f h
  unfold numF; rw [if_pos e]
theorem te_u8 {p : Nat} {x : Int32} {I : VI} (h : TE tb m p I) : TE tb m p (u2 I 71 8 x) := by
  obtain ⟨⟨h2, h72⟩, h3, h4, h5, h6⟩ := h
  exact ⟨⟨by rw [u_j (by omega)]; exact h2, fun k hk => by rw [u_c (by omega)]; exact h72 k hk⟩, h3, h4, by rw [u_j (by omega)]; exact h5, by rw [u_j (by omega)]; exact h6⟩
theorem q175 {p n : Nat} {K : VI} (hm : m ≤ 600) (htb : ∀ k, tb k < 256) (h : TE tb m p K) : ∃ x : Int32, (x = i32 40) = (p < m ∧ tb p = 40) ∧ ∀ d L S r, S.1 = W0 n → (EvD (d + 1) 175 [.ref 71, .int (i32 p)] K L S r ↔ r = (.inl (some (.int x)), K, L, S)) := by
  have hp := h.2.1
  exact ⟨_, by_c htb (by omega), fun d L S r hS => d175 hS hm h.1 (by omega)⟩
theorem d199o {d n : Nat} {I : VI} {L : VL} {S : SW} {r : Res} (hS : S.1 = W0 n) {o : Nat} (ho : o < 6) (h5 : I 71 5 = i32 0) (h8 : I 71 8 = i32 o) : EvD (d + 2) 199 [.ref 71] I L S r ↔ r = (.inl (some (.int (i32 1))), u2 I 71 8 (i32 (o + 1)), L, S) := by
  have e : ¬ o = 6 := by omega
  simp (disch := first | assumption | omega) only [in199, k199_0, k199_1, k199_4, k199_7, k199_8, k199_11, k199_13, k199_16, k199_17, k199_18, k199_19, k199_22, k199_25, k199_28, k199_29, k199_32, k199_35, k199_36, k199_36r, k199_37, k199_40, k199_41, k199_42, k199_45, k199_46, k199_49, k199_52, k199_53, k199_56, k199_57, c_0, c_1, c_3, c_6, hS, t_71, f_71_9, f_71_10, f_71_11, f_71_12, f_71_13, f_71_14, f_71_15, f_71_16, f_71_17, f_71_20, f_71_21, f_71_22, f_71_23, f_71_24, f_71_25, f_71_26, f_71_28, f_71_29, f_71_30, f_71_31, f_71_32, f_71_40, f_71_41, t_72, l_72, t_73, l_73, t_74, l_74, t_75, l_75, t_76, l_76, t_77, l_77, t_84, l_84, t_91, l_91, t_104, l_104, t_117, l_117, t_278, l_278, t_439, l_439, t_446, l_446, t_453, l_453, t_454, l_454, t_455, l_455, t_536, l_536, t_537, l_537, t_538, l_538, t_539, l_539, t_556, l_556, t_560, l_560, t_561, l_561, f_77, t_78, l_78, f_84, t_85, l_85, f_91, t_92, l_92, f_104, t_105, l_105, f_117, t_118, l_118, f_278, t_279, l_279, f_439, t_440, l_440, f_446, t_447, l_447, f_455, t_456, l_456, f_539, t_540, l_540, f_556, t_557, l_557, w_t, w_l, rowX_s, rowX_n, rowX_f, rowX_2, up_s, up_n, Nat.zero_add, n_m1, i_dec, cat_n, cat_i, cat_r, cat_l, i_add, i_tn, i_vi, i_lt, i_eq, i_shl, n_ltT, n_ltF, n_eqT, n_eqF, n_leT, t_and, nb_0, nb_1, b2_0, b2_n, cont_v, cont_n, ex_eq, u_s, u_c, u_j, ↓reduceIte, ite_not, not_true_eq_false, not_false_eq_true, Bool.false_eq_true, Bool.true_eq_false, false_and, true_and, and_false, and_true, or_self, or_false, false_or, or_true, true_or, cont_x, n_leF, c_1, h5, h8, e]
theorem d199f {d n : Nat} {I : VI} {L : VL} {S : SW} {r : Res} (hS : S.1 = W0 n) {p : Nat} (h5 : I 71 5 = i32 0) (h8 : I 71 8 = i32 6) (h4 : I 71 4 = i32 p) : EvD (d + 2) 199 [.ref 71] I L S r ↔ r = (.inl (some (.int (i32 0))), u2 (u2 I 71 5 (i32 3)) 71 6 (i32 p), L, S) := by
  simp (disch := first | assumption | omega) only [in199, k199_0, k199_1, k199_4, k199_7, k199_8, k199_11, k199_13, k199_16, k199_17, k199_18, k199_19, k199_22, k199_25, k199_28, k199_29, k199_32, k199_35, k199_36, k199_36r, k199_37, k199_40, k199_41, k199_42, k199_45, k199_46, k199_49, k199_52, k199_53, k199_56, k199_57, c_0, c_1, c_3, c_6, hS, t_71, f_71_9, f_71_10, f_71_11, f_71_12, f_71_13, f_71_14, f_71_15, f_71_16, f_71_17, f_71_20, f_71_21, f_71_22, f_71_23, f_71_24, f_71_25, f_71_26, f_71_28, f_71_29, f_71_30, f_71_31, f_71_32, f_71_40, f_71_41, t_72, l_72, t_73, l_73, t_74, l_74, t_75, l_75, t_76, l_76, t_77, l_77, t_84, l_84, t_91, l_91, t_104, l_104, t_117, l_117, t_278, l_278, t_439, l_439, t_446, l_446, t_453, l_453, t_454, l_454, t_455, l_455, t_536, l_536, t_537, l_537, t_538, l_538, t_539, l_539, t_556, l_556, t_560, l_560, t_561, l_561, f_77, t_78, l_78, f_84, t_85, l_85, f_91, t_92, l_92, f_104, t_105, l_105, f_117, t_118, l_118, f_278, t_279, l_279, f_439, t_440, l_440, f_446, t_447, l_447, f_455, t_456, l_456, f_539, t_540, l_540, f_556, t_557, l_557, w_t, w_l, rowX_s, rowX_n, rowX_f, rowX_2, up_s, up_n, Nat.zero_add, n_m1, i_dec, cat_n, cat_i, cat_r, cat_l, i_add, i_tn, i_vi, i_lt, i_eq, i_shl, n_ltT, n_ltF, n_eqT, n_eqF, n_leT, t_and, nb_0, nb_1, b2_0, b2_n, cont_v, cont_n, ex_eq, u_s, u_c, u_j, ↓reduceIte, ite_not, not_true_eq_false, not_false_eq_true, Bool.false_eq_true, Bool.true_eq_false, false_and, true_and, and_false, and_true, or_self, or_false, false_or, or_true, true_or, cont_x, n_leF, c_1, h5, h8, h4, d177t hS h5]
/-- a number, or nothing that can stand -/
theorem q203d {d n p o : Nat} {c : List (Nat × Nat)} {J : VI} {L : VL} {S : SW} (hS : S.1 = W0 n) (hm : m ≤ 150) (htb : ∀ k, tb k < 256) (hT : TM tb m p 0 0 J) (hL : LN J c) (h8 : J 71 8 = i32 o) (hcp : c.length ≤ p) (hb : ¬ (p < m ∧ tb p = 40)) (w7 : ¬ lwd tb m p = wLeast) (w8 : ¬ lwd tb m p = wMost) (hk : ¬ kno (lwd tb m p) < 9) : ∃ J', frN J J' ∧ lmQ tb m o J' (if numF tb m (i32 0) (i32 999) p = 0 then .inl (c ++ [(0, numV tb m p)], sk tb m (dgE tb m p)) else .inr (numF tb m (i32 0) (i32 999) p, p)) ∧ ∀ r, EvD (d + 8) 203 [.ref 71] J L S r ↔ r = (.inl none, J', L, S) := by
  have hm6 : m ≤ 600 := by omega
  have hpm := tm_le hT
  have s5 := tm5 hT
  obtain ⟨K0, f0, e0, h0⟩ := q176 (d := d + 5) (L := L) hS hm6 htb hT
  have a0 : K0 71 4 = i32 p := e0.2.2.2.1
  obtain ⟨x, ex, hx⟩ := q175 (n := n) hm6 htb e0
  have hx2 : ¬ x = i32 40 := by rw [ex]; exact hb
  obtain ⟨K1, f1, t1, h1⟩ := q180 (d := d + 4) (L := L) (lo := i32 0) (hi := i32 999) hS hm6 htb (TE_TM (pl := 0) e0)
  have f01 := fr71_trans f0 f1
  have L1 := LN_71 (by omega) f01 hL
  have g8 : K1 71 8 = i32 o := by rw [f01 _ _ (by omega)]; exact h8
  have e7 := fun r => e183 (d := d + 3) (I := K0) (L := L) (r := r) hS hm6 htb e0 okLeast
  have e8 := fun r => e183 (d := d + 3) (I := K0) (L := L) (r := r) hS hm6 htb e0 okMost
  simp only [b2_f w7] at e7
  simp only [b2_f w8] at e8
  have e2 := fun r => e202 (d := d + 1) (I := K0) (L := L) (r := r) hS hm6 htb e0 hk
  by_cases hn : numF tb m (i32 0) (i32 999) p = 0
  · rw [if_pos hn] at t1 h1 ⊢
    have s1 := tm5 t1
    refine ⟨noI K1 c.length (i32 0) (i32 (numV tb m p)), frN_t (frN_71 f01) (no_fr (by omega)), ⟨no_TM t1, no_LN (e := (0, numV tb m p)) L1, by rw [no_8]; exact g8⟩, fun r => ?_⟩
    simp (disch := first | assumption | omega) only [in203, k203_0, k203_1, k203_4, k203_7, k203_8, k203_9, k203_12, k203_13, k203_15, k203_16, k203_17, k203_19, k203_21, k203_22, k203_25, k203_28, k203_30, k203_33, k203_34, k203_36, k203_38, k203_40, k203_42, k203_43, k203_44, k203_47, k203_50, k203_52, k203_55, k203_56, k203_57, k203_58, k203_59, k203_62, k203_63, k203_66, k203_69, k203_70, k203_71, k203_74, k203_75, k203_77, k203_80, k203_81, k203_84, k203_85, k203_87, k203_90, k203_91, k203_94, k203_95, k203_97, k203_100, k203_101, k203_102, k203_103, k203_106, k203_107, k203_107r, k203_108, k203_111, k203_112, k203_113, k203_116, k203_117, k203_118, k203_119, k203_122, k203_125, k203_127, k203_130, k203_131, k203_134, k203_137, k203_138, k203_139, k203_139r, k203_140, k203_143, k203_144, k203_145, k203_148, k203_149, k203_152, k203_153, k203_155, k203_158, k203_159, k203_159r, k203_160, k203_163, k203_164, k203_165, k203_168, k203_169, k203_170, k203_173, k203_174, k203_175, k203_176, k203_179, k203_180, k203_181, k203_182, k203_185, k203_188, k203_189, k203_190, k203_191, k203_192, k203_195, k203_198, k203_201, c_0, c_1, c_5, c_7, c_8, c_12, c_13, c_15, c_19, c_20, c_40, c_41, c_44, c_999, hS, t_71, f_71_9, f_71_10, f_71_11, f_71_12, f_71_13, f_71_14, f_71_15, f_71_16, f_71_17, f_71_20, f_71_21, f_71_22, f_71_23, f_71_24, f_71_25, f_71_26, f_71_28, f_71_29, f_71_30, f_71_31, f_71_32, f_71_40, f_71_41, t_72, l_72, t_73, l_73, t_74, l_74, t_75, l_75, t_76, l_76, t_77, l_77, t_84, l_84, t_91, l_91, t_104, l_104, t_117, l_117, t_278, l_278, t_439, l_439, t_446, l_446, t_453, l_453, t_454, l_454, t_455, l_455, t_536, l_536, t_537, l_537, t_538, l_538, t_539, l_539, t_556, l_556, t_560, l_560, t_561, l_561, f_77, t_78, l_78, f_84, t_85, l_85, f_91, t_92, l_92, f_104, t_105, l_105, f_117, t_118, l_118, f_278, t_279, l_279, f_439, t_440, l_440, f_446, t_447, l_447, f_455, t_456, l_456, f_539, t_540, l_540, f_556, t_557, l_557, w_t, w_l, rowX_s, rowX_n, rowX_f, rowX_2, up_s, up_n, Nat.zero_add, n_m1, i_dec, cat_n, cat_i, cat_r, cat_l, i_add, i_tn, i_vi, i_lt, i_eq, i_shl, n_ltT, n_ltF, n_eqT, n_eqF, n_leT, t_and, nb_0, nb_1, b2_0, b2_n, cont_v, cont_n, ex_eq, u_s, u_c, u_j, ↓reduceIte, ite_not, not_true_eq_false, not_false_eq_true, Bool.false_eq_true, Bool.true_eq_false, false_and, true_and, and_false, and_true, or_self, or_false, false_or, or_true, true_or, cont_x, n_leF, c_1, s5, h0, e7, e8, a0, hx, hx2, e2, h1, d198 hS s1 L1.1 (by omega : c.length < 160)]
  · rw [if_neg hn] at t1 h1 ⊢
    have s1 := tm5 t1
    have n9 := numF_lt (tb := tb) (m := m) (p := p) (lo := i32 0) (hi := i32 999)
    refine ⟨K1, frN_71 f01, ⟨⟨hn, n9⟩, t1⟩, fun r => ?_⟩
    simp (disch := first | assumption | omega) only [in203, k203_0, k203_1, k203_4, k203_7, k203_8, k203_9, k203_12, k203_13, k203_15, k203_16, k203_17, k203_19, k203_21, k203_22, k203_25, k203_28, k203_30, k203_33, k203_34, k203_36, k203_38, k203_40, k203_42, k203_43, k203_44, k203_47, k203_50, k203_52, k203_55, k203_56, k203_57, k203_58, k203_59, k203_62, k203_63, k203_66, k203_69, k203_70, k203_71, k203_74, k203_75, k203_77, k203_80, k203_81, k203_84, k203_85, k203_87, k203_90, k203_91, k203_94, k203_95, k203_97, k203_100, k203_101, k203_102, k203_103, k203_106, k203_107, k203_107r, k203_108, k203_111, k203_112, k203_113, k203_116, k203_117, k203_118, k203_119, k203_122, k203_125, k203_127, k203_130, k203_131, k203_134, k203_137, k203_138, k203_139, k203_139r, k203_140, k203_143, k203_144, k203_145, k203_148, k203_149, k203_152, k203_153, k203_155, k203_158, k203_159, k203_159r, k203_160, k203_163, k203_164, k203_165, k203_168, k203_169, k203_170, k203_173, k203_174, k203_175, k203_176, k203_179, k203_180, k203_181, k203_182, k203_185, k203_188, k203_189, k203_190, k203_191, k203_192, k203_195, k203_198, k203_201, c_0, c_1, c_5, c_7, c_8, c_12, c_13, c_15, c_19, c_20, c_40, c_41, c_44, c_999, hS, t_71, f_71_9, f_71_10, f_71_11, f_71_12, f_71_13, f_71_14, f_71_15, f_71_16, f_71_17, f_71_20, f_71_21, f_71_22, f_71_23, f_71_24, f_71_25, f_71_26, f_71_28, f_71_29, f_71_30, f_71_31, f_71_32, f_71_40, f_71_41, t_72, l_72, t_73, l_73, t_74, l_74, t_75, l_75, t_76, l_76, t_77, l_77, t_84, l_84, t_91, l_91, t_104, l_104, t_117, l_117, t_278, l_278, t_439, l_439, t_446, l_446, t_453, l_453, t_454, l_454, t_455, l_455, t_536, l_536, t_537, l_537, t_538, l_538, t_539, l_539, t_556, l_556, t_560, l_560, t_561, l_561, f_77, t_78, l_78, f_84, t_85, l_85, f_91, t_92, l_92, f_104, t_105, l_105, f_117, t_118, l_118, f_278, t_279, l_279, f_439, t_440, l_440, f_446, t_447, l_447, f_455, t_456, l_456, f_539, t_540, l_540, f_556, t_557, l_557, w_t, w_l, rowX_s, rowX_n, rowX_f, rowX_2, up_s, up_n, Nat.zero_add, n_m1, i_dec, cat_n, cat_i, cat_r, cat_l, i_add, i_tn, i_vi, i_lt, i_eq, i_shl, n_ltT, n_ltF, n_eqT, n_eqF, n_leT, t_and, nb_0, nb_1, b2_0, b2_n, cont_v, cont_n, ex_eq, u_s, u_c, u_j, ↓reduceIte, ite_not, not_true_eq_false, not_false_eq_true, Bool.false_eq_true, Bool.true_eq_false, false_and, true_and, and_false, and_true, or_self, or_false, false_or, or_true, true_or, cont_x, n_leF, c_1, s5, h0, e7, e8, a0, hx, hx2, e2, h1, d198f hS hn n9 s1]
/-- a word of its own -/
theorem q203k {d n p o : Nat} {c : List (Nat × Nat)} {J : VI} {L : VL} {S : SW} (hS : S.1 = W0 n) (hm : m ≤ 150) (htb : ∀ k, tb k < 256) (hT : TM tb m p 0 0 J) (hL : LN J c) (h8 : J 71 8 = i32 o) (hcp : c.length ≤ p) (hb : ¬ (p < m ∧ tb p = 40)) (hk : kno (lwd tb m p) < 9) : ∃ J', frN J J' ∧ lmQ tb m o J' (.inl (c ++ [(1, kno (lwd tb m p))], sk tb m (ltE tb m p))) ∧ ∀ r, EvD (d + 8) 203 [.ref 71] J L S r ↔ r = (.inl none, J', L, S) := by
  have hm6 : m ≤ 600 := by omega
  have hpm := tm_le hT
  have s5 := tm5 hT
  have w7 : ¬ lwd tb m p = wLeast := fun z => by rw [z] at hk; revert hk; decide
  have w8 : ¬ lwd tb m p = wMost := fun z => by rw [z] at hk; revert hk; decide
  obtain ⟨K0, f0, e0, h0⟩ := q176 (d := d + 5) (L := L) hS hm6 htb hT
  have a0 : K0 71 4 = i32 p := e0.2.2.2.1
  obtain ⟨x, ex, hx⟩ := q175 (n := n) hm6 htb e0
  have hx2 : ¬ x = i32 40 := by rw [ex]; exact hb
  obtain ⟨K1, f1, t1, h1⟩ := q202 (d := d + 1) (L := L) (pl := 0) hS hm6 htb e0 hk
  have f01 := fr71_trans f0 f1
  have L1 := LN_71 (by omega) f01 hL
  have g8 : K1 71 8 = i32 o := by rw [f01 _ _ (by omega)]; exact h8
  have e7 := fun r => e183 (d := d + 3) (I := K0) (L := L) (r := r) hS hm6 htb e0 okLeast
  have e8 := fun r => e183 (d := d + 3) (I := K0) (L := L) (r := r) hS hm6 htb e0 okMost
  simp only [b2_f w7] at e7
  simp only [b2_f w8] at e8
  have s1 := tm5 t1
  refine ⟨noI K1 c.length (i32 1) (i32 (kno (lwd tb m p))), frN_t (frN_71 f01) (no_fr (by omega)), ⟨no_TM t1, no_LN (e := (1, kno (lwd tb m p))) L1, by rw [no_8]; exact g8⟩, fun r => ?_⟩
  simp (disch := first | assumption | omega) only [in203, k203_0, k203_1, k203_4, k203_7, k203_8, k203_9, k203_12, k203_13, k203_15, k203_16, k203_17, k203_19, k203_21, k203_22, k203_25, k203_28, k203_30, k203_33, k203_34, k203_36, k203_38, k203_40, k203_42, k203_43, k203_44, k203_47, k203_50, k203_52, k203_55, k203_56, k203_57, k203_58, k203_59, k203_62, k203_63, k203_66, k203_69, k203_70, k203_71, k203_74, k203_75, k203_77, k203_80, k203_81, k203_84, k203_85, k203_87, k203_90, k203_91, k203_94, k203_95, k203_97, k203_100, k203_101, k203_102, k203_103, k203_106, k203_107, k203_107r, k203_108, k203_111, k203_112, k203_113, k203_116, k203_117, k203_118, k203_119, k203_122, k203_125, k203_127, k203_130, k203_131, k203_134, k203_137, k203_138, k203_139, k203_139r, k203_140, k203_143, k203_144, k203_145, k203_148, k203_149, k203_152, k203_153, k203_155, k203_158, k203_159, k203_159r, k203_160, k203_163, k203_164, k203_165, k203_168, k203_169, k203_170, k203_173, k203_174, k203_175, k203_176, k203_179, k203_180, k203_181, k203_182, k203_185, k203_188, k203_189, k203_190, k203_191, k203_192, k203_195, k203_198, k203_201, c_0, c_1, c_5, c_7, c_8, c_12, c_13, c_15, c_19, c_20, c_40, c_41, c_44, c_999, hS, t_71, f_71_9, f_71_10, f_71_11, f_71_12, f_71_13, f_71_14, f_71_15, f_71_16, f_71_17, f_71_20, f_71_21, f_71_22, f_71_23, f_71_24, f_71_25, f_71_26, f_71_28, f_71_29, f_71_30, f_71_31, f_71_32, f_71_40, f_71_41, t_72, l_72, t_73, l_73, t_74, l_74, t_75, l_75, t_76, l_76, t_77, l_77, t_84, l_84, t_91, l_91, t_104, l_104, t_117, l_117, t_278, l_278, t_439, l_439, t_446, l_446, t_453, l_453, t_454, l_454, t_455, l_455, t_536, l_536, t_537, l_537, t_538, l_538, t_539, l_539, t_556, l_556, t_560, l_560, t_561, l_561, f_77, t_78, l_78, f_84, t_85, l_85, f_91, t_92, l_92, f_104, t_105, l_105, f_117, t_118, l_118, f_278, t_279, l_279, f_439, t_440, l_440, f_446, t_447, l_447, f_455, t_456, l_456, f_539, t_540, l_540, f_556, t_557, l_557, w_t, w_l, rowX_s, rowX_n, rowX_f, rowX_2, up_s, up_n, Nat.zero_add, n_m1, i_dec, cat_n, cat_i, cat_r, cat_l, i_add, i_tn, i_vi, i_lt, i_eq, i_shl, n_ltT, n_ltF, n_eqT, n_eqF, n_leT, t_and, nb_0, nb_1, b2_0, b2_n, cont_v, cont_n, ex_eq, u_s, u_c, u_j, ↓reduceIte, ite_not, not_true_eq_false, not_false_eq_true, Bool.false_eq_true, Bool.true_eq_false, false_and, true_and, and_false, and_true, or_self, or_false, false_or, or_true, true_or, cont_x, n_leF, c_1, s5, h0, e7, e8, a0, hx, hx2, h1, mm_ne, d198 hS s1 L1.1 (by omega : c.length < 160)]
/-- too deep -/
theorem q203o {d n p : Nat} {J : VI} {L : VL} {S : SW} (hS : S.1 = W0 n) (hm : m ≤ 150) (htb : ∀ k, tb k < 256) (hT : TM tb m p 0 0 J) (h8 : J 71 8 = i32 6) (hw : (p < m ∧ tb p = 40) ∨ lwd tb m p = wLeast ∨ lwd tb m p = wMost) : ∃ J', frN J J' ∧ lmQ tb m 6 J' (.inr (3, p)) ∧ ∀ r, EvD (d + 8) 203 [.ref 71] J L S r ↔ r = (.inl none, J', L, S) := by
  have hm6 : m ≤ 600 := by omega
  have hpm := tm_le hT
  have s5 := tm5 hT
  obtain ⟨K0, f0, e0, h0⟩ := q176 (d := d + 5) (L := L) hS hm6 htb hT
  have a0 : K0 71 4 = i32 p := e0.2.2.2.1
  have s0 : K0 71 5 = i32 0 := e0.2.2.2.2
  have k8 : K0 71 8 = i32 6 := by rw [f0 _ _ (by omega)]; exact h8
  obtain ⟨x, ex, hx⟩ := q175 (n := n) hm6 htb e0
  obtain ⟨w3f, w3t⟩ := q177 (w := 3) (pl := p) (by omega) e0
  have e7 := fun r => e183 (d := d + 3) (I := K0) (L := L) (r := r) hS hm6 htb e0 okLeast
  have e8 := fun r => e183 (d := d + 3) (I := K0) (L := L) (r := r) hS hm6 htb e0 okMost
  refine ⟨_, frN_t (frN_71 f0) (frN_71 w3f), ⟨⟨by omega, by omega⟩, w3t⟩, fun r => ?_⟩
  by_cases w7 : lwd tb m p = wLeast
  · simp only [b2_t w7] at e7
    simp (disch := first | assumption | omega) only [in203, k203_0, k203_1, k203_4, k203_7, k203_8, k203_9, k203_12, k203_13, k203_15, k203_16, k203_17, k203_19, k203_21, k203_22, k203_25, k203_28, k203_30, k203_33, k203_34, k203_36, k203_38, k203_40, k203_42, k203_43, k203_44, k203_47, k203_50, k203_52, k203_55, k203_56, k203_57, k203_58, k203_59, k203_62, k203_63, k203_66, k203_69, k203_70, k203_71, k203_74, k203_75, k203_77, k203_80, k203_81, k203_84, k203_85, k203_87, k203_90, k203_91, k203_94, k203_95, k203_97, k203_100, k203_101, k203_102, k203_103, k203_106, k203_107, k203_107r, k203_108, k203_111, k203_112, k203_113, k203_116, k203_117, k203_118, k203_119, k203_122, k203_125, k203_127, k203_130, k203_131, k203_134, k203_137, k203_138, k203_139, k203_139r, k203_140, k203_143, k203_144, k203_145, k203_148, k203_149, k203_152, k203_153, k203_155, k203_158, k203_159, k203_159r, k203_160, k203_163, k203_164, k203_165, k203_168, k203_169, k203_170, k203_173, k203_174, k203_175, k203_176, k203_179, k203_180, k203_181, k203_182, k203_185, k203_188, k203_189, k203_190, k203_191, k203_192, k203_195, k203_198, k203_201, c_0, c_1, c_5, c_7, c_8, c_12, c_13, c_15, c_19, c_20, c_40, c_41, c_44, c_999, hS, t_71, f_71_9, f_71_10, f_71_11, f_71_12, f_71_13, f_71_14, f_71_15, f_71_16, f_71_17, f_71_20, f_71_21, f_71_22, f_71_23, f_71_24, f_71_25, f_71_26, f_71_28, f_71_29, f_71_30, f_71_31, f_71_32, f_71_40, f_71_41, t_72, l_72, t_73, l_73, t_74, l_74, t_75, l_75, t_76, l_76, t_77, l_77, t_84, l_84, t_91, l_91, t_104, l_104, t_117, l_117, t_278, l_278, t_439, l_439, t_446, l_446, t_453, l_453, t_454, l_454, t_455, l_455, t_536, l_536, t_537, l_537, t_538, l_538, t_539, l_539, t_556, l_556, t_560, l_560, t_561, l_561, f_77, t_78, l_78, f_84, t_85, l_85, f_91, t_92, l_92, f_104, t_105, l_105, f_117, t_118, l_118, f_278, t_279, l_279, f_439, t_440, l_440, f_446, t_447, l_447, f_455, t_456, l_456, f_539, t_540, l_540, f_556, t_557, l_557, w_t, w_l, rowX_s, rowX_n, rowX_f, rowX_2, up_s, up_n, Nat.zero_add, n_m1, i_dec, cat_n, cat_i, cat_r, cat_l, i_add, i_tn, i_vi, i_lt, i_eq, i_shl, n_ltT, n_ltF, n_eqT, n_eqF, n_leT, t_and, nb_0, nb_1, b2_0, b2_n, cont_v, cont_n, ex_eq, u_s, u_c, u_j, ↓reduceIte, ite_not, not_true_eq_false, not_false_eq_true, Bool.false_eq_true, Bool.true_eq_false, false_and, true_and, and_false, and_true, or_self, or_false, false_or, or_true, true_or, cont_x, n_leF, c_1, s5, h0, e7, mm_ne, d199f hS s0 k8 a0]
  · simp only [b2_f w7] at e7
    by_cases w8 : lwd tb m p = wMost
    · simp only [b2_t w8] at e8
      simp (disch := first | assumption | omega) only [in203, k203_0, k203_1, k203_4, k203_7, k203_8, k203_9, k203_12, k203_13, k203_15, k203_16, k203_17, k203_19, k203_21, k203_22, k203_25, k203_28, k203_30, k203_33, k203_34, k203_36, k203_38, k203_40, k203_42, k203_43, k203_44, k203_47, k203_50, k203_52, k203_55, k203_56, k203_57, k203_58, k203_59, k203_62, k203_63, k203_66, k203_69, k203_70, k203_71, k203_74, k203_75, k203_77, k203_80, k203_81, k203_84, k203_85, k203_87, k203_90, k203_91, k203_94, k203_95, k203_97, k203_100, k203_101, k203_102, k203_103, k203_106, k203_107, k203_107r, k203_108, k203_111, k203_112, k203_113, k203_116, k203_117, k203_118, k203_119, k203_122, k203_125, k203_127, k203_130, k203_131, k203_134, k203_137, k203_138, k203_139, k203_139r, k203_140, k203_143, k203_144, k203_145, k203_148, k203_149, k203_152, k203_153, k203_155, k203_158, k203_159, k203_159r, k203_160, k203_163, k203_164, k203_165, k203_168, k203_169, k203_170, k203_173, k203_174, k203_175, k203_176, k203_179, k203_180, k203_181, k203_182, k203_185, k203_188, k203_189, k203_190, k203_191, k203_192, k203_195, k203_198, k203_201, c_0, c_1, c_5, c_7, c_8, c_12, c_13, c_15, c_19, c_20, c_40, c_41, c_44, c_999, hS, t_71, f_71_9, f_71_10, f_71_11, f_71_12, f_71_13, f_71_14, f_71_15, f_71_16, f_71_17, f_71_20, f_71_21, f_71_22, f_71_23, f_71_24, f_71_25, f_71_26, f_71_28, f_71_29, f_71_30, f_71_31, f_71_32, f_71_40, f_71_41, t_72, l_72, t_73, l_73, t_74, l_74, t_75, l_75, t_76, l_76, t_77, l_77, t_84, l_84, t_91, l_91, t_104, l_104, t_117, l_117, t_278, l_278, t_439, l_439, t_446, l_446, t_453, l_453, t_454, l_454, t_455, l_455, t_536, l_536, t_537, l_537, t_538, l_538, t_539, l_539, t_556, l_556, t_560, l_560, t_561, l_561, f_77, t_78, l_78, f_84, t_85, l_85, f_91, t_92, l_92, f_104, t_105, l_105, f_117, t_118, l_118, f_278, t_279, l_279, f_439, t_440, l_440, f_446, t_447, l_447, f_455, t_456, l_456, f_539, t_540, l_540, f_556, t_557, l_557, w_t, w_l, rowX_s, rowX_n, rowX_f, rowX_2, up_s, up_n, Nat.zero_add, n_m1, i_dec, cat_n, cat_i, cat_r, cat_l, i_add, i_tn, i_vi, i_lt, i_eq, i_shl, n_ltT, n_ltF, n_eqT, n_eqF, n_leT, t_and, nb_0, nb_1, b2_0, b2_n, cont_v, cont_n, ex_eq, u_s, u_c, u_j, ↓reduceIte, ite_not, not_true_eq_false, not_false_eq_true, Bool.false_eq_true, Bool.true_eq_false, false_and, true_and, and_false, and_true, or_self, or_false, false_or, or_true, true_or, cont_x, n_leF, c_1, s5, h0, e7, e8, mm_ne, d199f hS s0 k8 a0]
    · simp only [b2_f w8] at e8
      have hb : p < m ∧ tb p = 40 := by rcases hw with h | h | h; exact h; exact absurd h w7; exact absurd h w8
      have hx2 : x = i32 40 := by rw [ex]; exact hb
      simp (disch := first | assumption | omega) only [in203, k203_0, k203_1, k203_4, k203_7, k203_8, k203_9, k203_12, k203_13, k203_15, k203_16, k203_17, k203_19, k203_21, k203_22, k203_25, k203_28, k203_30, k203_33, k203_34, k203_36, k203_38, k203_40, k203_42, k203_43, k203_44, k203_47, k203_50, k203_52, k203_55, k203_56, k203_57, k203_58, k203_59, k203_62, k203_63, k203_66, k203_69, k203_70, k203_71, k203_74, k203_75, k203_77, k203_80, k203_81, k203_84, k203_85, k203_87, k203_90, k203_91, k203_94, k203_95, k203_97, k203_100, k203_101, k203_102, k203_103, k203_106, k203_107, k203_107r, k203_108, k203_111, k203_112, k203_113, k203_116, k203_117, k203_118, k203_119, k203_122, k203_125, k203_127, k203_130, k203_131, k203_134, k203_137, k203_138, k203_139, k203_139r, k203_140, k203_143, k203_144, k203_145, k203_148, k203_149, k203_152, k203_153, k203_155, k203_158, k203_159, k203_159r, k203_160, k203_163, k203_164, k203_165, k203_168, k203_169, k203_170, k203_173, k203_174, k203_175, k203_176, k203_179, k203_180, k203_181, k203_182, k203_185, k203_188, k203_189, k203_190, k203_191, k203_192, k203_195, k203_198, k203_201, c_0, c_1, c_5, c_7, c_8, c_12, c_13, c_15, c_19, c_20, c_40, c_41, c_44, c_999, hS, t_71, f_71_9, f_71_10, f_71_11, f_71_12, f_71_13, f_71_14, f_71_15, f_71_16, f_71_17, f_71_20, f_71_21, f_71_22, f_71_23, f_71_24, f_71_25, f_71_26, f_71_28, f_71_29, f_71_30, f_71_31, f_71_32, f_71_40, f_71_41, t_72, l_72, t_73, l_73, t_74, l_74, t_75, l_75, t_76, l_76, t_77, l_77, t_84, l_84, t_91, l_91, t_104, l_104, t_117, l_117, t_278, l_278, t_439, l_439, t_446, l_446, t_453, l_453, t_454, l_454, t_455, l_455, t_536, l_536, t_537, l_537, t_538, l_538, t_539, l_539, t_556, l_556, t_560, l_560, t_561, l_561, f_77, t_78, l_78, f_84, t_85, l_85, f_91, t_92, l_92, f_104, t_105, l_105, f_117, t_118, l_118, f_278, t_279, l_279, f_439, t_440, l_440, f_446, t_447, l_447, f_455, t_456, l_456, f_539, t_540, l_540, f_556, t_557, l_557, w_t, w_l, rowX_s, rowX_n, rowX_f, rowX_2, up_s, up_n, Nat.zero_add, n_m1, i_dec, cat_n, cat_i, cat_r, cat_l, i_add, i_tn, i_vi, i_lt, i_eq, i_shl, n_ltT, n_ltF, n_eqT, n_eqF, n_leT, t_and, nb_0, nb_1, b2_0, b2_n, cont_v, cont_n, ex_eq, u_s, u_c, u_j, ↓reduceIte, ite_not, not_true_eq_false, not_false_eq_true, Bool.false_eq_true, Bool.true_eq_false, false_and, true_and, and_false, and_true, or_self, or_false, false_or, or_true, true_or, cont_x, n_leF, c_1, s5, h0, e7, e8, a0, hx, hx2, d199f hS s0 k8 a0]
/-- a bracket -/
theorem q203b {d n p o : Nat} {c : List (Nat × Nat)} {Q : List (Nat × Nat) → Nat → LX} {J : VI} {L : VL} {S : SW} (hS : S.1 = W0 n) (hm : m ≤ 150) (htb : ∀ k, tb k < 256) (ho : o < 6) (hQ : UM n tb m Q (d + 7) 200 (o + 1)) (hB : UB m Q) (hT : TM tb m p 0 0 J) (hL : LN J c) (h8 : J 71 8 = i32 o) (hcp : c.length ≤ p) (hb : p < m ∧ tb p = 40) : ∃ J', frN J J' ∧ lmQ tb m o J' (siX tb m 41 (Q c (sk tb m (p + 1))) fun c p => .inl (c, p)) ∧ ∀ r, EvD (d + 8) 203 [.ref 71] J L S r ↔ r = (.inl none, J', L, S) := by
  have hm6 : m ≤ 600 := by omega
  have hpm := tm_le hT
  have s5 := tm5 hT
  have hnil := ch_nl (tb := tb) (m := m) hb.2
  have w7 : ¬ lwd tb m p = wLeast := by rw [hnil]; decide
  have w8 : ¬ lwd tb m p = wMost := by rw [hnil]; decide
  obtain ⟨K0, f0, e0, h0⟩ := q176 (d := d + 5) (L := L) hS hm6 htb hT
  have a0 : K0 71 4 = i32 p := e0.2.2.2.1
  have s0 : K0 71 5 = i32 0 := e0.2.2.2.2
  have k8 : K0 71 8 = i32 o := by rw [f0 _ _ (by omega)]; exact h8
  obtain ⟨x, ex, hx⟩ := q175 (n := n) hm6 htb e0
  have hx2 : x = i32 40 := by rw [ex]; exact hb
  have e7 := fun r => e183 (d := d + 3) (I := K0) (L := L) (r := r) hS hm6 htb e0 okLeast
  have e8 := fun r => e183 (d := d + 3) (I := K0) (L := L) (r := r) hS hm6 htb e0 okMost
  simp only [b2_f w7] at e7
  simp only [b2_f w8] at e8
  have eo : i32 (o + 1) - i32 1 = i32 o := by rw [i_sub (by omega), Nat.add_sub_cancel]
  obtain ⟨M, hM⟩ : ∃ M, u2 (u2 K0 71 8 (i32 (o + 1))) 71 4 (i32 (p + 1)) = M := ⟨_, rfl⟩
  have tM : TM tb m (sk tb m (p + 1)) 0 0 M := by
    obtain ⟨⟨h2, h72⟩, _, _, _, _⟩ := e0
    rw [← hM]
    exact ⟨⟨by rw [u_j (by omega), u_j (by omega)]; exact h2, fun k hk => by rw [u_c (by omega), u_c (by omega)]; exact h72 k hk⟩, p + 1, by omega, u_s, by rw [u_j (by omega), u_j (by omega)]; exact s0, fun _ => rfl, fun z => absurd rfl z⟩
  have M8 : M 71 8 = i32 (o + 1) := by rw [← hM, u_j (by omega), u_s]
  have FM : frN J M := fun a b e f => by
    rw [← hM]
    by_cases e1 : a = 71
    · subst e1; rw [u_j (by omega), u_j (by omega), f0 _ _ (by omega)]
    · rw [u_c e1, u_c e1, f0 _ _ (by omega)]
  have FM2 : ∀ a b, ¬ (a = 71 ∧ ((4 ≤ b ∧ b ≤ 6) ∨ b = 8)) → M a b = J a b := fun a b e => by
    rw [← hM]
    by_cases e1 : a = 71
    · subst e1; rw [u_j (by omega), u_j (by omega), f0 _ _ (by omega)]
    · rw [u_c e1, u_c e1, f0 _ _ (by omega)]
  have LM : LN M c := ⟨by rw [FM2 _ _ (by omega)]; exact hL.1, fun k hk => by rw [FM2 _ _ (by omega), FM2 _ _ (by omega)]; exact hL.2 k hk⟩
  have s1 := sk_ge (tb := tb) (m := m) (a := p + 1)
  have s2 := sk_le (tb := tb) (n := m) (a := p + 1) (by omega)
  obtain ⟨K2, f2, q2, h2⟩ := hQ c _ M L S hS tM LM M8 (by omega)
  generalize sk tb m (p + 1) = p1 at *
  cases hu : Q c p1 with
  | inr e =>
    obtain ⟨f, pl⟩ := e
    rw [hu] at q2
    obtain ⟨⟨g0, g9⟩, tK⟩ := q2
    refine ⟨u2 K2 71 8 (K2 71 8 - i32 1), frN_t (frN_t FM f2) frN_8, ⟨⟨g0, g9⟩, tm_w (by omega) tK⟩, fun r => ?_⟩
    simp (disch := first | assumption | omega) only [in203, k203_0, k203_1, k203_4, k203_7, k203_8, k203_9, k203_12, k203_13, k203_15, k203_16, k203_17, k203_19, k203_21, k203_22, k203_25, k203_28, k203_30, k203_33, k203_34, k203_36, k203_38, k203_40, k203_42, k203_43, k203_44, k203_47, k203_50, k203_52, k203_55, k203_56, k203_57, k203_58, k203_59, k203_62, k203_63, k203_66, k203_69, k203_70, k203_71, k203_74, k203_75, k203_77, k203_80, k203_81, k203_84, k203_85, k203_87, k203_90, k203_91, k203_94, k203_95, k203_97, k203_100, k203_101, k203_102, k203_103, k203_106, k203_107, k203_107r, k203_108, k203_111, k203_112, k203_113, k203_116, k203_117, k203_118, k203_119, k203_122, k203_125, k203_127, k203_130, k203_131, k203_134, k203_137, k203_138, k203_139, k203_139r, k203_140, k203_143, k203_144, k203_145, k203_148, k203_149, k203_152, k203_153, k203_155, k203_158, k203_159, k203_159r, k203_160, k203_163, k203_164, k203_165, k203_168, k203_169, k203_170, k203_173, k203_174, k203_175, k203_176, k203_179, k203_180, k203_181, k203_182, k203_185, k203_188, k203_189, k203_190, k203_191, k203_192, k203_195, k203_198, k203_201, c_0, c_1, c_5, c_7, c_8, c_12, c_13, c_15, c_19, c_20, c_40, c_41, c_44, c_999, hS, t_71, f_71_9, f_71_10, f_71_11, f_71_12, f_71_13, f_71_14, f_71_15, f_71_16, f_71_17, f_71_20, f_71_21, f_71_22, f_71_23, f_71_24, f_71_25, f_71_26, f_71_28, f_71_29, f_71_30, f_71_31, f_71_32, f_71_40, f_71_41, t_72, l_72, t_73, l_73, t_74, l_74, t_75, l_75, t_76, l_76, t_77, l_77, t_84, l_84, t_91, l_91, t_104, l_104, t_117, l_117, t_278, l_278, t_439, l_439, t_446, l_446, t_453, l_453, t_454, l_454, t_455, l_455, t_536, l_536, t_537, l_537, t_538, l_538, t_539, l_539, t_556, l_556, t_560, l_560, t_561, l_561, f_77, t_78, l_78, f_84, t_85, l_85, f_91, t_92, l_92, f_104, t_105, l_105, f_117, t_118, l_118, f_278, t_279, l_279, f_439, t_440, l_440, f_446, t_447, l_447, f_455, t_456, l_456, f_539, t_540, l_540, f_556, t_557, l_557, w_t, w_l, rowX_s, rowX_n, rowX_f, rowX_2, up_s, up_n, Nat.zero_add, n_m1, i_dec, cat_n, cat_i, cat_r, cat_l, i_add, i_tn, i_vi, i_lt, i_eq, i_shl, n_ltT, n_ltF, n_eqT, n_eqF, n_leT, t_and, nb_0, nb_1, b2_0, b2_n, cont_v, cont_n, ex_eq, u_s, u_c, u_j, ↓reduceIte, ite_not, not_true_eq_false, not_false_eq_true, Bool.false_eq_true, Bool.true_eq_false, false_and, true_and, and_false, and_true, or_self, or_false, false_or, or_true, true_or, cont_x, n_leF, c_1, s5, h0, e7, e8, a0, hx, hx2, d199o hS ho s0 k8, hM, h2, q186f hS g0 g9 tK]
  | inl e =>
    obtain ⟨c2, p2⟩ := e
    rw [hu] at q2
    obtain ⟨tK, L2, g8⟩ := q2
    obtain ⟨⟨b1, b2', b3⟩, _⟩ := hB _ _ _ _ hu s2
    obtain ⟨K3, f3, t3, h3⟩ := q186 (d := d + 4) (L := L) (c := 41) hS hm6 htb (by omega) tK
    have L3 := LN_71 (by omega) f3 L2
    have g38 : K3 71 8 = i32 (o + 1) := by rw [f3 _ _ (by omega)]; exact g8
    rw [siX]
    refine ⟨u2 K3 71 8 (i32 o), frN_t (frN_t FM (frN_t f2 (frN_71 f3))) frN_8, ?_, fun r => ?_⟩
    · by_cases a2 : p2 < m ∧ tb p2 = 41
      · rw [if_pos a2] at t3 ⊢
        exact ⟨tm_w (by omega) t3, LN_8 L3, u_s⟩
      · rw [if_neg a2] at t3 ⊢
        exact ⟨⟨by omega, by omega⟩, tm_w (by omega) t3⟩
    · simp (disch := first | assumption | omega) only [in203, k203_0, k203_1, k203_4, k203_7, k203_8, k203_9, k203_12, k203_13, k203_15, k203_16, k203_17, k203_19, k203_21, k203_22, k203_25, k203_28, k203_30, k203_33, k203_34, k203_36, k203_38, k203_40, k203_42, k203_43, k203_44, k203_47, k203_50, k203_52, k203_55, k203_56, k203_57, k203_58, k203_59, k203_62, k203_63, k203_66, k203_69, k203_70, k203_71, k203_74, k203_75, k203_77, k203_80, k203_81, k203_84, k203_85, k203_87, k203_90, k203_91, k203_94, k203_95, k203_97, k203_100, k203_101, k203_102, k203_103, k203_106, k203_107, k203_107r, k203_108, k203_111, k203_112, k203_113, k203_116, k203_117, k203_118, k203_119, k203_122, k203_125, k203_127, k203_130, k203_131, k203_134, k203_137, k203_138, k203_139, k203_139r, k203_140, k203_143, k203_144, k203_145, k203_148, k203_149, k203_152, k203_153, k203_155, k203_158, k203_159, k203_159r, k203_160, k203_163, k203_164, k203_165, k203_168, k203_169, k203_170, k203_173, k203_174, k203_175, k203_176, k203_179, k203_180, k203_181, k203_182, k203_185, k203_188, k203_189, k203_190, k203_191, k203_192, k203_195, k203_198, k203_201, c_0, c_1, c_5, c_7, c_8, c_12, c_13, c_15, c_19, c_20, c_40, c_41, c_44, c_999, hS, t_71, f_71_9, f_71_10, f_71_11, f_71_12, f_71_13, f_71_14, f_71_15, f_71_16, f_71_17, f_71_20, f_71_21, f_71_22, f_71_23, f_71_24, f_71_25, f_71_26, f_71_28, f_71_29, f_71_30, f_71_31, f_71_32, f_71_40, f_71_41, t_72, l_72, t_73, l_73, t_74, l_74, t_75, l_75, t_76, l_76, t_77, l_77, t_84, l_84, t_91, l_91, t_104, l_104, t_117, l_117, t_278, l_278, t_439, l_439, t_446, l_446, t_453, l_453, t_454, l_454, t_455, l_455, t_536, l_536, t_537, l_537, t_538, l_538, t_539, l_539, t_556, l_556, t_560, l_560, t_561, l_561, f_77, t_78, l_78, f_84, t_85, l_85, f_91, t_92, l_92, f_104, t_105, l_105, f_117, t_118, l_118, f_278, t_279, l_279, f_439, t_440, l_440, f_446, t_447, l_447, f_455, t_456, l_456, f_539, t_540, l_540, f_556, t_557, l_557, w_t, w_l, rowX_s, rowX_n, rowX_f, rowX_2, up_s, up_n, Nat.zero_add, n_m1, i_dec, cat_n, cat_i, cat_r, cat_l, i_add, i_tn, i_vi, i_lt, i_eq, i_shl, n_ltT, n_ltF, n_eqT, n_eqF, n_leT, t_and, nb_0, nb_1, b2_0, b2_n, cont_v, cont_n, ex_eq, u_s, u_c, u_j, ↓reduceIte, ite_not, not_true_eq_false, not_false_eq_true, Bool.false_eq_true, Bool.true_eq_false, false_and, true_and, and_false, and_true, or_self, or_false, false_or, or_true, true_or, cont_x, n_leF, c_1, s5, h0, e7, e8, a0, hx, hx2, d199o hS ho s0 k8, hM, h2, h3, g38, eo]
end LawT
