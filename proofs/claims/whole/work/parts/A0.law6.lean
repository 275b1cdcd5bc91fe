/-! THE LAW'S TEXT: the reference's pairs and sums -/
section LawT
variable {tb : Nat → Nat} {m : Nat}
theorem q203p {d n p o how : Nat} {c : List (Nat × Nat)} {Q : List (Nat × Nat) → Nat → LX} {J : VI} {L : VL} {S : SW} (hS : S.1 = W0 n) (hm : m ≤ 150) (htb : ∀ k, tb k < 256) (ho : o < 6) (hQ : UM n tb m Q (d + 7) 200 (o + 1)) (hB : UB m Q) (hT : TM tb m p 0 0 J) (hL : LN J c) (h8 : J 71 8 = i32 o) (hcp : c.length ≤ p) (hw : (how = 7 ∧ lwd tb m p = wLeast) ∨ (how = 8 ∧ lwd tb m p = wMost)) : ∃ J', frN J J' ∧ lmQ tb m o J' (paA tb m Q how c (sk tb m (ltE tb m p))) ∧ ∀ r, EvD (d + 8) 203 [.ref 71] J L S r ↔ r = (.inl none, J', L, S) := by
  have hm6 : m ≤ 600 := by omega
  have hpm := tm_le hT
  have s5 := tm5 hT
  obtain ⟨K0, f0, e0, h0⟩ := q176 (d := d + 5) (L := L) hS hm6 htb hT
  have s0 : K0 71 5 = i32 0 := e0.2.2.2.2
  have k8 : K0 71 8 = i32 o := by rw [f0 _ _ (by omega)]; exact h8
  have eo : i32 (o + 1) - i32 1 = i32 o := by rw [i_sub (by omega), Nat.add_sub_cancel]
  obtain ⟨M, hM⟩ : ∃ M, u2 K0 71 8 (i32 (o + 1)) = M := ⟨_, rfl⟩
  have eM : TE tb m p M := by rw [← hM]; exact te_u8 e0
  have LM : LN M c := by rw [← hM]; exact LN_8 (LN_71 (by omega) f0 hL)
  have M8 : M 71 8 = i32 (o + 1) := by rw [← hM, u_s]
  have FM : frN J M := by rw [← hM]; exact frN_t (frN_71 f0) frN_8
  have l2 : ltE tb m p ≤ m := adv_le p hpm
  have l1 : p ≤ ltE tb m p := adv_ge p
  have s3 := sk_ge (tb := tb) (m := m) (a := ltE tb m p)
  have s4 := sk_le (tb := tb) (n := m) (a := ltE tb m p) l2
  obtain ⟨N0, fN0, tN0, hN0⟩ := q184 (d := d + 5) (L := L) (pl := 0) hS hm6 htb eM
  generalize sk tb m (ltE tb m p) = p0 at *
  have e7 := fun r => e183 (d := d + 3) (I := K0) (L := L) (r := r) hS hm6 htb e0 okLeast
  have e8 := fun r => e183 (d := d + 3) (I := K0) (L := L) (r := r) hS hm6 htb e0 okMost
  have hstart : ∀ r, EvD (d + 8) 203 [.ref 71] J L S r ↔ Ev (d + 7) 203 74 [.ref 71, .int (i32 how), .retAddr 0] [] N0 L S r := fun r => by
    rcases hw with ⟨rfl, w7⟩ | ⟨rfl, w8⟩
    · simp only [b2_t w7] at e7
      simp (disch := first | assumption | omega) only [in203, k203_0, k203_1, k203_4, k203_7, k203_8, k203_9, k203_12, k203_13, k203_15, k203_16, k203_17, k203_19, k203_21, k203_22, k203_25, k203_28, k203_30, k203_33, k203_34, k203_36, k203_38, k203_40, k203_42, k203_43, k203_44, k203_47, k203_50, k203_52, k203_55, k203_56, k203_57, k203_58, k203_59, k203_62, k203_63, k203_66, k203_69, k203_70, k203_71, k203_75, k203_77, k203_80, k203_81, k203_84, k203_85, k203_87, k203_90, k203_91, k203_94, k203_95, k203_97, k203_100, k203_101, k203_102, k203_103, k203_106, k203_107, k203_107r, k203_108, k203_111, k203_112, k203_113, k203_116, k203_117, k203_118, k203_119, k203_122, k203_125, k203_127, k203_130, k203_131, k203_134, k203_137, k203_138, k203_139, k203_139r, k203_140, k203_143, k203_144, k203_145, k203_148, k203_149, k203_152, k203_153, k203_155, k203_158, k203_159, k203_159r, k203_160, k203_163, k203_164, k203_165, k203_168, k203_169, k203_170, k203_173, k203_174, k203_175, k203_176, k203_179, k203_180, k203_181, k203_182, k203_185, k203_188, k203_189, k203_190, k203_191, k203_192, k203_195, k203_198, k203_201, c_0, c_1, c_5, c_7, c_8, c_12, c_13, c_15, c_19, c_20, c_40, c_41, c_44, c_999, hS, t_71, f_71_9, f_71_10, f_71_11, f_71_12, f_71_13, f_71_14, f_71_15, f_71_16, f_71_17, f_71_20, f_71_21, f_71_22, f_71_23, f_71_24, f_71_25, f_71_26, f_71_28, f_71_29, f_71_30, f_71_31, f_71_32, f_71_40, f_71_41, t_72, l_72, t_73, l_73, t_74, l_74, t_75, l_75, t_76, l_76, t_77, l_77, t_84, l_84, t_91, l_91, t_104, l_104, t_117, l_117, t_278, l_278, t_439, l_439, t_446, l_446, t_453, l_453, t_454, l_454, t_455, l_455, t_536, l_536, t_537, l_537, t_538, l_538, t_539, l_539, t_556, l_556, t_560, l_560, t_561, l_561, f_77, t_78, l_78, f_84, t_85, l_85, f_91, t_92, l_92, f_104, t_105, l_105, f_117, t_118, l_118, f_278, t_279, l_279, f_439, t_440, l_440, f_446, t_447, l_447, f_455, t_456, l_456, f_539, t_540, l_540, f_556, t_557, l_557, w_t, w_l, rowX_s, rowX_n, rowX_f, rowX_2, up_s, up_n, Nat.zero_add, n_m1, i_dec, cat_n, cat_i, cat_r, cat_l, i_add, i_tn, i_vi, i_lt, i_eq, i_shl, n_ltT, n_ltF, n_eqT, n_eqF, n_leT, t_and, nb_0, nb_1, b2_0, b2_n, cont_v, cont_n, ex_eq, u_s, u_c, u_j, ↓reduceIte, ite_not, not_true_eq_false, not_false_eq_true, Bool.false_eq_true, Bool.true_eq_false, false_and, true_and, and_false, and_true, or_self, or_false, false_or, or_true, true_or, cont_x, n_leF, c_1, s5, h0, e7, mm_ne, d199o hS ho s0 k8, hM, hN0]
    · have w7 : ¬ lwd tb m p = wLeast := by rw [w8]; decide
      simp only [b2_f w7] at e7
      simp only [b2_t w8] at e8
      simp (disch := first | assumption | omega) only [in203, k203_0, k203_1, k203_4, k203_7, k203_8, k203_9, k203_12, k203_13, k203_15, k203_16, k203_17, k203_19, k203_21, k203_22, k203_25, k203_28, k203_30, k203_33, k203_34, k203_36, k203_38, k203_40, k203_42, k203_43, k203_44, k203_47, k203_50, k203_52, k203_55, k203_56, k203_57, k203_58, k203_59, k203_62, k203_63, k203_66, k203_69, k203_70, k203_71, k203_75, k203_77, k203_80, k203_81, k203_84, k203_85, k203_87, k203_90, k203_91, k203_94, k203_95, k203_97, k203_100, k203_101, k203_102, k203_103, k203_106, k203_107, k203_107r, k203_108, k203_111, k203_112, k203_113, k203_116, k203_117, k203_118, k203_119, k203_122, k203_125, k203_127, k203_130, k203_131, k203_134, k203_137, k203_138, k203_139, k203_139r, k203_140, k203_143, k203_144, k203_145, k203_148, k203_149, k203_152, k203_153, k203_155, k203_158, k203_159, k203_159r, k203_160, k203_163, k203_164, k203_165, k203_168, k203_169, k203_170, k203_173, k203_174, k203_175, k203_176, k203_179, k203_180, k203_181, k203_182, k203_185, k203_188, k203_189, k203_190, k203_191, k203_192, k203_195, k203_198, k203_201, c_0, c_1, c_5, c_7, c_8, c_12, c_13, c_15, c_19, c_20, c_40, c_41, c_44, c_999, hS, t_71, f_71_9, f_71_10, f_71_11, f_71_12, f_71_13, f_71_14, f_71_15, f_71_16, f_71_17, f_71_20, f_71_21, f_71_22, f_71_23, f_71_24, f_71_25, f_71_26, f_71_28, f_71_29, f_71_30, f_71_31, f_71_32, f_71_40, f_71_41, t_72, l_72, t_73, l_73, t_74, l_74, t_75, l_75, t_76, l_76, t_77, l_77, t_84, l_84, t_91, l_91, t_104, l_104, t_117, l_117, t_278, l_278, t_439, l_439, t_446, l_446, t_453, l_453, t_454, l_454, t_455, l_455, t_536, l_536, t_537, l_537, t_538, l_538, t_539, l_539, t_556, l_556, t_560, l_560, t_561, l_561, f_77, t_78, l_78, f_84, t_85, l_85, f_91, t_92, l_92, f_104, t_105, l_105, f_117, t_118, l_118, f_278, t_279, l_279, f_439, t_440, l_440, f_446, t_447, l_447, f_455, t_456, l_456, f_539, t_540, l_540, f_556, t_557, l_557, w_t, w_l, rowX_s, rowX_n, rowX_f, rowX_2, up_s, up_n, Nat.zero_add, n_m1, i_dec, cat_n, cat_i, cat_r, cat_l, i_add, i_tn, i_vi, i_lt, i_eq, i_shl, n_ltT, n_ltF, n_eqT, n_eqF, n_leT, t_and, nb_0, nb_1, b2_0, b2_n, cont_v, cont_n, ex_eq, u_s, u_c, u_j, ↓reduceIte, ite_not, not_true_eq_false, not_false_eq_true, Bool.false_eq_true, Bool.true_eq_false, false_and, true_and, and_false, and_true, or_self, or_false, false_or, or_true, true_or, cont_x, n_leF, c_1, s5, h0, e7, e8, mm_ne, d199o hS ho s0 k8, hM, hN0]
  have hh : how < 9 := by omega
  have hh7 : how = 7 ∨ how = 8 := by omega
  have LN0 := LN_71 (by omega) fN0 LM
  have N8 : N0 71 8 = i32 (o + 1) := by rw [fN0 _ _ (by omega)]; exact M8
  have FN0 := frN_t FM (frN_71 fN0)
  obtain ⟨K1, f1, t1, h1⟩ := q186 (d := d + 4) (L := L) (c := 91) hS hm6 htb (by omega) tN0
  have L1 := LN_71 (by omega) f1 LN0
  have K18 : K1 71 8 = i32 (o + 1) := by rw [f1 _ _ (by omega)]; exact N8
  have F1 := frN_t FN0 (frN_71 f1)
  unfold paA
  rw [siX]
  by_cases a1 : p0 < m ∧ tb p0 = 91
  · rw [if_pos a1] at t1 ⊢
    have s1 := sk_ge (tb := tb) (m := m) (a := p0 + 1)
    have s2 := sk_le (tb := tb) (n := m) (a := p0 + 1) (by omega)
    obtain ⟨K2, f2, q2, h2⟩ := hQ c _ K1 L S hS t1 L1 K18 (by omega)
    generalize sk tb m (p0 + 1) = p1 at *
    have F2 := frN_t F1 f2
    cases hu : Q c p1 with
    | inr e =>
      obtain ⟨f, pl⟩ := e
      rw [hu] at q2
      obtain ⟨⟨g0, g9⟩, tK⟩ := q2
      refine ⟨u2 K2 71 8 (K2 71 8 - i32 1), frN_t F2 frN_8, ⟨⟨g0, g9⟩, tm_w (by omega) tK⟩, fun r => (hstart r).trans ?_⟩
      simp (disch := first | assumption | omega) only [in203, k203_0, k203_1, k203_4, k203_7, k203_8, k203_9, k203_12, k203_13, k203_15, k203_16, k203_17, k203_19, k203_21, k203_22, k203_25, k203_28, k203_30, k203_33, k203_34, k203_36, k203_38, k203_40, k203_42, k203_43, k203_44, k203_47, k203_50, k203_52, k203_55, k203_56, k203_57, k203_58, k203_59, k203_62, k203_63, k203_66, k203_69, k203_70, k203_71, k203_74, k203_75, k203_77, k203_80, k203_81, k203_84, k203_85, k203_87, k203_90, k203_91, k203_94, k203_95, k203_97, k203_100, k203_101, k203_102, k203_103, k203_106, k203_107, k203_107r, k203_108, k203_111, k203_112, k203_113, k203_116, k203_117, k203_118, k203_119, k203_122, k203_125, k203_127, k203_130, k203_131, k203_134, k203_137, k203_138, k203_139, k203_139r, k203_140, k203_143, k203_144, k203_145, k203_148, k203_149, k203_152, k203_153, k203_155, k203_158, k203_159, k203_159r, k203_160, k203_163, k203_164, k203_165, k203_168, k203_169, k203_170, k203_173, k203_174, k203_175, k203_176, k203_179, k203_180, k203_181, k203_182, k203_185, k203_188, k203_189, k203_190, k203_191, k203_192, k203_195, k203_198, k203_201, c_0, c_1, c_5, c_7, c_8, c_12, c_13, c_15, c_19, c_20, c_40, c_41, c_44, c_999, hS, t_71, f_71_9, f_71_10, f_71_11, f_71_12, f_71_13, f_71_14, f_71_15, f_71_16, f_71_17, f_71_20, f_71_21, f_71_22, f_71_23, f_71_24, f_71_25, f_71_26, f_71_28, f_71_29, f_71_30, f_71_31, f_71_32, f_71_40, f_71_41, t_72, l_72, t_73, l_73, t_74, l_74, t_75, l_75, t_76, l_76, t_77, l_77, t_84, l_84, t_91, l_91, t_104, l_104, t_117, l_117, t_278, l_278, t_439, l_439, t_446, l_446, t_453, l_453, t_454, l_454, t_455, l_455, t_536, l_536, t_537, l_537, t_538, l_538, t_539, l_539, t_556, l_556, t_560, l_560, t_561, l_561, f_77, t_78, l_78, f_84, t_85, l_85, f_91, t_92, l_92, f_104, t_105, l_105, f_117, t_118, l_118, f_278, t_279, l_279, f_439, t_440, l_440, f_446, t_447, l_447, f_455, t_456, l_456, f_539, t_540, l_540, f_556, t_557, l_557, w_t, w_l, rowX_s, rowX_n, rowX_f, rowX_2, up_s, up_n, Nat.zero_add, n_m1, i_dec, cat_n, cat_i, cat_r, cat_l, i_add, i_tn, i_vi, i_lt, i_eq, i_shl, n_ltT, n_ltF, n_eqT, n_eqF, n_leT, t_and, nb_0, nb_1, b2_0, b2_n, cont_v, cont_n, ex_eq, u_s, u_c, u_j, ↓reduceIte, ite_not, not_true_eq_false, not_false_eq_true, Bool.false_eq_true, Bool.true_eq_false, false_and, true_and, and_false, and_true, or_self, or_false, false_or, or_true, true_or, cont_x, n_leF, c_1, c_91b, c_93b, h1, h2, q186f hS g0 g9 tK, q200f hS g0 g9 tK, d198f hS g0 g9 (tm5 tK)]
    | inl e =>
      obtain ⟨c2, p2⟩ := e
      rw [hu] at q2
      obtain ⟨tK, L2, K28⟩ := q2
      obtain ⟨⟨b1, b2', b3⟩, _⟩ := hB _ _ _ _ hu s2
      obtain ⟨K3, f3, t3, h3⟩ := q186 (d := d + 4) (L := L) (c := 44) hS hm6 htb (by omega) tK
      have L3 := LN_71 (by omega) f3 L2
      have K38 : K3 71 8 = i32 (o + 1) := by rw [f3 _ _ (by omega)]; exact K28
      have F3 := frN_t F2 (frN_71 f3)
      rw [siX]
      by_cases a2 : p2 < m ∧ tb p2 = 44
      · rw [if_pos a2] at t3 ⊢
        have s5' := sk_ge (tb := tb) (m := m) (a := p2 + 1)
        have s6 := sk_le (tb := tb) (n := m) (a := p2 + 1) (by omega)
        obtain ⟨K4, f4, q4, h4⟩ := hQ c2 _ K3 L S hS t3 L3 K38 (by omega)
        generalize sk tb m (p2 + 1) = p3 at *
        have F4 := frN_t F3 f4
        cases hv : Q c2 p3 with
        | inr e =>
          obtain ⟨f, pl⟩ := e
          rw [hv] at q4
          obtain ⟨⟨g0, g9⟩, tK4⟩ := q4
          refine ⟨u2 K4 71 8 (K4 71 8 - i32 1), frN_t F4 frN_8, ⟨⟨g0, g9⟩, tm_w (by omega) tK4⟩, fun r => (hstart r).trans ?_⟩
          simp (disch := first | assumption | omega) only [in203, k203_0, k203_1, k203_4, k203_7, k203_8, k203_9, k203_12, k203_13, k203_15, k203_16, k203_17, k203_19, k203_21, k203_22, k203_25, k203_28, k203_30, k203_33, k203_34, k203_36, k203_38, k203_40, k203_42, k203_43, k203_44, k203_47, k203_50, k203_52, k203_55, k203_56, k203_57, k203_58, k203_59, k203_62, k203_63, k203_66, k203_69, k203_70, k203_71, k203_74, k203_75, k203_77, k203_80, k203_81, k203_84, k203_85, k203_87, k203_90, k203_91, k203_94, k203_95, k203_97, k203_100, k203_101, k203_102, k203_103, k203_106, k203_107, k203_107r, k203_108, k203_111, k203_112, k203_113, k203_116, k203_117, k203_118, k203_119, k203_122, k203_125, k203_127, k203_130, k203_131, k203_134, k203_137, k203_138, k203_139, k203_139r, k203_140, k203_143, k203_144, k203_145, k203_148, k203_149, k203_152, k203_153, k203_155, k203_158, k203_159, k203_159r, k203_160, k203_163, k203_164, k203_165, k203_168, k203_169, k203_170, k203_173, k203_174, k203_175, k203_176, k203_179, k203_180, k203_181, k203_182, k203_185, k203_188, k203_189, k203_190, k203_191, k203_192, k203_195, k203_198, k203_201, c_0, c_1, c_5, c_7, c_8, c_12, c_13, c_15, c_19, c_20, c_40, c_41, c_44, c_999, hS, t_71, f_71_9, f_71_10, f_71_11, f_71_12, f_71_13, f_71_14, f_71_15, f_71_16, f_71_17, f_71_20, f_71_21, f_71_22, f_71_23, f_71_24, f_71_25, f_71_26, f_71_28, f_71_29, f_71_30, f_71_31, f_71_32, f_71_40, f_71_41, t_72, l_72, t_73, l_73, t_74, l_74, t_75, l_75, t_76, l_76, t_77, l_77, t_84, l_84, t_91, l_91, t_104, l_104, t_117, l_117, t_278, l_278, t_439, l_439, t_446, l_446, t_453, l_453, t_454, l_454, t_455, l_455, t_536, l_536, t_537, l_537, t_538, l_538, t_539, l_539, t_556, l_556, t_560, l_560, t_561, l_561, f_77, t_78, l_78, f_84, t_85, l_85, f_91, t_92, l_92, f_104, t_105, l_105, f_117, t_118, l_118, f_278, t_279, l_279, f_439, t_440, l_440, f_446, t_447, l_447, f_455, t_456, l_456, f_539, t_540, l_540, f_556, t_557, l_557, w_t, w_l, rowX_s, rowX_n, rowX_f, rowX_2, up_s, up_n, Nat.zero_add, n_m1, i_dec, cat_n, cat_i, cat_r, cat_l, i_add, i_tn, i_vi, i_lt, i_eq, i_shl, n_ltT, n_ltF, n_eqT, n_eqF, n_leT, t_and, nb_0, nb_1, b2_0, b2_n, cont_v, cont_n, ex_eq, u_s, u_c, u_j, ↓reduceIte, ite_not, not_true_eq_false, not_false_eq_true, Bool.false_eq_true, Bool.true_eq_false, false_and, true_and, and_false, and_true, or_self, or_false, false_or, or_true, true_or, cont_x, n_leF, c_1, c_91b, c_93b, h1, h2, h3, h4, q186f hS g0 g9 tK4, d198f hS g0 g9 (tm5 tK4)]
        | inl e =>
          obtain ⟨c4, p4⟩ := e
          rw [hv] at q4
          obtain ⟨tK4, L4, K48⟩ := q4
          obtain ⟨⟨b4, b5, b6⟩, _⟩ := hB _ _ _ _ hv s6
          obtain ⟨K5, f5, t5, h5⟩ := q186 (d := d + 4) (L := L) (c := 93) hS hm6 htb (by omega) tK4
          have L5 := LN_71 (by omega) f5 L4
          have K58 : K5 71 8 = i32 (o + 1) := by rw [f5 _ _ (by omega)]; exact K48
          have F5 := frN_t F4 (frN_71 f5)
          rw [siX]
          by_cases a3 : p4 < m ∧ tb p4 = 93
          · rw [if_pos a3] at t5 ⊢
            have n8 : noI K5 c4.length (i32 how) (i32 0) 71 8 = i32 (o + 1) := by rw [no_8]; exact K58
            refine ⟨u2 (noI K5 c4.length (i32 how) (i32 0)) 71 8 (i32 o), frN_t (frN_t F5 (no_fr (by omega))) frN_8, ⟨tm_w (by omega) (no_TM t5), LN_8 (no_LN (e := (how, 0)) L5), u_s⟩, fun r => (hstart r).trans ?_⟩
            simp (disch := first | assumption | omega) only [in203, k203_0, k203_1, k203_4, k203_7, k203_8, k203_9, k203_12, k203_13, k203_15, k203_16, k203_17, k203_19, k203_21, k203_22, k203_25, k203_28, k203_30, k203_33, k203_34, k203_36, k203_38, k203_40, k203_42, k203_43, k203_44, k203_47, k203_50, k203_52, k203_55, k203_56, k203_57, k203_58, k203_59, k203_62, k203_63, k203_66, k203_69, k203_70, k203_71, k203_74, k203_75, k203_77, k203_80, k203_81, k203_84, k203_85, k203_87, k203_90, k203_91, k203_94, k203_95, k203_97, k203_100, k203_101, k203_102, k203_103, k203_106, k203_107, k203_107r, k203_108, k203_111, k203_112, k203_113, k203_116, k203_117, k203_118, k203_119, k203_122, k203_125, k203_127, k203_130, k203_131, k203_134, k203_137, k203_138, k203_139, k203_139r, k203_140, k203_143, k203_144, k203_145, k203_148, k203_149, k203_152, k203_153, k203_155, k203_158, k203_159, k203_159r, k203_160, k203_163, k203_164, k203_165, k203_168, k203_169, k203_170, k203_173, k203_174, k203_175, k203_176, k203_179, k203_180, k203_181, k203_182, k203_185, k203_188, k203_189, k203_190, k203_191, k203_192, k203_195, k203_198, k203_201, c_0, c_1, c_5, c_7, c_8, c_12, c_13, c_15, c_19, c_20, c_40, c_41, c_44, c_999, hS, t_71, f_71_9, f_71_10, f_71_11, f_71_12, f_71_13, f_71_14, f_71_15, f_71_16, f_71_17, f_71_20, f_71_21, f_71_22, f_71_23, f_71_24, f_71_25, f_71_26, f_71_28, f_71_29, f_71_30, f_71_31, f_71_32, f_71_40, f_71_41, t_72, l_72, t_73, l_73, t_74, l_74, t_75, l_75, t_76, l_76, t_77, l_77, t_84, l_84, t_91, l_91, t_104, l_104, t_117, l_117, t_278, l_278, t_439, l_439, t_446, l_446, t_453, l_453, t_454, l_454, t_455, l_455, t_536, l_536, t_537, l_537, t_538, l_538, t_539, l_539, t_556, l_556, t_560, l_560, t_561, l_561, f_77, t_78, l_78, f_84, t_85, l_85, f_91, t_92, l_92, f_104, t_105, l_105, f_117, t_118, l_118, f_278, t_279, l_279, f_439, t_440, l_440, f_446, t_447, l_447, f_455, t_456, l_456, f_539, t_540, l_540, f_556, t_557, l_557, w_t, w_l, rowX_s, rowX_n, rowX_f, rowX_2, up_s, up_n, Nat.zero_add, n_m1, i_dec, cat_n, cat_i, cat_r, cat_l, i_add, i_tn, i_vi, i_lt, i_eq, i_shl, n_ltT, n_ltF, n_eqT, n_eqF, n_leT, t_and, nb_0, nb_1, b2_0, b2_n, cont_v, cont_n, ex_eq, u_s, u_c, u_j, ↓reduceIte, ite_not, not_true_eq_false, not_false_eq_true, Bool.false_eq_true, Bool.true_eq_false, false_and, true_and, and_false, and_true, or_self, or_false, false_or, or_true, true_or, cont_x, n_leF, c_1, c_91b, c_93b, h1, h2, h3, h4, h5, d198 hS (tm5 t5) L5.1 (by omega : c4.length < 160), n8, eo]
          · rw [if_neg a3] at t5 ⊢
            refine ⟨u2 K5 71 8 (i32 o), frN_t F5 frN_8, ⟨⟨by omega, by omega⟩, tm_w (by omega) t5⟩, fun r => (hstart r).trans ?_⟩
            simp (disch := first | assumption | omega) only [in203, k203_0, k203_1, k203_4, k203_7, k203_8, k203_9, k203_12, k203_13, k203_15, k203_16, k203_17, k203_19, k203_21, k203_22, k203_25, k203_28, k203_30, k203_33, k203_34, k203_36, k203_38, k203_40, k203_42, k203_43, k203_44, k203_47, k203_50, k203_52, k203_55, k203_56, k203_57, k203_58, k203_59, k203_62, k203_63, k203_66, k203_69, k203_70, k203_71, k203_74, k203_75, k203_77, k203_80, k203_81, k203_84, k203_85, k203_87, k203_90, k203_91, k203_94, k203_95, k203_97, k203_100, k203_101, k203_102, k203_103, k203_106, k203_107, k203_107r, k203_108, k203_111, k203_112, k203_113, k203_116, k203_117, k203_118, k203_119, k203_122, k203_125, k203_127, k203_130, k203_131, k203_134, k203_137, k203_138, k203_139, k203_139r, k203_140, k203_143, k203_144, k203_145, k203_148, k203_149, k203_152, k203_153, k203_155, k203_158, k203_159, k203_159r, k203_160, k203_163, k203_164, k203_165, k203_168, k203_169, k203_170, k203_173, k203_174, k203_175, k203_176, k203_179, k203_180, k203_181, k203_182, k203_185, k203_188, k203_189, k203_190, k203_191, k203_192, k203_195, k203_198, k203_201, c_0, c_1, c_5, c_7, c_8, c_12, c_13, c_15, c_19, c_20, c_40, c_41, c_44, c_999, hS, t_71, f_71_9, f_71_10, f_71_11, f_71_12, f_71_13, f_71_14, f_71_15, f_71_16, f_71_17, f_71_20, f_71_21, f_71_22, f_71_23, f_71_24, f_71_25, f_71_26, f_71_28, f_71_29, f_71_30, f_71_31, f_71_32, f_71_40, f_71_41, t_72, l_72, t_73, l_73, t_74, l_74, t_75, l_75, t_76, l_76, t_77, l_77, t_84, l_84, t_91, l_91, t_104, l_104, t_117, l_117, t_278, l_278, t_439, l_439, t_446, l_446, t_453, l_453, t_454, l_454, t_455, l_455, t_536, l_536, t_537, l_537, t_538, l_538, t_539, l_539, t_556, l_556, t_560, l_560, t_561, l_561, f_77, t_78, l_78, f_84, t_85, l_85, f_91, t_92, l_92, f_104, t_105, l_105, f_117, t_118, l_118, f_278, t_279, l_279, f_439, t_440, l_440, f_446, t_447, l_447, f_455, t_456, l_456, f_539, t_540, l_540, f_556, t_557, l_557, w_t, w_l, rowX_s, rowX_n, rowX_f, rowX_2, up_s, up_n, Nat.zero_add, n_m1, i_dec, cat_n, cat_i, cat_r, cat_l, i_add, i_tn, i_vi, i_lt, i_eq, i_shl, n_ltT, n_ltF, n_eqT, n_eqF, n_leT, t_and, nb_0, nb_1, b2_0, b2_n, cont_v, cont_n, ex_eq, u_s, u_c, u_j, ↓reduceIte, ite_not, not_true_eq_false, not_false_eq_true, Bool.false_eq_true, Bool.true_eq_false, false_and, true_and, and_false, and_true, or_self, or_false, false_or, or_true, true_or, cont_x, n_leF, c_1, c_91b, c_93b, h1, h2, h3, h4, h5, d198f hS (by omega : 1 ≠ 0) (by omega) (tm5 t5), K58, eo]
      · rw [if_neg a2] at t3 ⊢
        refine ⟨u2 K3 71 8 (i32 o), frN_t F3 frN_8, ⟨⟨by omega, by omega⟩, tm_w (by omega) t3⟩, fun r => (hstart r).trans ?_⟩
        simp (disch := first | assumption | omega) only [in203, k203_0, k203_1, k203_4, k203_7, k203_8, k203_9, k203_12, k203_13, k203_15, k203_16, k203_17, k203_19, k203_21, k203_22, k203_25, k203_28, k203_30, k203_33, k203_34, k203_36, k203_38, k203_40, k203_42, k203_43, k203_44, k203_47, k203_50, k203_52, k203_55, k203_56, k203_57, k203_58, k203_59, k203_62, k203_63, k203_66, k203_69, k203_70, k203_71, k203_74, k203_75, k203_77, k203_80, k203_81, k203_84, k203_85, k203_87, k203_90, k203_91, k203_94, k203_95, k203_97, k203_100, k203_101, k203_102, k203_103, k203_106, k203_107, k203_107r, k203_108, k203_111, k203_112, k203_113, k203_116, k203_117, k203_118, k203_119, k203_122, k203_125, k203_127, k203_130, k203_131, k203_134, k203_137, k203_138, k203_139, k203_139r, k203_140, k203_143, k203_144, k203_145, k203_148, k203_149, k203_152, k203_153, k203_155, k203_158, k203_159, k203_159r, k203_160, k203_163, k203_164, k203_165, k203_168, k203_169, k203_170, k203_173, k203_174, k203_175, k203_176, k203_179, k203_180, k203_181, k203_182, k203_185, k203_188, k203_189, k203_190, k203_191, k203_192, k203_195, k203_198, k203_201, c_0, c_1, c_5, c_7, c_8, c_12, c_13, c_15, c_19, c_20, c_40, c_41, c_44, c_999, hS, t_71, f_71_9, f_71_10, f_71_11, f_71_12, f_71_13, f_71_14, f_71_15, f_71_16, f_71_17, f_71_20, f_71_21, f_71_22, f_71_23, f_71_24, f_71_25, f_71_26, f_71_28, f_71_29, f_71_30, f_71_31, f_71_32, f_71_40, f_71_41, t_72, l_72, t_73, l_73, t_74, l_74, t_75, l_75, t_76, l_76, t_77, l_77, t_84, l_84, t_91, l_91, t_104, l_104, t_117, l_117, t_278, l_278, t_439, l_439, t_446, l_446, t_453, l_453, t_454, l_454, t_455, l_455, t_536, l_536, t_537, l_537, t_538, l_538, t_539, l_539, t_556, l_556, t_560, l_560, t_561, l_561, f_77, t_78, l_78, f_84, t_85, l_85, f_91, t_92, l_92, f_104, t_105, l_105, f_117, t_118, l_118, f_278, t_279, l_279, f_439, t_440, l_440, f_446, t_447, l_447, f_455, t_456, l_456, f_539, t_540, l_540, f_556, t_557, l_557, w_t, w_l, rowX_s, rowX_n, rowX_f, rowX_2, up_s, up_n, Nat.zero_add, n_m1, i_dec, cat_n, cat_i, cat_r, cat_l, i_add, i_tn, i_vi, i_lt, i_eq, i_shl, n_ltT, n_ltF, n_eqT, n_eqF, n_leT, t_and, nb_0, nb_1, b2_0, b2_n, cont_v, cont_n, ex_eq, u_s, u_c, u_j, ↓reduceIte, ite_not, not_true_eq_false, not_false_eq_true, Bool.false_eq_true, Bool.true_eq_false, false_and, true_and, and_false, and_true, or_self, or_false, false_or, or_true, true_or, cont_x, n_leF, c_1, c_91b, c_93b, h1, h2, h3, q186f hS (by omega : 1 ≠ 0) (by omega) t3, q200f hS (by omega : 1 ≠ 0) (by omega) t3, d198f hS (by omega : 1 ≠ 0) (by omega) (tm5 t3), K38, eo]
  · rw [if_neg a1] at t1 ⊢
    refine ⟨u2 K1 71 8 (i32 o), frN_t F1 frN_8, ⟨⟨by omega, by omega⟩, tm_w (by omega) t1⟩, fun r => (hstart r).trans ?_⟩
    simp (disch := first | assumption | omega) only [in203, k203_0, k203_1, k203_4, k203_7, k203_8, k203_9, k203_12, k203_13, k203_15, k203_16, k203_17, k203_19, k203_21, k203_22, k203_25, k203_28, k203_30, k203_33, k203_34, k203_36, k203_38, k203_40, k203_42, k203_43, k203_44, k203_47, k203_50, k203_52, k203_55, k203_56, k203_57, k203_58, k203_59, k203_62, k203_63, k203_66, k203_69, k203_70, k203_71, k203_74, k203_75, k203_77, k203_80, k203_81, k203_84, k203_85, k203_87, k203_90, k203_91, k203_94, k203_95, k203_97, k203_100, k203_101, k203_102, k203_103, k203_106, k203_107, k203_107r, k203_108, k203_111, k203_112, k203_113, k203_116, k203_117, k203_118, k203_119, k203_122, k203_125, k203_127, k203_130, k203_131, k203_134, k203_137, k203_138, k203_139, k203_139r, k203_140, k203_143, k203_144, k203_145, k203_148, k203_149, k203_152, k203_153, k203_155, k203_158, k203_159, k203_159r, k203_160, k203_163, k203_164, k203_165, k203_168, k203_169, k203_170, k203_173, k203_174, k203_175, k203_176, k203_179, k203_180, k203_181, k203_182, k203_185, k203_188, k203_189, k203_190, k203_191, k203_192, k203_195, k203_198, k203_201, c_0, c_1, c_5, c_7, c_8, c_12, c_13, c_15, c_19, c_20, c_40, c_41, c_44, c_999, hS, t_71, f_71_9, f_71_10, f_71_11, f_71_12, f_71_13, f_71_14, f_71_15, f_71_16, f_71_17, f_71_20, f_71_21, f_71_22, f_71_23, f_71_24, f_71_25, f_71_26, f_71_28, f_71_29, f_71_30, f_71_31, f_71_32, f_71_40, f_71_41, t_72, l_72, t_73, l_73, t_74, l_74, t_75, l_75, t_76, l_76, t_77, l_77, t_84, l_84, t_91, l_91, t_104, l_104, t_117, l_117, t_278, l_278, t_439, l_439, t_446, l_446, t_453, l_453, t_454, l_454, t_455, l_455, t_536, l_536, t_537, l_537, t_538, l_538, t_539, l_539, t_556, l_556, t_560, l_560, t_561, l_561, f_77, t_78, l_78, f_84, t_85, l_85, f_91, t_92, l_92, f_104, t_105, l_105, f_117, t_118, l_118, f_278, t_279, l_279, f_439, t_440, l_440, f_446, t_447, l_447, f_455, t_456, l_456, f_539, t_540, l_540, f_556, t_557, l_557, w_t, w_l, rowX_s, rowX_n, rowX_f, rowX_2, up_s, up_n, Nat.zero_add, n_m1, i_dec, cat_n, cat_i, cat_r, cat_l, i_add, i_tn, i_vi, i_lt, i_eq, i_shl, n_ltT, n_ltF, n_eqT, n_eqF, n_leT, t_and, nb_0, nb_1, b2_0, b2_n, cont_v, cont_n, ex_eq, u_s, u_c, u_j, ↓reduceIte, ite_not, not_true_eq_false, not_false_eq_true, Bool.false_eq_true, Bool.true_eq_false, false_and, true_and, and_false, and_true, or_self, or_false, false_or, or_true, true_or, cont_x, n_leF, c_1, c_91b, c_93b, h1, q186f hS (by omega : 1 ≠ 0) (by omega) t1, q200f hS (by omega : 1 ≠ 0) (by omega) t1, d198f hS (by omega : 1 ≠ 0) (by omega) (tm5 t1), K18, eo]
theorem q203 {n : Nat} (hm : m ≤ 150) (htb : ∀ k, tb k < 256) : ∀ g o, g + o = 6 → ∀ d, UM n tb m (unA tb m g) (d + 4 * g + 8) 203 o := by
  intro g
  induction g with
  | zero =>
    intro o ho d c p J L S hS hT hL h8 hcp
    have ho6 : o = 6 := by omega
    subst ho6
    show ∃ J', frN J J' ∧ lmQ tb m 6 J' (unA tb m 0 c p) ∧ ∀ r, EvD (d + 8) 203 [.ref 71] J L S r ↔ r = (.inl none, J', L, S)
    rw [unA]
    by_cases hd : p < m ∧ isDg tb p = true
    · rw [if_pos hd]
      have hnil := dg_nl (tb := tb) (m := m) hd.2
      exact q203d hS hm htb hT hL h8 hcp (fun z => by have := hd.2; unfold isDg at this; simp only [decide_eq_true_eq] at this; omega) (by rw [hnil]; decide) (by rw [hnil]; decide) (by rw [hnil]; decide)
    rw [if_neg hd]
    by_cases hb : p < m ∧ tb p = 40
    · rw [if_pos hb]; exact q203o hS hm htb hT h8 (Or.inl hb)
    rw [if_neg hb]
    by_cases hk : kno (lwd tb m p) < 9
    · rw [if_pos hk]; exact q203k hS hm htb hT hL h8 hcp hb hk
    rw [if_neg hk]
    by_cases hx : lwd tb m p = wLeast ∨ lwd tb m p = wMost
    · rw [if_pos hx]; exact q203o hS hm htb hT h8 (Or.inr hx)
    · rw [if_neg hx]
      obtain ⟨J', x1, x2, x3⟩ := q203d (d := d) (L := L) hS hm htb hT hL h8 hcp hb (fun z => hx (Or.inl z)) (fun z => hx (Or.inr z)) hk
      have e1 := numF_nd (lo := i32 0) (hi := i32 999) hd
      rw [if_neg (by rw [e1]; omega), e1] at x2
      exact ⟨J', x1, x2, x3⟩
  | succ g ih =>
    intro o ho d c p J L S hS hT hL h8 hcp
    have hB : UB m (suA tb m g) := suA_B
    have uS : UM n tb m (suA tb m g) (d + 4 * g + 11) 200 (o + 1) := by
      have u1 := ih (o + 1) (by omega) (d + 1)
      have u2' : UM n tb m (loA tb m sgP (unA tb m g)) (d + 1 + 4 * g + 9) 201 (o + 1) := p201 (d := d + 1 + 4 * g + 4) hm htb u1 (unA_B g)
      have u4 : UM n tb m (suA tb m g) (d + 1 + 4 * g + 10) 200 (o + 1) := p200 (d := d + 1 + 4 * g + 5) hm htb u2' prA_B
      have e2 : d + 1 + 4 * g + 10 = d + 4 * g + 11 := by omega
      rw [e2] at u4
      exact u4
    have ed : d + 4 * (g + 1) + 8 = d + 4 * g + 4 + 8 := by omega
    rw [ed]
    rw [unA]
    by_cases hd : p < m ∧ isDg tb p = true
    · rw [if_pos hd]
      have hnil := dg_nl (tb := tb) (m := m) hd.2
      exact q203d hS hm htb hT hL h8 hcp (fun z => by have := hd.2; unfold isDg at this; simp only [decide_eq_true_eq] at this; omega) (by rw [hnil]; decide) (by rw [hnil]; decide) (by rw [hnil]; decide)
    rw [if_neg hd]
    by_cases hb : p < m ∧ tb p = 40
    · rw [if_pos hb]; exact q203b (Q := suA tb m g) hS hm htb (by omega) uS hB hT hL h8 hcp hb
    rw [if_neg hb]
    by_cases hk : kno (lwd tb m p) < 9
    · rw [if_pos hk]; exact q203k hS hm htb hT hL h8 hcp hb hk
    rw [if_neg hk]
    by_cases w7 : lwd tb m p = wLeast
    · rw [if_pos w7]; exact q203p (Q := suA tb m g) (how := 7) hS hm htb (by omega) uS hB hT hL h8 hcp (Or.inl ⟨rfl, w7⟩)
    rw [if_neg w7]
    by_cases w8 : lwd tb m p = wMost
    · rw [if_pos w8]; exact q203p (Q := suA tb m g) (how := 8) hS hm htb (by omega) uS hB hT hL h8 hcp (Or.inr ⟨rfl, w8⟩)
    rw [if_neg w8]
    obtain ⟨J', x1, x2, x3⟩ := q203d (d := d + 4 * g + 4) (L := L) hS hm htb hT hL h8 hcp hb w7 w8 hk
    have e1 := numF_nd (lo := i32 0) (hi := i32 999) hd
    rw [if_neg (by rw [e1]; omega), e1] at x2
    exact ⟨J', x1, x2, x3⟩
theorem q200 {n d : Nat} (hm : m ≤ 150) (htb : ∀ k, tb k < 256) : UM n tb m (suA tb m 6) (d + 34) 200 0 := by
  have u1 := q203 (n := n) (tb := tb) (m := m) hm htb 6 0 rfl d
  have u2' : UM n tb m (loA tb m sgP (unA tb m 6)) (d + 33) 201 0 := p201 (d := d + 28) hm htb u1 (unA_B 6)
  exact p200 (d := d + 29) hm htb u2' prA_B
theorem p10s {n d : Nat} (hm : m ≤ 150) (htb : ∀ k, tb k < 256) : UC n tb m (suA tb m 6) (d + 31) 10 0 := by
  have u1 := p12 (n := n) (tb := tb) (m := m) hm htb 6 0 rfl d
  have u2' : UC n tb m (loA tb m sgP (unA tb m 6)) (d + 30) 11 0 := p11 (d := d + 25) hm htb u1 (unA_B 6)
  exact p10 (d := d + 26) hm htb u2' prA_B
end LawT
