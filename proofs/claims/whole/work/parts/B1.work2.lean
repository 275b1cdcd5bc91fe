/-! WORK: the component's reader -/
theorem c_91c : (91 : Int32) = i32 91 := rfl
theorem c_93c : (93 : Int32) = i32 93 := rfl
theorem wix5 {lw : List Nat} : wix lw (wsOf 5) 0 = if stp lw < 7 then i32 (stp lw) else m1 := by
  have e : wix lw (wsOf 5) 0 = if lw = wGrind then i32 0 else if lw = wForgive then i32 1 else if lw = wSwell then i32 2 else if lw = wGive then i32 3 else if lw = wRain then i32 4 else if lw = wDay then i32 5 else if lw = wAgain then i32 6 else m1 := rfl
  rw [e]
  unfold stp
  by_cases h0 : lw = wGrind
  · simp only [if_pos h0]; rw [if_pos (by omega)]
  simp only [if_neg h0]
  by_cases h1 : lw = wForgive
  · simp only [if_pos h1]; rw [if_pos (by omega)]
  simp only [if_neg h1]
  by_cases h2 : lw = wSwell
  · simp only [if_pos h2]; rw [if_pos (by omega)]
  simp only [if_neg h2]
  by_cases h3 : lw = wGive
  · simp only [if_pos h3]; rw [if_pos (by omega)]
  simp only [if_neg h3]
  by_cases h4 : lw = wRain
  · simp only [if_pos h4]; rw [if_pos (by omega)]
  simp only [if_neg h4]
  by_cases h5 : lw = wDay
  · simp only [if_pos h5]; rw [if_pos (by omega)]
  simp only [if_neg h5]
  by_cases h6 : lw = wAgain
  · simp only [if_pos h6]; rw [if_pos (by omega)]
  simp only [if_neg h6]
  rw [if_neg (by omega : ¬ 7 < 7)]
def RC (I : VI) (F : Nat → Nat → Nat) (r : Nat) : Prop := I 46 r = i32 (F 0 r) ∧ (F 0 r ≠ 5 → I 47 r = i32 (F 1 r)) ∧ (F 0 r = 2 ∨ F 0 r = 3 → I 48 r = i32 (F 2 r)) ∧ (F 0 r = 3 → I 49 r = i32 (F 3 r)) ∧ (F 0 r = 6 → I 48 r = i32 (F 4 r))
theorem RC_c {I I' : VI} {F F' : Nat → Nat → Nat} {r : Nat} (eI : ∀ c, 46 ≤ c → c ≤ 49 → I' c r = I c r) (eF : ∀ i, F' i r = F i r) (h : RC I F r) : RC I' F' r := by
  unfold RC at *
  rw [eI 46 (by omega) (by omega), eI 47 (by omega) (by omega), eI 48 (by omega) (by omega), eI 49 (by omega) (by omega)]
  simp only [eF]; exact h
def frS (I I' : VI) (r0 : Nat) : Prop := ∀ c j, (c ≠ 17 ∨ j < 3) → ¬ (c = 45 ∧ j = 4) → ¬ (46 ≤ c ∧ c ≤ 49 ∧ r0 ≤ j) → I' c j = I c j
theorem frS_17 {I I' : VI} {r : Nat} (h : fr17 I I') : frS I I' r := fun c j a _ _ => h c j a
theorem frS_t {I I' I'' : VI} {r : Nat} (h : frS I I' r) (h' : frS I' I'' r) : frS I I'' r := fun c j a b e => (h' c j a b e).trans (h c j a b e)
theorem frS_m {I I' : VI} {r r' : Nat} (hr : r ≤ r') (h : frS I I' r') : frS I I' r := fun c j a b e => h c j a b (by omega)
theorem frS_u {I : VI} {c j r : Nat} {x : Int32} (h : 46 ≤ c ∧ c ≤ 49 ∧ r ≤ j) : frS I (u2 I c j x) r := fun c' j' _ _ e => by
  by_cases e1 : c' = c
  · subst e1; exact u_j (by omega)
  · exact u_c e1
theorem frS_4 {I : VI} {r : Nat} {x : Int32} : frS I (u2 I 45 4 x) r := fun c' j' _ b _ => by
  by_cases e1 : c' = 45
  · subst e1; exact u_j (by omega)
  · exact u_c e1
section Wk
variable {tb : Nat → Nat} {m nh nd : Nat}
def wcQ (tb : Nat → Nat) (m r0 : Nat) (I : VI) : WR → Prop
  | .inl ((r1, F), p) => (∃ t, TC tb m p 0 0 t I) ∧ I 45 4 = i32 r1 ∧ ∀ r, r0 ≤ r → r < r1 → RC I F r
  | .inr (f, pl) => (f ≠ 0 ∧ f < 9) ∧ TC tb m 0 f pl 0 I ∧ ∃ s, s ≤ 38 ∧ I 45 4 = i32 s
def UAg (n : Nat) (tb : Nat → Nat) (m nh nd : Nat) (ag : WS → Nat → Nat → WR) (e o : Nat) : Prop := ∀ s p1 p I L S, S.1 = W0 n → TC tb m p1 0 0 p I → I 45 4 = i32 (s.1 + 1) → I 46 s.1 = i32 6 → I 19 7 = i32 nh → I 19 8 = i32 nd → 4 * (s.1 + 1) ≤ p1 + 1 → ∃ I', frS I I' s.1 ∧ wcQ tb m s.1 I' (ag s p1 p) ∧ ∀ r, EvD e 86 [.ref 45, .ref 17, .ref 19, .int (i32 o), .int (i32 s.1)] I L S r ↔ r = (.inl none, I', L, S)
def UW (n : Nat) (tb : Nat → Nat) (m nh nd : Nat) (U : WS → Nat → WR) (e y o : Nat) : Prop := ∀ s p t I L S, S.1 = W0 n → TC tb m p 0 0 t I → I 45 4 = i32 s.1 → I 19 7 = i32 nh → I 19 8 = i32 nd → 4 * s.1 ≤ p → ∃ I', frS I I' s.1 ∧ wcQ tb m s.1 I' (U s p) ∧ ∀ r, EvD e y [.ref 45, .ref 17, .ref 19, .int (i32 o)] I L S r ↔ r = (.inl none, I', L, S)
theorem p85 {d n o : Nat} {ag : WS → Nat → Nat → WR} (hm : m ≤ 150) (htb : ∀ k, tb k < 256) (hA : UAg n tb m nh nd ag (d + 5) o) : UW n tb m nh nd (stB tb m nh nd ag) (d + 6) 85 o := by
  intro s p t I L S hS hT h4 h7 h8 hsp
  have hm6 : m ≤ 600 := by omega
  have hpm := tc_le hT
  obtain ⟨K1, f1, t1, h1⟩ := p106 (d := d + 2) (L := L) (k := 5) hS hm6 htb (by omega) (by omega) hT
  rw [wix5] at t1 h1
  have k14 : K1 45 4 = i32 s.1 := by rw [f1 _ _ (by omega)]; exact h4
  unfold stB
  by_cases e7 : stp (lwd tb m p) = 7
  · rw [if_pos e7]
    rw [if_neg (by omega : ¬ stp (lwd tb m p) < 7)] at t1 h1
    rw [if_pos rfl] at t1
    refine ⟨K1, frS_17 f1, ⟨⟨by omega, by omega⟩, t1, ⟨s.1, by omega, k14⟩⟩, fun r => ?_⟩
    simp (disch := first | assumption | omega) only [in85, k85_0, k85_1, k85_3, k85_6, k85_8, k85_9, k85_12, k85_15, k85_16, k85_19, k85_21, k85_24, k85_25, k85_26, k85_29, k85_31, k85_32, k85_32r, k85_33, k85_36, k85_37, k85_38, k85_41, k85_42, k85_45, k85_47, k85_49, k85_50, k85_52, k85_96, k85_97, k85_100, k85_102, k85_103, k85_104, k85_105, k85_108, k85_109, k85_110, k85_113, k85_114, k85_117, k85_118, k85_121, k85_123, k85_124, k85_125, k85_126, k85_129, k85_130, k85_131, k85_134, k85_135, k85_136, k85_139, k85_141, k85_142, k85_143, k85_145, k85_148, k85_149, k85_152, k85_153, k85_156, k85_158, k85_159, k85_160, k85_161, k85_164, k85_165, k85_166, k85_169, k85_170, k85_171, k85_174, k85_176, k85_177, k85_178, k85_179, k85_182, k85_183, k85_184, k85_187, k85_188, k85_189, k85_192, k85_194, k85_195, k85_196, k85_198, k85_201, k85_202, k85_205, k85_206, k85_209, k85_211, k85_212, k85_213, k85_215, k85_218, k85_219, k85_222, k85_223, k85_224, k85_225, k85_226, k85_228, k85_231, k85_234, c_0, c_1, c_2, c_3, c_4, c_5, c_6, c_7, c_8, c_9, c_10, c_11, c_12, c_13, c_14, c_15, c_16, c_30, c_38, c_40, c_99, hS, t_16, f_16_0, f_16_1, f_16_2, f_16_3, f_16_4, f_16_5, f_16_6, f_16_7, f_16_8, f_16_9, f_16_10, f_16_11, f_16_12, f_16_13, t_17, f_17_0, t_18, l_18, t_19, f_19_0, f_19_1, f_19_2, f_19_3, f_19_4, f_19_5, f_19_6, t_20, l_20, t_21, l_21, t_22, l_22, t_23, l_23, t_24, l_24, t_25, l_25, t_26, l_26, t_27, f_27_0, f_27_1, f_27_2, f_27_3, f_27_4, f_27_5, f_27_6, t_28, l_28, t_29, l_29, t_30, l_30, t_31, l_31, t_32, l_32, t_33, l_33, t_34, l_34, t_35, f_35_0, f_35_1, t_36, l_36, t_37, l_37, t_38, f_38_0, f_38_1, t_39, l_39, t_40, l_40, t_41, f_41_0, t_42, l_42, t_43, f_43_0, t_44, l_44, t_45, f_45_0, f_45_1, f_45_2, f_45_3, t_46, l_46, t_47, l_47, t_48, l_48, t_49, l_49, t_50, l_50, t_51, f_51_0, f_51_1, f_51_2, f_51_3, t_52, l_52, t_53, l_53, t_54, f_54_0, f_54_1, f_54_2, f_54_3, t_55, l_55, t_56, l_56, t_57, f_57_0, f_57_1, f_57_2, f_57_3, t_58, l_58, t_59, l_59, t_60, l_60, t_61, f_61_0, f_61_1, f_61_2, f_61_3, f_61_4, f_61_5, f_61_6, t_62, l_62, t_63, f_63_0, f_63_1, t_64, l_64, t_65, l_65, t_66, f_66_0, f_66_1, t_67, l_67, t_68, l_68, t_69, l_69, t_70, f_70_0, f_70_1, t_1, l_1, t_2, l_2, m_t, m_f0, m_f1, m_f2, m_f3, m_t1, m_l1, m_t2, m_l2, rowX_s, rowX_n, rowX_f, rowX_2, up_s, up_n, Nat.zero_add, n_m1, i_dec, cat_n, cat_i, cat_r, cat_l, i_add, i_tn, i_vi, i_lt, i_eq, i_shl, n_ltT, n_ltF, n_eqT, n_eqF, n_leT, t_and, nb_0, nb_1, b2_0, b2_n, cont_v, cont_n, ex_eq, u_s, u_c, u_j, ↓reduceIte, ite_not, not_true_eq_false, not_false_eq_true, Bool.false_eq_true, Bool.true_eq_false, false_and, true_and, and_false, and_true, or_self, or_false, false_or, or_true, true_or, cont_x, n_leF, c_1, h1, c98 hS (by omega : 1 < 9) (tc5 t1), b2]
  rw [if_neg e7]
  have hk7 := stp_le (l := lwd tb m p)
  have hlt : stp (lwd tb m p) < 7 := by omega
  obtain ⟨l1, l2⟩ := stp_len hpm e7
  rw [if_pos hlt] at t1 h1
  rw [if_neg (mm_ne (by omega))] at t1
  obtain ⟨r0, F⟩ := s
  dsimp only at *
  have hr38 : r0 < 38 := by omega
  generalize sk tb m (ltE tb m p) = p1 at *
  generalize stp (lwd tb m p) = k at *
  obtain ⟨M, hM⟩ : ∃ M, u2 (u2 K1 45 4 (i32 (r0 + 1))) 46 r0 (i32 k) = M := ⟨_, rfl⟩
  have tM : TC tb m p1 0 0 p M := by rw [← hM]; exact tc_u (by omega) (tc_u (by omega) t1)
  have FM : frS I M r0 := by rw [← hM]; exact frS_t (frS_t (frS_17 f1) frS_4) (frS_u (by omega))
  have M4 : M 45 4 = i32 (r0 + 1) := by rw [← hM, u_c (by omega), u_s]
  have M6 : M 46 r0 = i32 k := by rw [← hM, u_s]
  have M7 : M 19 7 = i32 nh := by rw [FM _ _ (by omega) (by omega) (by omega)]; exact h7
  have M8 : M 19 8 = i32 nd := by rw [FM _ _ (by omega) (by omega) (by omega)]; exact h8
  have s5 := tc5 t1
  have one : ∀ (x : Nat) (J : VI) (F' : Nat → Nat → Nat), (∀ c j, ¬ (c = 17) → ¬ (46 < c ∧ c ≤ 49 ∧ r0 ≤ j) → J c j = M c j) → F' 0 r0 = k → (k ≠ 5 → J 47 r0 = i32 (F' 1 r0)) → (k = 2 ∨ k = 3 → J 48 r0 = i32 (F' 2 r0)) → (k = 3 → J 49 r0 = i32 (F' 3 r0)) → k ≠ 6 → J 45 4 = i32 (r0 + 1) ∧ ∀ r, r0 ≤ r → r < r0 + 1 → RC J F' r := fun x J F' hJ hF h1 h2 h3 h6 => by
    refine ⟨by rw [hJ _ _ (by omega) (by omega)]; exact M4, fun r ha hb => ?_⟩
    have er : r = r0 := by omega
    subst er
    refine ⟨by rw [hJ _ _ (by omega) (by omega), hF]; exact M6, by rw [hF]; exact h1, by rw [hF]; exact h2, by rw [hF]; exact h3, by rw [hF]; exact fun z => absurd z h6⟩
  by_cases e6 : k = 6
  · rw [if_pos e6]
    subst e6
    obtain ⟨I', fI, qI, hI⟩ := hA (r0, F) p1 p M L S hS tM M4 M6 M7 M8 (by show 4 * (r0 + 1) ≤ p1 + 1; omega)
    refine ⟨I', frS_t FM fI, qI, fun r => ?_⟩
    simp (disch := first | assumption | omega) only [in85, k85_0, k85_1, k85_3, k85_6, k85_8, k85_9, k85_12, k85_15, k85_16, k85_19, k85_21, k85_24, k85_25, k85_26, k85_29, k85_31, k85_32, k85_32r, k85_33, k85_36, k85_37, k85_38, k85_41, k85_42, k85_45, k85_47, k85_49, k85_50, k85_52, k85_96, k85_97, k85_100, k85_102, k85_103, k85_104, k85_105, k85_108, k85_109, k85_110, k85_113, k85_114, k85_117, k85_118, k85_121, k85_123, k85_124, k85_125, k85_126, k85_129, k85_130, k85_131, k85_134, k85_135, k85_136, k85_139, k85_141, k85_142, k85_143, k85_145, k85_148, k85_149, k85_152, k85_153, k85_156, k85_158, k85_159, k85_160, k85_161, k85_164, k85_165, k85_166, k85_169, k85_170, k85_171, k85_174, k85_176, k85_177, k85_178, k85_179, k85_182, k85_183, k85_184, k85_187, k85_188, k85_189, k85_192, k85_194, k85_195, k85_196, k85_198, k85_201, k85_202, k85_205, k85_206, k85_209, k85_211, k85_212, k85_213, k85_215, k85_218, k85_219, k85_222, k85_223, k85_224, k85_225, k85_226, k85_228, k85_231, k85_234, c_0, c_1, c_2, c_3, c_4, c_5, c_6, c_7, c_8, c_9, c_10, c_11, c_12, c_13, c_14, c_15, c_16, c_30, c_38, c_40, c_99, hS, t_16, f_16_0, f_16_1, f_16_2, f_16_3, f_16_4, f_16_5, f_16_6, f_16_7, f_16_8, f_16_9, f_16_10, f_16_11, f_16_12, f_16_13, t_17, f_17_0, t_18, l_18, t_19, f_19_0, f_19_1, f_19_2, f_19_3, f_19_4, f_19_5, f_19_6, t_20, l_20, t_21, l_21, t_22, l_22, t_23, l_23, t_24, l_24, t_25, l_25, t_26, l_26, t_27, f_27_0, f_27_1, f_27_2, f_27_3, f_27_4, f_27_5, f_27_6, t_28, l_28, t_29, l_29, t_30, l_30, t_31, l_31, t_32, l_32, t_33, l_33, t_34, l_34, t_35, f_35_0, f_35_1, t_36, l_36, t_37, l_37, t_38, f_38_0, f_38_1, t_39, l_39, t_40, l_40, t_41, f_41_0, t_42, l_42, t_43, f_43_0, t_44, l_44, t_45, f_45_0, f_45_1, f_45_2, f_45_3, t_46, l_46, t_47, l_47, t_48, l_48, t_49, l_49, t_50, l_50, t_51, f_51_0, f_51_1, f_51_2, f_51_3, t_52, l_52, t_53, l_53, t_54, f_54_0, f_54_1, f_54_2, f_54_3, t_55, l_55, t_56, l_56, t_57, f_57_0, f_57_1, f_57_2, f_57_3, t_58, l_58, t_59, l_59, t_60, l_60, t_61, f_61_0, f_61_1, f_61_2, f_61_3, f_61_4, f_61_5, f_61_6, t_62, l_62, t_63, f_63_0, f_63_1, t_64, l_64, t_65, l_65, t_66, f_66_0, f_66_1, t_67, l_67, t_68, l_68, t_69, l_69, t_70, f_70_0, f_70_1, t_1, l_1, t_2, l_2, m_t, m_f0, m_f1, m_f2, m_f3, m_t1, m_l1, m_t2, m_l2, rowX_s, rowX_n, rowX_f, rowX_2, up_s, up_n, Nat.zero_add, n_m1, i_dec, cat_n, cat_i, cat_r, cat_l, i_add, i_tn, i_vi, i_lt, i_eq, i_shl, n_ltT, n_ltF, n_eqT, n_eqF, n_leT, t_and, nb_0, nb_1, b2_0, b2_n, cont_v, cont_n, ex_eq, u_s, u_c, u_j, ↓reduceIte, ite_not, not_true_eq_false, not_false_eq_true, Bool.false_eq_true, Bool.true_eq_false, false_and, true_and, and_false, and_true, or_self, or_false, false_or, or_true, true_or, cont_x, n_leF, c_1, h1, c98 hS (by omega : 0 < 9) s5, k14, hM, hI, b2]
  rw [if_neg e6]
  by_cases e5 : k = 5
  · rw [if_pos e5]
    subst e5
    refine ⟨M, FM, ⟨⟨_, tM⟩, one 0 M _ (fun c j _ _ => rfl) (by rw [upA_n (by omega), upA_s]) (fun z => absurd rfl z) (fun z => absurd z (by omega)) (fun z => absurd z (by omega)) (by omega)⟩, fun r => ?_⟩
    simp (disch := first | assumption | omega) only [in85, k85_0, k85_1, k85_3, k85_6, k85_8, k85_9, k85_12, k85_15, k85_16, k85_19, k85_21, k85_24, k85_25, k85_26, k85_29, k85_31, k85_32, k85_32r, k85_33, k85_36, k85_37, k85_38, k85_41, k85_42, k85_45, k85_47, k85_49, k85_50, k85_52, k85_96, k85_97, k85_100, k85_102, k85_103, k85_104, k85_105, k85_108, k85_109, k85_110, k85_113, k85_114, k85_117, k85_118, k85_121, k85_123, k85_124, k85_125, k85_126, k85_129, k85_130, k85_131, k85_134, k85_135, k85_136, k85_139, k85_141, k85_142, k85_143, k85_145, k85_148, k85_149, k85_152, k85_153, k85_156, k85_158, k85_159, k85_160, k85_161, k85_164, k85_165, k85_166, k85_169, k85_170, k85_171, k85_174, k85_176, k85_177, k85_178, k85_179, k85_182, k85_183, k85_184, k85_187, k85_188, k85_189, k85_192, k85_194, k85_195, k85_196, k85_198, k85_201, k85_202, k85_205, k85_206, k85_209, k85_211, k85_212, k85_213, k85_215, k85_218, k85_219, k85_222, k85_223, k85_224, k85_225, k85_226, k85_228, k85_231, k85_234, c_0, c_1, c_2, c_3, c_4, c_5, c_6, c_7, c_8, c_9, c_10, c_11, c_12, c_13, c_14, c_15, c_16, c_30, c_38, c_40, c_99, hS, t_16, f_16_0, f_16_1, f_16_2, f_16_3, f_16_4, f_16_5, f_16_6, f_16_7, f_16_8, f_16_9, f_16_10, f_16_11, f_16_12, f_16_13, t_17, f_17_0, t_18, l_18, t_19, f_19_0, f_19_1, f_19_2, f_19_3, f_19_4, f_19_5, f_19_6, t_20, l_20, t_21, l_21, t_22, l_22, t_23, l_23, t_24, l_24, t_25, l_25, t_26, l_26, t_27, f_27_0, f_27_1, f_27_2, f_27_3, f_27_4, f_27_5, f_27_6, t_28, l_28, t_29, l_29, t_30, l_30, t_31, l_31, t_32, l_32, t_33, l_33, t_34, l_34, t_35, f_35_0, f_35_1, t_36, l_36, t_37, l_37, t_38, f_38_0, f_38_1, t_39, l_39, t_40, l_40, t_41, f_41_0, t_42, l_42, t_43, f_43_0, t_44, l_44, t_45, f_45_0, f_45_1, f_45_2, f_45_3, t_46, l_46, t_47, l_47, t_48, l_48, t_49, l_49, t_50, l_50, t_51, f_51_0, f_51_1, f_51_2, f_51_3, t_52, l_52, t_53, l_53, t_54, f_54_0, f_54_1, f_54_2, f_54_3, t_55, l_55, t_56, l_56, t_57, f_57_0, f_57_1, f_57_2, f_57_3, t_58, l_58, t_59, l_59, t_60, l_60, t_61, f_61_0, f_61_1, f_61_2, f_61_3, f_61_4, f_61_5, f_61_6, t_62, l_62, t_63, f_63_0, f_63_1, t_64, l_64, t_65, l_65, t_66, f_66_0, f_66_1, t_67, l_67, t_68, l_68, t_69, l_69, t_70, f_70_0, f_70_1, t_1, l_1, t_2, l_2, m_t, m_f0, m_f1, m_f2, m_f3, m_t1, m_l1, m_t2, m_l2, rowX_s, rowX_n, rowX_f, rowX_2, up_s, up_n, Nat.zero_add, n_m1, i_dec, cat_n, cat_i, cat_r, cat_l, i_add, i_tn, i_vi, i_lt, i_eq, i_shl, n_ltT, n_ltF, n_eqT, n_eqF, n_leT, t_and, nb_0, nb_1, b2_0, b2_n, cont_v, cont_n, ex_eq, u_s, u_c, u_j, ↓reduceIte, ite_not, not_true_eq_false, not_false_eq_true, Bool.false_eq_true, Bool.true_eq_false, false_and, true_and, and_false, and_true, or_self, or_false, false_or, or_true, true_or, cont_x, n_leF, c_1, h1, c98 hS (by omega : 0 < 9) s5, k14, hM, b2]
  rw [if_neg e5]
  by_cases e4 : k = 4
  · rw [if_pos e4]
    subst e4
    obtain ⟨K2, f2, t2, h2⟩ := p105 (d := d + 2) (L := L) (lo := i32 1) (hi := i32 40) hS hm6 htb tM
    have n9 := numF_lt (tb := tb) (m := m) (p := p1) (lo := i32 1) (hi := i32 40)
    refine ⟨u2 K2 47 r0 (i32 (numV tb m p1)), frS_t (frS_t FM (frS_17 f2)) (frS_u (by omega)), ?_, fun r => ?_⟩
    · by_cases g1 : numF tb m (i32 1) (i32 40) p1 = 0
      · rw [if_pos g1] at t2
        rw [nQ_0 g1]
        exact ⟨⟨_, tc_u (by omega) t2⟩, one 0 _ _ (fun c j a b => by
          by_cases e1 : c = 47
          · subst e1; rw [u_j (by omega), f2 _ _ (by omega)]
          · rw [u_c e1, f2 _ _ (by omega)]) (by simp (disch := omega) only [upA_n, upA_s]) (fun _ => by simp (disch := omega) only [upA_n, upA_s, u_s]) (fun z => absurd z (by omega)) (fun z => absurd z (by omega)) (by omega)⟩
      · rw [if_neg g1] at t2
        rw [nQ_f g1]
        exact ⟨⟨g1, n9⟩, tc_u (by omega) t2, ⟨r0 + 1, by omega, by rw [u_c (by omega), f2 _ _ (by omega)]; exact M4⟩⟩
    · simp (disch := first | assumption | omega) only [in85, k85_0, k85_1, k85_3, k85_6, k85_8, k85_9, k85_12, k85_15, k85_16, k85_19, k85_21, k85_24, k85_25, k85_26, k85_29, k85_31, k85_32, k85_32r, k85_33, k85_36, k85_37, k85_38, k85_41, k85_42, k85_45, k85_47, k85_49, k85_50, k85_52, k85_96, k85_97, k85_100, k85_102, k85_103, k85_104, k85_105, k85_108, k85_109, k85_110, k85_113, k85_114, k85_117, k85_118, k85_121, k85_123, k85_124, k85_125, k85_126, k85_129, k85_130, k85_131, k85_134, k85_135, k85_136, k85_139, k85_141, k85_142, k85_143, k85_145, k85_148, k85_149, k85_152, k85_153, k85_156, k85_158, k85_159, k85_160, k85_161, k85_164, k85_165, k85_166, k85_169, k85_170, k85_171, k85_174, k85_176, k85_177, k85_178, k85_179, k85_182, k85_183, k85_184, k85_187, k85_188, k85_189, k85_192, k85_194, k85_195, k85_196, k85_198, k85_201, k85_202, k85_205, k85_206, k85_209, k85_211, k85_212, k85_213, k85_215, k85_218, k85_219, k85_222, k85_223, k85_224, k85_225, k85_226, k85_228, k85_231, k85_234, c_0, c_1, c_2, c_3, c_4, c_5, c_6, c_7, c_8, c_9, c_10, c_11, c_12, c_13, c_14, c_15, c_16, c_30, c_38, c_40, c_99, hS, t_16, f_16_0, f_16_1, f_16_2, f_16_3, f_16_4, f_16_5, f_16_6, f_16_7, f_16_8, f_16_9, f_16_10, f_16_11, f_16_12, f_16_13, t_17, f_17_0, t_18, l_18, t_19, f_19_0, f_19_1, f_19_2, f_19_3, f_19_4, f_19_5, f_19_6, t_20, l_20, t_21, l_21, t_22, l_22, t_23, l_23, t_24, l_24, t_25, l_25, t_26, l_26, t_27, f_27_0, f_27_1, f_27_2, f_27_3, f_27_4, f_27_5, f_27_6, t_28, l_28, t_29, l_29, t_30, l_30, t_31, l_31, t_32, l_32, t_33, l_33, t_34, l_34, t_35, f_35_0, f_35_1, t_36, l_36, t_37, l_37, t_38, f_38_0, f_38_1, t_39, l_39, t_40, l_40, t_41, f_41_0, t_42, l_42, t_43, f_43_0, t_44, l_44, t_45, f_45_0, f_45_1, f_45_2, f_45_3, t_46, l_46, t_47, l_47, t_48, l_48, t_49, l_49, t_50, l_50, t_51, f_51_0, f_51_1, f_51_2, f_51_3, t_52, l_52, t_53, l_53, t_54, f_54_0, f_54_1, f_54_2, f_54_3, t_55, l_55, t_56, l_56, t_57, f_57_0, f_57_1, f_57_2, f_57_3, t_58, l_58, t_59, l_59, t_60, l_60, t_61, f_61_0, f_61_1, f_61_2, f_61_3, f_61_4, f_61_5, f_61_6, t_62, l_62, t_63, f_63_0, f_63_1, t_64, l_64, t_65, l_65, t_66, f_66_0, f_66_1, t_67, l_67, t_68, l_68, t_69, l_69, t_70, f_70_0, f_70_1, t_1, l_1, t_2, l_2, m_t, m_f0, m_f1, m_f2, m_f3, m_t1, m_l1, m_t2, m_l2, rowX_s, rowX_n, rowX_f, rowX_2, up_s, up_n, Nat.zero_add, n_m1, i_dec, cat_n, cat_i, cat_r, cat_l, i_add, i_tn, i_vi, i_lt, i_eq, i_shl, n_ltT, n_ltF, n_eqT, n_eqF, n_leT, t_and, nb_0, nb_1, b2_0, b2_n, cont_v, cont_n, ex_eq, u_s, u_c, u_j, ↓reduceIte, ite_not, not_true_eq_false, not_false_eq_true, Bool.false_eq_true, Bool.true_eq_false, false_and, true_and, and_false, and_true, or_self, or_false, false_or, or_true, true_or, cont_x, n_leF, c_1, h1, c98 hS (by omega : 0 < 9) s5, k14, hM, h2, b2]
  rw [if_neg e4]
  by_cases e3 : k = 3
  · rw [if_pos e3]
    subst e3
    obtain ⟨K2, f2, t2, h2⟩ := p105 (d := d + 2) (L := L) (lo := i32 0) (hi := i32 nh - i32 1) hS hm6 htb tM
    have n9 := numF_lt (tb := tb) (m := m) (p := p1) (lo := i32 0) (hi := i32 nh - i32 1)
    obtain ⟨N2, hN2⟩ : ∃ N2, u2 K2 47 r0 (i32 (numV tb m p1)) = N2 := ⟨_, rfl⟩
    have F2 : frS I N2 r0 := by rw [← hN2]; exact frS_t (frS_t FM (frS_17 f2)) (frS_u (by omega))
    have N27 : N2 19 7 = i32 nh := by rw [F2 _ _ (by omega) (by omega) (by omega)]; exact h7
    have N24 : N2 45 4 = i32 (r0 + 1) := by rw [← hN2, u_c (by omega), f2 _ _ (by omega)]; exact M4
    by_cases g1 : numF tb m (i32 0) (i32 nh - i32 1) p1 = 0
    · rw [if_pos g1] at t2
      rw [nQ_0 g1]
      have t2' : TC tb m (sk tb m (dgE tb m p1)) 0 0 p1 N2 := by rw [← hN2]; exact tc_u (by omega) t2
      generalize sk tb m (dgE tb m p1) = p2 at *
      obtain ⟨K3, f3, t3, h3⟩ := p105 (d := d + 2) (L := L) (lo := i32 0) (hi := i32 nh - i32 1) hS hm6 htb t2'
      have n9b := numF_lt (tb := tb) (m := m) (p := p2) (lo := i32 0) (hi := i32 nh - i32 1)
      obtain ⟨N3, hN3⟩ : ∃ N3, u2 K3 48 r0 (i32 (numV tb m p2)) = N3 := ⟨_, rfl⟩
      have F3 : frS I N3 r0 := by rw [← hN3]; exact frS_t (frS_t F2 (frS_17 f3)) (frS_u (by omega))
      have N34 : N3 45 4 = i32 (r0 + 1) := by rw [← hN3, u_c (by omega), f3 _ _ (by omega)]; exact N24
      by_cases g2 : numF tb m (i32 0) (i32 nh - i32 1) p2 = 0
      · rw [if_pos g2] at t3
        rw [nQ_0 g2]
        have t3' : TC tb m (sk tb m (dgE tb m p2)) 0 0 p2 N3 := by rw [← hN3]; exact tc_u (by omega) t3
        generalize sk tb m (dgE tb m p2) = p3 at *
        obtain ⟨K4, f4, t4, h4'⟩ := p105 (d := d + 2) (L := L) (lo := i32 1) (hi := i32 99) hS hm6 htb t3'
        have n9c := numF_lt (tb := tb) (m := m) (p := p3) (lo := i32 1) (hi := i32 99)
        refine ⟨u2 K4 49 r0 (i32 (numV tb m p3)), frS_t (frS_t F3 (frS_17 f4)) (frS_u (by omega)), ?_, fun r => ?_⟩
        · by_cases g3 : numF tb m (i32 1) (i32 99) p3 = 0
          · rw [if_pos g3] at t4
            rw [nQ_0 g3]
            exact ⟨⟨_, tc_u (by omega) t4⟩, one 0 _ _ (fun c j a b => by
              have z4 : K4 c j = N3 c j := f4 _ _ (by omega)
              have z3 : K3 c j = N2 c j := f3 _ _ (by omega)
              have z2 : K2 c j = M c j := f2 _ _ (by omega)
              have w2 : N2 c j = K2 c j := by
                rw [← hN2]
                by_cases e1 : c = 47
                · subst e1; exact u_j (by omega)
                · exact u_c e1
              have w3 : N3 c j = K3 c j := by
                rw [← hN3]
                by_cases e1 : c = 48
                · subst e1; exact u_j (by omega)
                · exact u_c e1
              by_cases e1 : c = 49
              · subst e1; rw [u_j (by omega), z4, w3, z3, w2, z2]
              · rw [u_c e1, z4, w3, z3, w2, z2]) (by simp (disch := omega) only [upA_n, upA_s]) (fun _ => by
                simp (disch := omega) only [upA_n, upA_s]
                rw [u_c (by omega), f4 _ _ (by omega), ← hN3, u_c (by omega), f3 _ _ (by omega), ← hN2, u_s]) (fun _ => by
                simp (disch := omega) only [upA_n, upA_s]
                rw [u_c (by omega), f4 _ _ (by omega), ← hN3, u_s]) (fun _ => by
                simp (disch := omega) only [upA_n, upA_s, u_s]) (by omega)⟩
          · rw [if_neg g3] at t4
            rw [nQ_f g3]
            exact ⟨⟨g3, n9c⟩, tc_u (by omega) t4, ⟨r0 + 1, by omega, by rw [u_c (by omega), f4 _ _ (by omega)]; exact N34⟩⟩
        · simp (disch := first | assumption | omega) only [in85, k85_0, k85_1, k85_3, k85_6, k85_8, k85_9, k85_12, k85_15, k85_16, k85_19, k85_21, k85_24, k85_25, k85_26, k85_29, k85_31, k85_32, k85_32r, k85_33, k85_36, k85_37, k85_38, k85_41, k85_42, k85_45, k85_47, k85_49, k85_50, k85_52, k85_96, k85_97, k85_100, k85_102, k85_103, k85_104, k85_105, k85_108, k85_109, k85_110, k85_113, k85_114, k85_117, k85_118, k85_121, k85_123, k85_124, k85_125, k85_126, k85_129, k85_130, k85_131, k85_134, k85_135, k85_136, k85_139, k85_141, k85_142, k85_143, k85_145, k85_148, k85_149, k85_152, k85_153, k85_156, k85_158, k85_159, k85_160, k85_161, k85_164, k85_165, k85_166, k85_169, k85_170, k85_171, k85_174, k85_176, k85_177, k85_178, k85_179, k85_182, k85_183, k85_184, k85_187, k85_188, k85_189, k85_192, k85_194, k85_195, k85_196, k85_198, k85_201, k85_202, k85_205, k85_206, k85_209, k85_211, k85_212, k85_213, k85_215, k85_218, k85_219, k85_222, k85_223, k85_224, k85_225, k85_226, k85_228, k85_231, k85_234, c_0, c_1, c_2, c_3, c_4, c_5, c_6, c_7, c_8, c_9, c_10, c_11, c_12, c_13, c_14, c_15, c_16, c_30, c_38, c_40, c_99, hS, t_16, f_16_0, f_16_1, f_16_2, f_16_3, f_16_4, f_16_5, f_16_6, f_16_7, f_16_8, f_16_9, f_16_10, f_16_11, f_16_12, f_16_13, t_17, f_17_0, t_18, l_18, t_19, f_19_0, f_19_1, f_19_2, f_19_3, f_19_4, f_19_5, f_19_6, t_20, l_20, t_21, l_21, t_22, l_22, t_23, l_23, t_24, l_24, t_25, l_25, t_26, l_26, t_27, f_27_0, f_27_1, f_27_2, f_27_3, f_27_4, f_27_5, f_27_6, t_28, l_28, t_29, l_29, t_30, l_30, t_31, l_31, t_32, l_32, t_33, l_33, t_34, l_34, t_35, f_35_0, f_35_1, t_36, l_36, t_37, l_37, t_38, f_38_0, f_38_1, t_39, l_39, t_40, l_40, t_41, f_41_0, t_42, l_42, t_43, f_43_0, t_44, l_44, t_45, f_45_0, f_45_1, f_45_2, f_45_3, t_46, l_46, t_47, l_47, t_48, l_48, t_49, l_49, t_50, l_50, t_51, f_51_0, f_51_1, f_51_2, f_51_3, t_52, l_52, t_53, l_53, t_54, f_54_0, f_54_1, f_54_2, f_54_3, t_55, l_55, t_56, l_56, t_57, f_57_0, f_57_1, f_57_2, f_57_3, t_58, l_58, t_59, l_59, t_60, l_60, t_61, f_61_0, f_61_1, f_61_2, f_61_3, f_61_4, f_61_5, f_61_6, t_62, l_62, t_63, f_63_0, f_63_1, t_64, l_64, t_65, l_65, t_66, f_66_0, f_66_1, t_67, l_67, t_68, l_68, t_69, l_69, t_70, f_70_0, f_70_1, t_1, l_1, t_2, l_2, m_t, m_f0, m_f1, m_f2, m_f3, m_t1, m_l1, m_t2, m_l2, rowX_s, rowX_n, rowX_f, rowX_2, up_s, up_n, Nat.zero_add, n_m1, i_dec, cat_n, cat_i, cat_r, cat_l, i_add, i_tn, i_vi, i_lt, i_eq, i_shl, n_ltT, n_ltF, n_eqT, n_eqF, n_leT, t_and, nb_0, nb_1, b2_0, b2_n, cont_v, cont_n, ex_eq, u_s, u_c, u_j, ↓reduceIte, ite_not, not_true_eq_false, not_false_eq_true, Bool.false_eq_true, Bool.true_eq_false, false_and, true_and, and_false, and_true, or_self, or_false, false_or, or_true, true_or, cont_x, n_leF, c_1, h1, c98 hS (by omega : 0 < 9) s5, k14, hM, M7, h2, hN2, N27, h3, hN3, h4', b2]
      · rw [if_neg g2] at t3
        rw [nQ_f g2]
        have t3' : TC tb m 0 (numF tb m (i32 0) (i32 nh - i32 1) p2) p2 0 N3 := by rw [← hN3]; exact tc_u (by omega) t3
        refine ⟨u2 N3 49 r0 (i32 0), frS_t F3 (frS_u (by omega)), ⟨⟨g2, n9b⟩, tc_u (by omega) t3', ⟨r0 + 1, by omega, by rw [u_c (by omega)]; exact N34⟩⟩, fun r => ?_⟩
        simp (disch := first | assumption | omega) only [in85, k85_0, k85_1, k85_3, k85_6, k85_8, k85_9, k85_12, k85_15, k85_16, k85_19, k85_21, k85_24, k85_25, k85_26, k85_29, k85_31, k85_32, k85_32r, k85_33, k85_36, k85_37, k85_38, k85_41, k85_42, k85_45, k85_47, k85_49, k85_50, k85_52, k85_96, k85_97, k85_100, k85_102, k85_103, k85_104, k85_105, k85_108, k85_109, k85_110, k85_113, k85_114, k85_117, k85_118, k85_121, k85_123, k85_124, k85_125, k85_126, k85_129, k85_130, k85_131, k85_134, k85_135, k85_136, k85_139, k85_141, k85_142, k85_143, k85_145, k85_148, k85_149, k85_152, k85_153, k85_156, k85_158, k85_159, k85_160, k85_161, k85_164, k85_165, k85_166, k85_169, k85_170, k85_171, k85_174, k85_176, k85_177, k85_178, k85_179, k85_182, k85_183, k85_184, k85_187, k85_188, k85_189, k85_192, k85_194, k85_195, k85_196, k85_198, k85_201, k85_202, k85_205, k85_206, k85_209, k85_211, k85_212, k85_213, k85_215, k85_218, k85_219, k85_222, k85_223, k85_224, k85_225, k85_226, k85_228, k85_231, k85_234, c_0, c_1, c_2, c_3, c_4, c_5, c_6, c_7, c_8, c_9, c_10, c_11, c_12, c_13, c_14, c_15, c_16, c_30, c_38, c_40, c_99, hS, t_16, f_16_0, f_16_1, f_16_2, f_16_3, f_16_4, f_16_5, f_16_6, f_16_7, f_16_8, f_16_9, f_16_10, f_16_11, f_16_12, f_16_13, t_17, f_17_0, t_18, l_18, t_19, f_19_0, f_19_1, f_19_2, f_19_3, f_19_4, f_19_5, f_19_6, t_20, l_20, t_21, l_21, t_22, l_22, t_23, l_23, t_24, l_24, t_25, l_25, t_26, l_26, t_27, f_27_0, f_27_1, f_27_2, f_27_3, f_27_4, f_27_5, f_27_6, t_28, l_28, t_29, l_29, t_30, l_30, t_31, l_31, t_32, l_32, t_33, l_33, t_34, l_34, t_35, f_35_0, f_35_1, t_36, l_36, t_37, l_37, t_38, f_38_0, f_38_1, t_39, l_39, t_40, l_40, t_41, f_41_0, t_42, l_42, t_43, f_43_0, t_44, l_44, t_45, f_45_0, f_45_1, f_45_2, f_45_3, t_46, l_46, t_47, l_47, t_48, l_48, t_49, l_49, t_50, l_50, t_51, f_51_0, f_51_1, f_51_2, f_51_3, t_52, l_52, t_53, l_53, t_54, f_54_0, f_54_1, f_54_2, f_54_3, t_55, l_55, t_56, l_56, t_57, f_57_0, f_57_1, f_57_2, f_57_3, t_58, l_58, t_59, l_59, t_60, l_60, t_61, f_61_0, f_61_1, f_61_2, f_61_3, f_61_4, f_61_5, f_61_6, t_62, l_62, t_63, f_63_0, f_63_1, t_64, l_64, t_65, l_65, t_66, f_66_0, f_66_1, t_67, l_67, t_68, l_68, t_69, l_69, t_70, f_70_0, f_70_1, t_1, l_1, t_2, l_2, m_t, m_f0, m_f1, m_f2, m_f3, m_t1, m_l1, m_t2, m_l2, rowX_s, rowX_n, rowX_f, rowX_2, up_s, up_n, Nat.zero_add, n_m1, i_dec, cat_n, cat_i, cat_r, cat_l, i_add, i_tn, i_vi, i_lt, i_eq, i_shl, n_ltT, n_ltF, n_eqT, n_eqF, n_leT, t_and, nb_0, nb_1, b2_0, b2_n, cont_v, cont_n, ex_eq, u_s, u_c, u_j, ↓reduceIte, ite_not, not_true_eq_false, not_false_eq_true, Bool.false_eq_true, Bool.true_eq_false, false_and, true_and, and_false, and_true, or_self, or_false, false_or, or_true, true_or, cont_x, n_leF, c_1, h1, c98 hS (by omega : 0 < 9) s5, k14, hM, M7, h2, hN2, N27, h3, hN3, p105f hS g2 n9b t3', b2]
    · rw [if_neg g1] at t2
      rw [nQ_f g1]
      have t2' : TC tb m 0 (numF tb m (i32 0) (i32 nh - i32 1) p1) p1 0 N2 := by rw [← hN2]; exact tc_u (by omega) t2
      have t3' := tc_u (c := 48) (j := r0) (x := i32 0) (by omega) t2'
      refine ⟨u2 (u2 N2 48 r0 (i32 0)) 49 r0 (i32 0), frS_t (frS_t F2 (frS_u (by omega))) (frS_u (by omega)), ⟨⟨g1, n9⟩, tc_u (by omega) t3', ⟨r0 + 1, by omega, by rw [u_c (by omega), u_c (by omega)]; exact N24⟩⟩, fun r => ?_⟩
      simp (disch := first | assumption | omega) only [in85, k85_0, k85_1, k85_3, k85_6, k85_8, k85_9, k85_12, k85_15, k85_16, k85_19, k85_21, k85_24, k85_25, k85_26, k85_29, k85_31, k85_32, k85_32r, k85_33, k85_36, k85_37, k85_38, k85_41, k85_42, k85_45, k85_47, k85_49, k85_50, k85_52, k85_96, k85_97, k85_100, k85_102, k85_103, k85_104, k85_105, k85_108, k85_109, k85_110, k85_113, k85_114, k85_117, k85_118, k85_121, k85_123, k85_124, k85_125, k85_126, k85_129, k85_130, k85_131, k85_134, k85_135, k85_136, k85_139, k85_141, k85_142, k85_143, k85_145, k85_148, k85_149, k85_152, k85_153, k85_156, k85_158, k85_159, k85_160, k85_161, k85_164, k85_165, k85_166, k85_169, k85_170, k85_171, k85_174, k85_176, k85_177, k85_178, k85_179, k85_182, k85_183, k85_184, k85_187, k85_188, k85_189, k85_192, k85_194, k85_195, k85_196, k85_198, k85_201, k85_202, k85_205, k85_206, k85_209, k85_211, k85_212, k85_213, k85_215, k85_218, k85_219, k85_222, k85_223, k85_224, k85_225, k85_226, k85_228, k85_231, k85_234, c_0, c_1, c_2, c_3, c_4, c_5, c_6, c_7, c_8, c_9, c_10, c_11, c_12, c_13, c_14, c_15, c_16, c_30, c_38, c_40, c_99, hS, t_16, f_16_0, f_16_1, f_16_2, f_16_3, f_16_4, f_16_5, f_16_6, f_16_7, f_16_8, f_16_9, f_16_10, f_16_11, f_16_12, f_16_13, t_17, f_17_0, t_18, l_18, t_19, f_19_0, f_19_1, f_19_2, f_19_3, f_19_4, f_19_5, f_19_6, t_20, l_20, t_21, l_21, t_22, l_22, t_23, l_23, t_24, l_24, t_25, l_25, t_26, l_26, t_27, f_27_0, f_27_1, f_27_2, f_27_3, f_27_4, f_27_5, f_27_6, t_28, l_28, t_29, l_29, t_30, l_30, t_31, l_31, t_32, l_32, t_33, l_33, t_34, l_34, t_35, f_35_0, f_35_1, t_36, l_36, t_37, l_37, t_38, f_38_0, f_38_1, t_39, l_39, t_40, l_40, t_41, f_41_0, t_42, l_42, t_43, f_43_0, t_44, l_44, t_45, f_45_0, f_45_1, f_45_2, f_45_3, t_46, l_46, t_47, l_47, t_48, l_48, t_49, l_49, t_50, l_50, t_51, f_51_0, f_51_1, f_51_2, f_51_3, t_52, l_52, t_53, l_53, t_54, f_54_0, f_54_1, f_54_2, f_54_3, t_55, l_55, t_56, l_56, t_57, f_57_0, f_57_1, f_57_2, f_57_3, t_58, l_58, t_59, l_59, t_60, l_60, t_61, f_61_0, f_61_1, f_61_2, f_61_3, f_61_4, f_61_5, f_61_6, t_62, l_62, t_63, f_63_0, f_63_1, t_64, l_64, t_65, l_65, t_66, f_66_0, f_66_1, t_67, l_67, t_68, l_68, t_69, l_69, t_70, f_70_0, f_70_1, t_1, l_1, t_2, l_2, m_t, m_f0, m_f1, m_f2, m_f3, m_t1, m_l1, m_t2, m_l2, rowX_s, rowX_n, rowX_f, rowX_2, up_s, up_n, Nat.zero_add, n_m1, i_dec, cat_n, cat_i, cat_r, cat_l, i_add, i_tn, i_vi, i_lt, i_eq, i_shl, n_ltT, n_ltF, n_eqT, n_eqF, n_leT, t_and, nb_0, nb_1, b2_0, b2_n, cont_v, cont_n, ex_eq, u_s, u_c, u_j, ↓reduceIte, ite_not, not_true_eq_false, not_false_eq_true, Bool.false_eq_true, Bool.true_eq_false, false_and, true_and, and_false, and_true, or_self, or_false, false_or, or_true, true_or, cont_x, n_leF, c_1, h1, c98 hS (by omega : 0 < 9) s5, k14, hM, M7, h2, hN2, N27, p105f hS g1 n9 t2', p105f hS g1 n9 t3', b2]
  rw [if_neg e3]
  obtain ⟨K2, f2, t2, h2⟩ := p105 (d := d + 2) (L := L) (lo := i32 0) (hi := i32 nd - i32 1) hS hm6 htb tM
  have n9 := numF_lt (tb := tb) (m := m) (p := p1) (lo := i32 0) (hi := i32 nd - i32 1)
  obtain ⟨N2, hN2⟩ : ∃ N2, u2 K2 47 r0 (i32 (numV tb m p1)) = N2 := ⟨_, rfl⟩
  have F2 : frS I N2 r0 := by rw [← hN2]; exact frS_t (frS_t FM (frS_17 f2)) (frS_u (by omega))
  have N24 : N2 45 4 = i32 (r0 + 1) := by rw [← hN2, u_c (by omega), f2 _ _ (by omega)]; exact M4
  have w2 : ∀ c j, ¬ (c = 17) → ¬ (c = 47 ∧ j = r0) → N2 c j = M c j := fun c j a b => by
    rw [← hN2]
    by_cases e1 : c = 47
    · subst e1; rw [u_j (by omega), f2 _ _ (by omega)]
    · rw [u_c e1, f2 _ _ (by omega)]
  by_cases e2 : k = 2
  · rw [if_pos e2]
    subst e2
    by_cases g1 : numF tb m (i32 0) (i32 nd - i32 1) p1 = 0
    · rw [if_pos g1] at t2
      rw [nQ_0 g1]
      have t2' : TC tb m (sk tb m (dgE tb m p1)) 0 0 p1 N2 := by rw [← hN2]; exact tc_u (by omega) t2
      generalize sk tb m (dgE tb m p1) = p2 at *
      obtain ⟨K3, f3, t3, h3⟩ := p105 (d := d + 2) (L := L) (lo := i32 1) (hi := i32 30) hS hm6 htb t2'
      have n9b := numF_lt (tb := tb) (m := m) (p := p2) (lo := i32 1) (hi := i32 30)
      refine ⟨u2 K3 48 r0 (i32 (numV tb m p2)), frS_t (frS_t F2 (frS_17 f3)) (frS_u (by omega)), ?_, fun r => ?_⟩
      · by_cases g2 : numF tb m (i32 1) (i32 30) p2 = 0
        · rw [if_pos g2] at t3
          rw [nQ_0 g2]
          exact ⟨⟨_, tc_u (by omega) t3⟩, one 0 _ _ (fun c j a b => by
            have z3 : K3 c j = N2 c j := f3 _ _ (by omega)
            by_cases e1 : c = 48
            · subst e1; rw [u_j (by omega), z3, w2 _ _ (by omega) (by omega)]
            · rw [u_c e1, z3, w2 _ _ (by omega) (by omega)]) (by simp (disch := omega) only [upA_n, upA_s]) (fun _ => by
              simp (disch := omega) only [upA_n, upA_s]
              rw [u_c (by omega), f3 _ _ (by omega), ← hN2, u_s]) (fun _ => by
              simp (disch := omega) only [upA_n, upA_s, u_s]) (fun z => absurd z (by omega)) (by omega)⟩
        · rw [if_neg g2] at t3
          rw [nQ_f g2]
          exact ⟨⟨g2, n9b⟩, tc_u (by omega) t3, ⟨r0 + 1, by omega, by rw [u_c (by omega), f3 _ _ (by omega)]; exact N24⟩⟩
      · simp (disch := first | assumption | omega) only [in85, k85_0, k85_1, k85_3, k85_6, k85_8, k85_9, k85_12, k85_15, k85_16, k85_19, k85_21, k85_24, k85_25, k85_26, k85_29, k85_31, k85_32, k85_32r, k85_33, k85_36, k85_37, k85_38, k85_41, k85_42, k85_45, k85_47, k85_49, k85_50, k85_52, k85_96, k85_97, k85_100, k85_102, k85_103, k85_104, k85_105, k85_108, k85_109, k85_110, k85_113, k85_114, k85_117, k85_118, k85_121, k85_123, k85_124, k85_125, k85_126, k85_129, k85_130, k85_131, k85_134, k85_135, k85_136, k85_139, k85_141, k85_142, k85_143, k85_145, k85_148, k85_149, k85_152, k85_153, k85_156, k85_158, k85_159, k85_160, k85_161, k85_164, k85_165, k85_166, k85_169, k85_170, k85_171, k85_174, k85_176, k85_177, k85_178, k85_179, k85_182, k85_183, k85_184, k85_187, k85_188, k85_189, k85_192, k85_194, k85_195, k85_196, k85_198, k85_201, k85_202, k85_205, k85_206, k85_209, k85_211, k85_212, k85_213, k85_215, k85_218, k85_219, k85_222, k85_223, k85_224, k85_225, k85_226, k85_228, k85_231, k85_234, c_0, c_1, c_2, c_3, c_4, c_5, c_6, c_7, c_8, c_9, c_10, c_11, c_12, c_13, c_14, c_15, c_16, c_30, c_38, c_40, c_99, hS, t_16, f_16_0, f_16_1, f_16_2, f_16_3, f_16_4, f_16_5, f_16_6, f_16_7, f_16_8, f_16_9, f_16_10, f_16_11, f_16_12, f_16_13, t_17, f_17_0, t_18, l_18, t_19, f_19_0, f_19_1, f_19_2, f_19_3, f_19_4, f_19_5, f_19_6, t_20, l_20, t_21, l_21, t_22, l_22, t_23, l_23, t_24, l_24, t_25, l_25, t_26, l_26, t_27, f_27_0, f_27_1, f_27_2, f_27_3, f_27_4, f_27_5, f_27_6, t_28, l_28, t_29, l_29, t_30, l_30, t_31, l_31, t_32, l_32, t_33, l_33, t_34, l_34, t_35, f_35_0, f_35_1, t_36, l_36, t_37, l_37, t_38, f_38_0, f_38_1, t_39, l_39, t_40, l_40, t_41, f_41_0, t_42, l_42, t_43, f_43_0, t_44, l_44, t_45, f_45_0, f_45_1, f_45_2, f_45_3, t_46, l_46, t_47, l_47, t_48, l_48, t_49, l_49, t_50, l_50, t_51, f_51_0, f_51_1, f_51_2, f_51_3, t_52, l_52, t_53, l_53, t_54, f_54_0, f_54_1, f_54_2, f_54_3, t_55, l_55, t_56, l_56, t_57, f_57_0, f_57_1, f_57_2, f_57_3, t_58, l_58, t_59, l_59, t_60, l_60, t_61, f_61_0, f_61_1, f_61_2, f_61_3, f_61_4, f_61_5, f_61_6, t_62, l_62, t_63, f_63_0, f_63_1, t_64, l_64, t_65, l_65, t_66, f_66_0, f_66_1, t_67, l_67, t_68, l_68, t_69, l_69, t_70, f_70_0, f_70_1, t_1, l_1, t_2, l_2, m_t, m_f0, m_f1, m_f2, m_f3, m_t1, m_l1, m_t2, m_l2, rowX_s, rowX_n, rowX_f, rowX_2, up_s, up_n, Nat.zero_add, n_m1, i_dec, cat_n, cat_i, cat_r, cat_l, i_add, i_tn, i_vi, i_lt, i_eq, i_shl, n_ltT, n_ltF, n_eqT, n_eqF, n_leT, t_and, nb_0, nb_1, b2_0, b2_n, cont_v, cont_n, ex_eq, u_s, u_c, u_j, ↓reduceIte, ite_not, not_true_eq_false, not_false_eq_true, Bool.false_eq_true, Bool.true_eq_false, false_and, true_and, and_false, and_true, or_self, or_false, false_or, or_true, true_or, cont_x, n_leF, c_1, h1, c98 hS (by omega : 0 < 9) s5, k14, hM, M8, h2, hN2, h3, b2]
    · rw [if_neg g1] at t2
      rw [nQ_f g1]
      have t2' : TC tb m 0 (numF tb m (i32 0) (i32 nd - i32 1) p1) p1 0 N2 := by rw [← hN2]; exact tc_u (by omega) t2
      refine ⟨u2 N2 48 r0 (i32 0), frS_t F2 (frS_u (by omega)), ⟨⟨g1, n9⟩, tc_u (by omega) t2', ⟨r0 + 1, by omega, by rw [u_c (by omega)]; exact N24⟩⟩, fun r => ?_⟩
      simp (disch := first | assumption | omega) only [in85, k85_0, k85_1, k85_3, k85_6, k85_8, k85_9, k85_12, k85_15, k85_16, k85_19, k85_21, k85_24, k85_25, k85_26, k85_29, k85_31, k85_32, k85_32r, k85_33, k85_36, k85_37, k85_38, k85_41, k85_42, k85_45, k85_47, k85_49, k85_50, k85_52, k85_96, k85_97, k85_100, k85_102, k85_103, k85_104, k85_105, k85_108, k85_109, k85_110, k85_113, k85_114, k85_117, k85_118, k85_121, k85_123, k85_124, k85_125, k85_126, k85_129, k85_130, k85_131, k85_134, k85_135, k85_136, k85_139, k85_141, k85_142, k85_143, k85_145, k85_148, k85_149, k85_152, k85_153, k85_156, k85_158, k85_159, k85_160, k85_161, k85_164, k85_165, k85_166, k85_169, k85_170, k85_171, k85_174, k85_176, k85_177, k85_178, k85_179, k85_182, k85_183, k85_184, k85_187, k85_188, k85_189, k85_192, k85_194, k85_195, k85_196, k85_198, k85_201, k85_202, k85_205, k85_206, k85_209, k85_211, k85_212, k85_213, k85_215, k85_218, k85_219, k85_222, k85_223, k85_224, k85_225, k85_226, k85_228, k85_231, k85_234, c_0, c_1, c_2, c_3, c_4, c_5, c_6, c_7, c_8, c_9, c_10, c_11, c_12, c_13, c_14, c_15, c_16, c_30, c_38, c_40, c_99, hS, t_16, f_16_0, f_16_1, f_16_2, f_16_3, f_16_4, f_16_5, f_16_6, f_16_7, f_16_8, f_16_9, f_16_10, f_16_11, f_16_12, f_16_13, t_17, f_17_0, t_18, l_18, t_19, f_19_0, f_19_1, f_19_2, f_19_3, f_19_4, f_19_5, f_19_6, t_20, l_20, t_21, l_21, t_22, l_22, t_23, l_23, t_24, l_24, t_25, l_25, t_26, l_26, t_27, f_27_0, f_27_1, f_27_2, f_27_3, f_27_4, f_27_5, f_27_6, t_28, l_28, t_29, l_29, t_30, l_30, t_31, l_31, t_32, l_32, t_33, l_33, t_34, l_34, t_35, f_35_0, f_35_1, t_36, l_36, t_37, l_37, t_38, f_38_0, f_38_1, t_39, l_39, t_40, l_40, t_41, f_41_0, t_42, l_42, t_43, f_43_0, t_44, l_44, t_45, f_45_0, f_45_1, f_45_2, f_45_3, t_46, l_46, t_47, l_47, t_48, l_48, t_49, l_49, t_50, l_50, t_51, f_51_0, f_51_1, f_51_2, f_51_3, t_52, l_52, t_53, l_53, t_54, f_54_0, f_54_1, f_54_2, f_54_3, t_55, l_55, t_56, l_56, t_57, f_57_0, f_57_1, f_57_2, f_57_3, t_58, l_58, t_59, l_59, t_60, l_60, t_61, f_61_0, f_61_1, f_61_2, f_61_3, f_61_4, f_61_5, f_61_6, t_62, l_62, t_63, f_63_0, f_63_1, t_64, l_64, t_65, l_65, t_66, f_66_0, f_66_1, t_67, l_67, t_68, l_68, t_69, l_69, t_70, f_70_0, f_70_1, t_1, l_1, t_2, l_2, m_t, m_f0, m_f1, m_f2, m_f3, m_t1, m_l1, m_t2, m_l2, rowX_s, rowX_n, rowX_f, rowX_2, up_s, up_n, Nat.zero_add, n_m1, i_dec, cat_n, cat_i, cat_r, cat_l, i_add, i_tn, i_vi, i_lt, i_eq, i_shl, n_ltT, n_ltF, n_eqT, n_eqF, n_leT, t_and, nb_0, nb_1, b2_0, b2_n, cont_v, cont_n, ex_eq, u_s, u_c, u_j, ↓reduceIte, ite_not, not_true_eq_false, not_false_eq_true, Bool.false_eq_true, Bool.true_eq_false, false_and, true_and, and_false, and_true, or_self, or_false, false_or, or_true, true_or, cont_x, n_leF, c_1, h1, c98 hS (by omega : 0 < 9) s5, k14, hM, M8, h2, hN2, p105f hS g1 n9 t2', b2]
  rw [if_neg e2]
  have hk2 : k = 0 ∨ k = 1 := by omega
  refine ⟨N2, F2, ?_, fun r => ?_⟩
  · by_cases g1 : numF tb m (i32 0) (i32 nd - i32 1) p1 = 0
    · rw [if_pos g1] at t2
      rw [nQ_0 g1]
      exact ⟨⟨_, by rw [← hN2]; exact tc_u (by omega) t2⟩, one 0 _ _ (fun c j a b => w2 _ _ a (by omega)) (by simp (disch := omega) only [upA_n, upA_s]) (fun _ => by
        simp (disch := omega) only [upA_n, upA_s]
        rw [← hN2, u_s]) (fun z => absurd z (by omega)) (fun z => absurd z (by omega)) (by omega)⟩
    · rw [if_neg g1] at t2
      rw [nQ_f g1]
      exact ⟨⟨g1, n9⟩, by rw [← hN2]; exact tc_u (by omega) t2, ⟨r0 + 1, by omega, N24⟩⟩
  · rcases hk2 with rfl | rfl
    · simp (disch := first | assumption | omega) only [in85, k85_0, k85_1, k85_3, k85_6, k85_8, k85_9, k85_12, k85_15, k85_16, k85_19, k85_21, k85_24, k85_25, k85_26, k85_29, k85_31, k85_32, k85_32r, k85_33, k85_36, k85_37, k85_38, k85_41, k85_42, k85_45, k85_47, k85_49, k85_50, k85_52, k85_96, k85_97, k85_100, k85_102, k85_103, k85_104, k85_105, k85_108, k85_109, k85_110, k85_113, k85_114, k85_117, k85_118, k85_121, k85_123, k85_124, k85_125, k85_126, k85_129, k85_130, k85_131, k85_134, k85_135, k85_136, k85_139, k85_141, k85_142, k85_143, k85_145, k85_148, k85_149, k85_152, k85_153, k85_156, k85_158, k85_159, k85_160, k85_161, k85_164, k85_165, k85_166, k85_169, k85_170, k85_171, k85_174, k85_176, k85_177, k85_178, k85_179, k85_182, k85_183, k85_184, k85_187, k85_188, k85_189, k85_192, k85_194, k85_195, k85_196, k85_198, k85_201, k85_202, k85_205, k85_206, k85_209, k85_211, k85_212, k85_213, k85_215, k85_218, k85_219, k85_222, k85_223, k85_224, k85_225, k85_226, k85_228, k85_231, k85_234, c_0, c_1, c_2, c_3, c_4, c_5, c_6, c_7, c_8, c_9, c_10, c_11, c_12, c_13, c_14, c_15, c_16, c_30, c_38, c_40, c_99, hS, t_16, f_16_0, f_16_1, f_16_2, f_16_3, f_16_4, f_16_5, f_16_6, f_16_7, f_16_8, f_16_9, f_16_10, f_16_11, f_16_12, f_16_13, t_17, f_17_0, t_18, l_18, t_19, f_19_0, f_19_1, f_19_2, f_19_3, f_19_4, f_19_5, f_19_6, t_20, l_20, t_21, l_21, t_22, l_22, t_23, l_23, t_24, l_24, t_25, l_25, t_26, l_26, t_27, f_27_0, f_27_1, f_27_2, f_27_3, f_27_4, f_27_5, f_27_6, t_28, l_28, t_29, l_29, t_30, l_30, t_31, l_31, t_32, l_32, t_33, l_33, t_34, l_34, t_35, f_35_0, f_35_1, t_36, l_36, t_37, l_37, t_38, f_38_0, f_38_1, t_39, l_39, t_40, l_40, t_41, f_41_0, t_42, l_42, t_43, f_43_0, t_44, l_44, t_45, f_45_0, f_45_1, f_45_2, f_45_3, t_46, l_46, t_47, l_47, t_48, l_48, t_49, l_49, t_50, l_50, t_51, f_51_0, f_51_1, f_51_2, f_51_3, t_52, l_52, t_53, l_53, t_54, f_54_0, f_54_1, f_54_2, f_54_3, t_55, l_55, t_56, l_56, t_57, f_57_0, f_57_1, f_57_2, f_57_3, t_58, l_58, t_59, l_59, t_60, l_60, t_61, f_61_0, f_61_1, f_61_2, f_61_3, f_61_4, f_61_5, f_61_6, t_62, l_62, t_63, f_63_0, f_63_1, t_64, l_64, t_65, l_65, t_66, f_66_0, f_66_1, t_67, l_67, t_68, l_68, t_69, l_69, t_70, f_70_0, f_70_1, t_1, l_1, t_2, l_2, m_t, m_f0, m_f1, m_f2, m_f3, m_t1, m_l1, m_t2, m_l2, rowX_s, rowX_n, rowX_f, rowX_2, up_s, up_n, Nat.zero_add, n_m1, i_dec, cat_n, cat_i, cat_r, cat_l, i_add, i_tn, i_vi, i_lt, i_eq, i_shl, n_ltT, n_ltF, n_eqT, n_eqF, n_leT, t_and, nb_0, nb_1, b2_0, b2_n, cont_v, cont_n, ex_eq, u_s, u_c, u_j, ↓reduceIte, ite_not, not_true_eq_false, not_false_eq_true, Bool.false_eq_true, Bool.true_eq_false, false_and, true_and, and_false, and_true, or_self, or_false, false_or, or_true, true_or, cont_x, n_leF, c_1, h1, c98 hS (by omega : 0 < 9) s5, k14, hM, M8, h2, hN2, b2]
    · simp (disch := first | assumption | omega) only [in85, k85_0, k85_1, k85_3, k85_6, k85_8, k85_9, k85_12, k85_15, k85_16, k85_19, k85_21, k85_24, k85_25, k85_26, k85_29, k85_31, k85_32, k85_32r, k85_33, k85_36, k85_37, k85_38, k85_41, k85_42, k85_45, k85_47, k85_49, k85_50, k85_52, k85_96, k85_97, k85_100, k85_102, k85_103, k85_104, k85_105, k85_108, k85_109, k85_110, k85_113, k85_114, k85_117, k85_118, k85_121, k85_123, k85_124, k85_125, k85_126, k85_129, k85_130, k85_131, k85_134, k85_135, k85_136, k85_139, k85_141, k85_142, k85_143, k85_145, k85_148, k85_149, k85_152, k85_153, k85_156, k85_158, k85_159, k85_160, k85_161, k85_164, k85_165, k85_166, k85_169, k85_170, k85_171, k85_174, k85_176, k85_177, k85_178, k85_179, k85_182, k85_183, k85_184, k85_187, k85_188, k85_189, k85_192, k85_194, k85_195, k85_196, k85_198, k85_201, k85_202, k85_205, k85_206, k85_209, k85_211, k85_212, k85_213, k85_215, k85_218, k85_219, k85_222, k85_223, k85_224, k85_225, k85_226, k85_228, k85_231, k85_234, c_0, c_1, c_2, c_3, c_4, c_5, c_6, c_7, c_8, c_9, c_10, c_11, c_12, c_13, c_14, c_15, c_16, c_30, c_38, c_40, c_99, hS, t_16, f_16_0, f_16_1, f_16_2, f_16_3, f_16_4, f_16_5, f_16_6, f_16_7, f_16_8, f_16_9, f_16_10, f_16_11, f_16_12, f_16_13, t_17, f_17_0, t_18, l_18, t_19, f_19_0, f_19_1, f_19_2, f_19_3, f_19_4, f_19_5, f_19_6, t_20, l_20, t_21, l_21, t_22, l_22, t_23, l_23, t_24, l_24, t_25, l_25, t_26, l_26, t_27, f_27_0, f_27_1, f_27_2, f_27_3, f_27_4, f_27_5, f_27_6, t_28, l_28, t_29, l_29, t_30, l_30, t_31, l_31, t_32, l_32, t_33, l_33, t_34, l_34, t_35, f_35_0, f_35_1, t_36, l_36, t_37, l_37, t_38, f_38_0, f_38_1, t_39, l_39, t_40, l_40, t_41, f_41_0, t_42, l_42, t_43, f_43_0, t_44, l_44, t_45, f_45_0, f_45_1, f_45_2, f_45_3, t_46, l_46, t_47, l_47, t_48, l_48, t_49, l_49, t_50, l_50, t_51, f_51_0, f_51_1, f_51_2, f_51_3, t_52, l_52, t_53, l_53, t_54, f_54_0, f_54_1, f_54_2, f_54_3, t_55, l_55, t_56, l_56, t_57, f_57_0, f_57_1, f_57_2, f_57_3, t_58, l_58, t_59, l_59, t_60, l_60, t_61, f_61_0, f_61_1, f_61_2, f_61_3, f_61_4, f_61_5, f_61_6, t_62, l_62, t_63, f_63_0, f_63_1, t_64, l_64, t_65, l_65, t_66, f_66_0, f_66_1, t_67, l_67, t_68, l_68, t_69, l_69, t_70, f_70_0, f_70_1, t_1, l_1, t_2, l_2, m_t, m_f0, m_f1, m_f2, m_f3, m_t1, m_l1, m_t2, m_l2, rowX_s, rowX_n, rowX_f, rowX_2, up_s, up_n, Nat.zero_add, n_m1, i_dec, cat_n, cat_i, cat_r, cat_l, i_add, i_tn, i_vi, i_lt, i_eq, i_shl, n_ltT, n_ltF, n_eqT, n_eqF, n_leT, t_and, nb_0, nb_1, b2_0, b2_n, cont_v, cont_n, ex_eq, u_s, u_c, u_j, ↓reduceIte, ite_not, not_true_eq_false, not_false_eq_true, Bool.false_eq_true, Bool.true_eq_false, false_and, true_and, and_false, and_true, or_self, or_false, false_or, or_true, true_or, cont_x, n_leF, c_1, h1, c98 hS (by omega : 0 < 9) s5, k14, hM, M8, h2, hN2, b2]
end Wk
