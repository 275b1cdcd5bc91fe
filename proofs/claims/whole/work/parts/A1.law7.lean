/-! THE LAW: the call -/
def laR (tb : Nat → Nat) (m : Nat) : List (Nat × Nat) ⊕ (Nat × Nat) := match suA tb m 6 [] (sk tb m 0) with
  | .inr e => .inr e
  | .inl (c, p) => if p < m then .inr (1, p) else .inl c
theorem wf_nil : WF [] 0 := ⟨fun k hk => absurd hk (Nat.not_lt_zero _), rfl⟩
theorem wf_pos {c : List (Nat × Nat)} (h : WF c 1) : 0 < c.length := by
  refine Nat.pos_of_ne_zero fun z => ?_
  have := h.2
  rw [z] at this
  have h0 : depQ (qL c) 0 = 0 := rfl
  omega
section LawT
variable {tb : Nat → Nat} {m : Nat}
def lrC (tb : Nat → Nat) (m : Nat) (I : VI) : List (Nat × Nat) ⊕ (Nat × Nat) → Prop
  | .inl c => (∃ p t, TC tb m p 0 0 t I) ∧ LC I c ∧ c.length ≤ 150 ∧ WF c 1
  | .inr (f, pl) => (f ≠ 0 ∧ f < 9) ∧ TC tb m 0 f pl 0 I
theorem p9 {d n t : Nat} {I : VI} {L : VL} {S : SW} (hS : S.1 = W0 n) (hm : m ≤ 150) (htb : ∀ k, tb k < 256) (hT : TC tb m (sk tb m 0) 0 0 t I) : ∃ I', frL I I' ∧ lrC tb m I' (laR tb m) ∧ ∀ r, EvD (d + 32) 9 [.ref 38, .ref 17] I L S r ↔ r = (.inl none, I', L, S) := by
  have hm6 : m ≤ 600 := by omega
  have s2 := sk_le (tb := tb) (n := m) (a := 0) (by omega)
  obtain ⟨K, hK⟩ : ∃ K, u2 I 38 2 (i32 0) = K := ⟨_, rfl⟩
  have tK : TC tb m (sk tb m 0) 0 0 t K := by rw [← hK]; exact tc_u (by omega) hT
  have LK : LC K [] := ⟨by rw [← hK]; exact u_s, fun k hk => absurd hk (Nat.not_lt_zero _)⟩
  have FK : frL I K := fun c j a b e => by rw [← hK]; exact u_c b
  obtain ⟨K1, f1, q1, h1⟩ := p10s (d := d) hm htb [] _ t K L S hS tK LK (Nat.zero_le _)
  unfold laR
  cases hu : suA tb m 6 [] (sk tb m 0) with
  | inr e =>
    obtain ⟨f, pl⟩ := e
    rw [hu] at q1
    obtain ⟨⟨f0, f9⟩, tK1, _⟩ := q1
    refine ⟨K1, frL_t FK f1, ⟨⟨f0, f9⟩, tK1⟩, fun r => ?_⟩
    simp (disch := first | assumption | omega) only [in9, k9_0, k9_1, k9_2, k9_5, k9_6, k9_7, k9_8, k9_11, k9_12, k9_15, k9_18, k9_19, k9_22, k9_25, k9_26, k9_27, k9_30, c_0, c_1, hS, t_16, f_16_0, f_16_1, f_16_2, f_16_3, f_16_4, f_16_5, f_16_6, f_16_7, f_16_8, f_16_9, f_16_10, f_16_11, f_16_12, f_16_13, t_17, f_17_0, t_18, l_18, t_19, f_19_0, f_19_1, f_19_2, f_19_3, f_19_4, f_19_5, f_19_6, t_20, l_20, t_21, l_21, t_22, l_22, t_23, l_23, t_24, l_24, t_25, l_25, t_26, l_26, t_27, f_27_0, f_27_1, f_27_2, f_27_3, f_27_4, f_27_5, f_27_6, t_28, l_28, t_29, l_29, t_30, l_30, t_31, l_31, t_32, l_32, t_33, l_33, t_34, l_34, t_35, f_35_0, f_35_1, t_36, l_36, t_37, l_37, t_38, f_38_0, f_38_1, t_39, l_39, t_40, l_40, t_41, f_41_0, t_42, l_42, t_43, f_43_0, t_44, l_44, t_45, f_45_0, f_45_1, f_45_2, f_45_3, t_46, l_46, t_47, l_47, t_48, l_48, t_49, l_49, t_50, l_50, t_51, f_51_0, f_51_1, f_51_2, f_51_3, t_52, l_52, t_53, l_53, t_54, f_54_0, f_54_1, f_54_2, f_54_3, t_55, l_55, t_56, l_56, t_57, f_57_0, f_57_1, f_57_2, f_57_3, t_58, l_58, t_59, l_59, t_60, l_60, t_61, f_61_0, f_61_1, f_61_2, f_61_3, f_61_4, f_61_5, f_61_6, t_62, l_62, t_63, f_63_0, f_63_1, t_64, l_64, t_65, l_65, t_66, f_66_0, f_66_1, t_67, l_67, t_68, l_68, t_69, l_69, t_70, f_70_0, f_70_1, t_1, l_1, t_2, l_2, m_t, m_f0, m_f1, m_f2, m_f3, m_t1, m_l1, m_t2, m_l2, rowX_s, rowX_n, rowX_f, rowX_2, up_s, up_n, Nat.zero_add, n_m1, i_dec, cat_n, cat_i, cat_r, cat_l, i_add, i_tn, i_vi, i_lt, i_eq, i_shl, n_ltT, n_ltF, n_eqT, n_eqF, n_leT, t_and, nb_0, nb_1, b2_0, b2_n, cont_v, cont_n, ex_eq, u_s, u_c, u_j, ↓reduceIte, ite_not, not_true_eq_false, not_false_eq_true, Bool.false_eq_true, Bool.true_eq_false, false_and, true_and, and_false, and_true, or_self, or_false, false_or, or_true, true_or, cont_x, n_leF, c_1, hK, h1, c98 hS f9 (tc5 tK1), f0, b2]
  | inl e =>
    obtain ⟨c, p⟩ := e
    rw [hu] at q1
    obtain ⟨⟨t1, tK1⟩, L1⟩ := q1
    obtain ⟨⟨b1, b2', b3⟩, b4⟩ := suA_B _ _ _ _ hu s2
    have hcl : c.length ≤ 150 := by
      have : ([] : List (Nat × Nat)).length = 0 := rfl
      omega
    obtain ⟨K2, f2, t2, h2⟩ := p100 (d := d + 29) (L := L) hS hm6 htb tK1
    have s5 := tc5 tK1
    dsimp only
    by_cases hp : p < m
    · rw [if_pos hp]
      simp only [b2_f (fun z : ¬ p < m => z hp)] at h2
      obtain ⟨K3, f3, t3, h3⟩ := p99 (d := d + 30) (L := L) (c := 1) hS (by omega) t2
      refine ⟨K3, frL_t (frL_t FK f1) (frL_17 (fr17_trans f2 f3)), ⟨⟨by omega, by omega⟩, t3⟩, fun r => ?_⟩
      simp (disch := first | assumption | omega) only [in9, k9_0, k9_1, k9_2, k9_5, k9_6, k9_7, k9_8, k9_11, k9_12, k9_15, k9_18, k9_19, k9_22, k9_25, k9_26, k9_27, k9_30, c_0, c_1, hS, t_16, f_16_0, f_16_1, f_16_2, f_16_3, f_16_4, f_16_5, f_16_6, f_16_7, f_16_8, f_16_9, f_16_10, f_16_11, f_16_12, f_16_13, t_17, f_17_0, t_18, l_18, t_19, f_19_0, f_19_1, f_19_2, f_19_3, f_19_4, f_19_5, f_19_6, t_20, l_20, t_21, l_21, t_22, l_22, t_23, l_23, t_24, l_24, t_25, l_25, t_26, l_26, t_27, f_27_0, f_27_1, f_27_2, f_27_3, f_27_4, f_27_5, f_27_6, t_28, l_28, t_29, l_29, t_30, l_30, t_31, l_31, t_32, l_32, t_33, l_33, t_34, l_34, t_35, f_35_0, f_35_1, t_36, l_36, t_37, l_37, t_38, f_38_0, f_38_1, t_39, l_39, t_40, l_40, t_41, f_41_0, t_42, l_42, t_43, f_43_0, t_44, l_44, t_45, f_45_0, f_45_1, f_45_2, f_45_3, t_46, l_46, t_47, l_47, t_48, l_48, t_49, l_49, t_50, l_50, t_51, f_51_0, f_51_1, f_51_2, f_51_3, t_52, l_52, t_53, l_53, t_54, f_54_0, f_54_1, f_54_2, f_54_3, t_55, l_55, t_56, l_56, t_57, f_57_0, f_57_1, f_57_2, f_57_3, t_58, l_58, t_59, l_59, t_60, l_60, t_61, f_61_0, f_61_1, f_61_2, f_61_3, f_61_4, f_61_5, f_61_6, t_62, l_62, t_63, f_63_0, f_63_1, t_64, l_64, t_65, l_65, t_66, f_66_0, f_66_1, t_67, l_67, t_68, l_68, t_69, l_69, t_70, f_70_0, f_70_1, t_1, l_1, t_2, l_2, m_t, m_f0, m_f1, m_f2, m_f3, m_t1, m_l1, m_t2, m_l2, rowX_s, rowX_n, rowX_f, rowX_2, up_s, up_n, Nat.zero_add, n_m1, i_dec, cat_n, cat_i, cat_r, cat_l, i_add, i_tn, i_vi, i_lt, i_eq, i_shl, n_ltT, n_ltF, n_eqT, n_eqF, n_leT, t_and, nb_0, nb_1, b2_0, b2_n, cont_v, cont_n, ex_eq, u_s, u_c, u_j, ↓reduceIte, ite_not, not_true_eq_false, not_false_eq_true, Bool.false_eq_true, Bool.true_eq_false, false_and, true_and, and_false, and_true, or_self, or_false, false_or, or_true, true_or, cont_x, n_leF, c_1, hK, h1, c98 hS (by omega : 0 < 9) s5, h2, h3, b2]
    · rw [if_neg hp]
      simp only [b2_t hp] at h2
      refine ⟨K2, frL_t (frL_t FK f1) (frL_17 f2), ⟨⟨_, _, t2⟩, LC_17 f2 L1, hcl, b4 0 wf_nil⟩, fun r => ?_⟩
      simp (disch := first | assumption | omega) only [in9, k9_0, k9_1, k9_2, k9_5, k9_6, k9_7, k9_8, k9_11, k9_12, k9_15, k9_18, k9_19, k9_22, k9_25, k9_26, k9_27, k9_30, c_0, c_1, hS, t_16, f_16_0, f_16_1, f_16_2, f_16_3, f_16_4, f_16_5, f_16_6, f_16_7, f_16_8, f_16_9, f_16_10, f_16_11, f_16_12, f_16_13, t_17, f_17_0, t_18, l_18, t_19, f_19_0, f_19_1, f_19_2, f_19_3, f_19_4, f_19_5, f_19_6, t_20, l_20, t_21, l_21, t_22, l_22, t_23, l_23, t_24, l_24, t_25, l_25, t_26, l_26, t_27, f_27_0, f_27_1, f_27_2, f_27_3, f_27_4, f_27_5, f_27_6, t_28, l_28, t_29, l_29, t_30, l_30, t_31, l_31, t_32, l_32, t_33, l_33, t_34, l_34, t_35, f_35_0, f_35_1, t_36, l_36, t_37, l_37, t_38, f_38_0, f_38_1, t_39, l_39, t_40, l_40, t_41, f_41_0, t_42, l_42, t_43, f_43_0, t_44, l_44, t_45, f_45_0, f_45_1, f_45_2, f_45_3, t_46, l_46, t_47, l_47, t_48, l_48, t_49, l_49, t_50, l_50, t_51, f_51_0, f_51_1, f_51_2, f_51_3, t_52, l_52, t_53, l_53, t_54, f_54_0, f_54_1, f_54_2, f_54_3, t_55, l_55, t_56, l_56, t_57, f_57_0, f_57_1, f_57_2, f_57_3, t_58, l_58, t_59, l_59, t_60, l_60, t_61, f_61_0, f_61_1, f_61_2, f_61_3, f_61_4, f_61_5, f_61_6, t_62, l_62, t_63, f_63_0, f_63_1, t_64, l_64, t_65, l_65, t_66, f_66_0, f_66_1, t_67, l_67, t_68, l_68, t_69, l_69, t_70, f_70_0, f_70_1, t_1, l_1, t_2, l_2, m_t, m_f0, m_f1, m_f2, m_f3, m_t1, m_l1, m_t2, m_l2, rowX_s, rowX_n, rowX_f, rowX_2, up_s, up_n, Nat.zero_add, n_m1, i_dec, cat_n, cat_i, cat_r, cat_l, i_add, i_tn, i_vi, i_lt, i_eq, i_shl, n_ltT, n_ltF, n_eqT, n_eqF, n_leT, t_and, nb_0, nb_1, b2_0, b2_n, cont_v, cont_n, ex_eq, u_s, u_c, u_j, ↓reduceIte, ite_not, not_true_eq_false, not_false_eq_true, Bool.false_eq_true, Bool.true_eq_false, false_and, true_and, and_false, and_true, or_self, or_false, false_or, or_true, true_or, cont_x, n_leF, c_1, hK, h1, c98 hS (by omega : 0 < 9) s5, h2, b2]
def lrM (I : VI) : List (Nat × Nat) ⊕ (Nat × Nat) → Prop
  | .inl c => I 71 5 = i32 0 ∧ LN I c
  | .inr (f, pl) => (f ≠ 0 ∧ f < 9) ∧ I 71 5 = i32 f ∧ I 71 6 = i32 pl
end LawT
theorem mlaw {d n k nf : Nat} {I1 : VI} {L : VL} {S : SW} {tb : Nat → Nat} (hS : S.1 = W0 n) (htb : ∀ k, tb k < 256) (t3 : nf ≤ 600) (hkn : k ≤ nf) (hk : k ≤ 150) (h711 : I1 71 1 = i32 nf) (h72 : ∀ i, i < k → I1 72 i = i32 (tb i)) : ∃ J2, (∀ c j, ¬ (c = 71 ∧ ((j ≤ 8 ∧ j ≠ 3) ∨ j = 19)) → ¬ (279 ≤ c ∧ c ≤ 438) → J2 c j = I1 c j) ∧ J2 71 0 = i32 0 ∧ J2 71 1 = i32 0 ∧ lrM J2 (laR tb k) ∧ ∀ r, EvD (d + 40) 204 [.ref 71, .int (i32 k)] I1 L S r ↔ Ev (d + 39) 204 85 [.ref 71, .int (i32 k)] [] J2 L S r := by
  obtain ⟨J, hJ⟩ : ∃ J, u2 I1 71 0 (i32 0) = J := ⟨_, rfl⟩
  have Jc : ∀ c j, ¬ (c = 71 ∧ j = 0) → J c j = I1 c j := fun c j h => by
    rw [← hJ]
    by_cases e : c = 71
    · subst e; exact u_j (by omega)
    · exact u_c e
  have hJ0 : J 71 0 = i32 0 := by rw [← hJ]; exact u_s
  have j711 : J 71 1 = i32 nf := by rw [Jc _ _ (by omega)]; exact h711
  have hm6 : k ≤ 600 := by omega
  obtain ⟨J1, c1, e1, e7, e8, hE, h188⟩ := p188 (d := d + 36) (L := L) (J := J) hS hm6 htb (fun i hi => by rw [Jc _ _ (by omega)]; exact h72 i hi)
  obtain ⟨M, hM⟩ : ∃ M, u2 J1 71 19 (i32 0) = M := ⟨_, rfl⟩
  have Mc : ∀ c j, ¬ (c = 71 ∧ j = 19) → M c j = J1 c j := fun c j h => by
    rw [← hM]
    by_cases e : c = 71
    · subst e; exact u_j (by omega)
    · exact u_c e
  have tM : TM tb k (sk tb k 0) 0 0 M := by rw [← hM]; exact tm_w (by omega) (TE_TM hE)
  have LM : LN M [] := ⟨by rw [← hM]; exact u_s, fun k hk => absurd hk (Nat.not_lt_zero _)⟩
  have M8 : M 71 8 = i32 0 := by rw [Mc _ _ (by omega)]; exact e8
  obtain ⟨K1, f1, q1, h1⟩ := q200 (d := d + 5) hk htb [] _ M L S hS tM LM M8 (Nat.zero_le _)
  have G : ∀ c j, ¬ (c = 71 ∧ ((j ≤ 8 ∧ j ≠ 3) ∨ j = 19)) → ¬ (279 ≤ c ∧ c ≤ 438) → K1 c j = I1 c j := fun c j a b => by
    rw [f1 c j (by omega) b, Mc c j (by omega), c1 c j (by omega), Jc c j (by omega)]
  have G0 : K1 71 0 = i32 0 := by rw [f1 _ _ (by omega) (by omega), Mc _ _ (by omega), c1 _ _ (by omega)]; exact hJ0
  have G1 : K1 71 1 = i32 0 := by rw [f1 _ _ (by omega) (by omega), Mc _ _ (by omega)]; exact e1
  have hi2 : ¬ (i32 150 < i32 k) := by rw [i_lt (by omega) (by omega)]; omega
  have hst : ∀ r, EvD (d + 40) 204 [.ref 71, .int (i32 k)] I1 L S r ↔ Ev (d + 39) 204 54 [.ref 71, .int (i32 k)] [] K1 L S r := fun r => by
    simp (disch := first | assumption | omega) only [in204, k204_0, k204_1, k204_2, k204_5, k204_6, k204_7, k204_8, k204_9, k204_12, k204_15, k204_18, k204_19, k204_22, k204_25, k204_26, k204_29, k204_30, k204_31, k204_32, k204_35, k204_38, k204_39, k204_40, k204_41, k204_42, k204_45, k204_46, k204_47, k204_50, k204_51, k204_55, k204_58, k204_59, k204_62, k204_65, k204_66, k204_69, k204_70, k204_73, k204_76, k204_77, k204_78, k204_79, k204_82, k204_85, k204_86, k204_89, k204_92, k204_93, k204_96, k204_97, k204_98, k204_99, k204_102, k204_103, k204_104, k204_107, k204_110, k204_111, k204_114, k204_115, k204_118, k204_119, k204_122, k204_125, k204_126, c_0, c_1, c_150, hS, t_71, f_71_9, f_71_10, f_71_11, f_71_12, f_71_13, f_71_14, f_71_15, f_71_16, f_71_17, f_71_20, f_71_21, f_71_22, f_71_23, f_71_24, f_71_25, f_71_26, f_71_28, f_71_29, f_71_30, f_71_31, f_71_32, f_71_40, f_71_41, t_72, l_72, t_73, l_73, t_74, l_74, t_75, l_75, t_76, l_76, t_77, l_77, t_84, l_84, t_91, l_91, t_104, l_104, t_117, l_117, t_278, l_278, t_439, l_439, t_446, l_446, t_453, l_453, t_454, l_454, t_455, l_455, t_536, l_536, t_537, l_537, t_538, l_538, t_539, l_539, t_556, l_556, t_560, l_560, t_561, l_561, f_77, t_78, l_78, f_84, t_85, l_85, f_91, t_92, l_92, f_104, t_105, l_105, f_117, t_118, l_118, f_278, t_279, l_279, f_439, t_440, l_440, f_446, t_447, l_447, f_455, t_456, l_456, f_539, t_540, l_540, f_556, t_557, l_557, w_t, w_l, rowX_s, rowX_n, rowX_f, rowX_2, up_s, up_n, Nat.zero_add, n_m1, i_dec, cat_n, cat_i, cat_r, cat_l, i_add, i_tn, i_vi, i_lt, i_eq, i_shl, n_ltT, n_ltF, n_eqT, n_eqF, n_leT, t_and, nb_0, nb_1, b2_0, b2_n, cont_v, cont_n, ex_eq, u_s, u_c, u_j, ↓reduceIte, ite_not, not_true_eq_false, not_false_eq_true, Bool.false_eq_true, Bool.true_eq_false, false_and, true_and, and_false, and_true, or_self, or_false, false_or, or_true, true_or, cont_x, n_leF, c_1, hJ, j711, d170 hS, d169f hS, hi2, h188, hM, h1, b2_0]
  unfold laR
  cases hu : suA tb k 6 [] (sk tb k 0) with
  | inr e =>
    obtain ⟨f, pl⟩ := e
    rw [hu] at q1
    obtain ⟨⟨f0, f9⟩, tK1⟩ := q1
    obtain ⟨K2, f2, t2, h2⟩ := q176f (d := d + 37) (L := L) hS hm6 htb f0 tK1
    have s5 := tm5 t2
    refine ⟨K2, fun c j a b => by rw [f2 c j (by omega)]; exact G c j a b, by rw [f2 _ _ (by omega)]; exact G0, by rw [f2 _ _ (by omega)]; exact G1, ⟨⟨f0, f9⟩, s5, tm6 f0 t2⟩, fun r => (hst r).trans ?_⟩
    simp (disch := first | assumption | omega) only [in204, k204_0, k204_1, k204_2, k204_5, k204_6, k204_7, k204_8, k204_9, k204_12, k204_15, k204_18, k204_19, k204_22, k204_25, k204_26, k204_29, k204_30, k204_31, k204_32, k204_35, k204_38, k204_39, k204_40, k204_41, k204_42, k204_45, k204_46, k204_47, k204_50, k204_51, k204_54, k204_55, k204_58, k204_59, k204_62, k204_65, k204_66, k204_69, k204_70, k204_73, k204_76, k204_77, k204_78, k204_79, k204_82, k204_86, k204_89, k204_92, k204_93, k204_96, k204_97, k204_98, k204_99, k204_102, k204_103, k204_104, k204_107, k204_110, k204_111, k204_114, k204_115, k204_118, k204_119, k204_122, k204_125, k204_126, c_0, c_1, c_150, hS, t_71, f_71_9, f_71_10, f_71_11, f_71_12, f_71_13, f_71_14, f_71_15, f_71_16, f_71_17, f_71_20, f_71_21, f_71_22, f_71_23, f_71_24, f_71_25, f_71_26, f_71_28, f_71_29, f_71_30, f_71_31, f_71_32, f_71_40, f_71_41, t_72, l_72, t_73, l_73, t_74, l_74, t_75, l_75, t_76, l_76, t_77, l_77, t_84, l_84, t_91, l_91, t_104, l_104, t_117, l_117, t_278, l_278, t_439, l_439, t_446, l_446, t_453, l_453, t_454, l_454, t_455, l_455, t_536, l_536, t_537, l_537, t_538, l_538, t_539, l_539, t_556, l_556, t_560, l_560, t_561, l_561, f_77, t_78, l_78, f_84, t_85, l_85, f_91, t_92, l_92, f_104, t_105, l_105, f_117, t_118, l_118, f_278, t_279, l_279, f_439, t_440, l_440, f_446, t_447, l_447, f_455, t_456, l_456, f_539, t_540, l_540, f_556, t_557, l_557, w_t, w_l, rowX_s, rowX_n, rowX_f, rowX_2, up_s, up_n, Nat.zero_add, n_m1, i_dec, cat_n, cat_i, cat_r, cat_l, i_add, i_tn, i_vi, i_lt, i_eq, i_shl, n_ltT, n_ltF, n_eqT, n_eqF, n_leT, t_and, nb_0, nb_1, b2_0, b2_n, cont_v, cont_n, ex_eq, u_s, u_c, u_j, ↓reduceIte, ite_not, not_true_eq_false, not_false_eq_true, Bool.false_eq_true, Bool.true_eq_false, false_and, true_and, and_false, and_true, or_self, or_false, false_or, or_true, true_or, cont_x, n_leF, c_1, h2, s5, f0]
  | inl e =>
    obtain ⟨c, p⟩ := e
    rw [hu] at q1
    obtain ⟨tK1, L1, _⟩ := q1
    have s2 := sk_le (tb := tb) (n := k) (a := 0) (by omega)
    obtain ⟨⟨b1, b2', b3⟩, b4⟩ := suA_B _ _ _ _ hu s2
    have hcl : c.length ≤ 160 := by
      have : ([] : List (Nat × Nat)).length = 0 := rfl
      omega
    obtain ⟨K2, f2, t2, h2⟩ := q176 (d := d + 37) (L := L) hS hm6 htb tK1
    have s5 : K2 71 5 = i32 0 := t2.2.2.2.2
    have a4 : K2 71 4 = i32 p := t2.2.2.2.1
    have a2 : K2 71 2 = i32 k := t2.1.1
    dsimp only
    by_cases hp : p < k
    · rw [if_pos hp]
      obtain ⟨w1f, w1t⟩ := q177 (w := 1) (pl := p) (by omega) t2
      refine ⟨u2 (u2 K2 71 5 (i32 1)) 71 6 (i32 p), fun c j a b => by rw [w1f c j (by omega), f2 c j (by omega)]; exact G c j a b, by rw [w1f _ _ (by omega), f2 _ _ (by omega)]; exact G0, by rw [w1f _ _ (by omega), f2 _ _ (by omega)]; exact G1, ⟨⟨by omega, by omega⟩, tm5 w1t, tm6 (by omega) w1t⟩, fun r => (hst r).trans ?_⟩
      simp (disch := first | assumption | omega) only [in204, k204_0, k204_1, k204_2, k204_5, k204_6, k204_7, k204_8, k204_9, k204_12, k204_15, k204_18, k204_19, k204_22, k204_25, k204_26, k204_29, k204_30, k204_31, k204_32, k204_35, k204_38, k204_39, k204_40, k204_41, k204_42, k204_45, k204_46, k204_47, k204_50, k204_51, k204_54, k204_55, k204_58, k204_59, k204_62, k204_65, k204_66, k204_69, k204_70, k204_73, k204_76, k204_77, k204_78, k204_79, k204_82, k204_86, k204_89, k204_92, k204_93, k204_96, k204_97, k204_98, k204_99, k204_102, k204_103, k204_104, k204_107, k204_110, k204_111, k204_114, k204_115, k204_118, k204_119, k204_122, k204_125, k204_126, c_0, c_1, c_150, hS, t_71, f_71_9, f_71_10, f_71_11, f_71_12, f_71_13, f_71_14, f_71_15, f_71_16, f_71_17, f_71_20, f_71_21, f_71_22, f_71_23, f_71_24, f_71_25, f_71_26, f_71_28, f_71_29, f_71_30, f_71_31, f_71_32, f_71_40, f_71_41, t_72, l_72, t_73, l_73, t_74, l_74, t_75, l_75, t_76, l_76, t_77, l_77, t_84, l_84, t_91, l_91, t_104, l_104, t_117, l_117, t_278, l_278, t_439, l_439, t_446, l_446, t_453, l_453, t_454, l_454, t_455, l_455, t_536, l_536, t_537, l_537, t_538, l_538, t_539, l_539, t_556, l_556, t_560, l_560, t_561, l_561, f_77, t_78, l_78, f_84, t_85, l_85, f_91, t_92, l_92, f_104, t_105, l_105, f_117, t_118, l_118, f_278, t_279, l_279, f_439, t_440, l_440, f_446, t_447, l_447, f_455, t_456, l_456, f_539, t_540, l_540, f_556, t_557, l_557, w_t, w_l, rowX_s, rowX_n, rowX_f, rowX_2, up_s, up_n, Nat.zero_add, n_m1, i_dec, cat_n, cat_i, cat_r, cat_l, i_add, i_tn, i_vi, i_lt, i_eq, i_shl, n_ltT, n_ltF, n_eqT, n_eqF, n_leT, t_and, nb_0, nb_1, b2_0, b2_n, cont_v, cont_n, ex_eq, u_s, u_c, u_j, ↓reduceIte, ite_not, not_true_eq_false, not_false_eq_true, Bool.false_eq_true, Bool.true_eq_false, false_and, true_and, and_false, and_true, or_self, or_false, false_or, or_true, true_or, cont_x, n_leF, c_1, h2, s5, a4, a2, hp, d177t hS s5]
    · rw [if_neg hp]
      refine ⟨K2, fun c j a b => by rw [f2 c j (by omega)]; exact G c j a b, by rw [f2 _ _ (by omega)]; exact G0, by rw [f2 _ _ (by omega)]; exact G1, ⟨s5, LN_71 hcl f2 L1⟩, fun r => (hst r).trans ?_⟩
      simp (disch := first | assumption | omega) only [in204, k204_0, k204_1, k204_2, k204_5, k204_6, k204_7, k204_8, k204_9, k204_12, k204_15, k204_18, k204_19, k204_22, k204_25, k204_26, k204_29, k204_30, k204_31, k204_32, k204_35, k204_38, k204_39, k204_40, k204_41, k204_42, k204_45, k204_46, k204_47, k204_50, k204_51, k204_54, k204_55, k204_58, k204_59, k204_62, k204_65, k204_66, k204_69, k204_70, k204_73, k204_76, k204_77, k204_78, k204_79, k204_82, k204_86, k204_89, k204_92, k204_93, k204_96, k204_97, k204_98, k204_99, k204_102, k204_103, k204_104, k204_107, k204_110, k204_111, k204_114, k204_115, k204_118, k204_119, k204_122, k204_125, k204_126, c_0, c_1, c_150, hS, t_71, f_71_9, f_71_10, f_71_11, f_71_12, f_71_13, f_71_14, f_71_15, f_71_16, f_71_17, f_71_20, f_71_21, f_71_22, f_71_23, f_71_24, f_71_25, f_71_26, f_71_28, f_71_29, f_71_30, f_71_31, f_71_32, f_71_40, f_71_41, t_72, l_72, t_73, l_73, t_74, l_74, t_75, l_75, t_76, l_76, t_77, l_77, t_84, l_84, t_91, l_91, t_104, l_104, t_117, l_117, t_278, l_278, t_439, l_439, t_446, l_446, t_453, l_453, t_454, l_454, t_455, l_455, t_536, l_536, t_537, l_537, t_538, l_538, t_539, l_539, t_556, l_556, t_560, l_560, t_561, l_561, f_77, t_78, l_78, f_84, t_85, l_85, f_91, t_92, l_92, f_104, t_105, l_105, f_117, t_118, l_118, f_278, t_279, l_279, f_439, t_440, l_440, f_446, t_447, l_447, f_455, t_456, l_456, f_539, t_540, l_540, f_556, t_557, l_557, w_t, w_l, rowX_s, rowX_n, rowX_f, rowX_2, up_s, up_n, Nat.zero_add, n_m1, i_dec, cat_n, cat_i, cat_r, cat_l, i_add, i_tn, i_vi, i_lt, i_eq, i_shl, n_ltT, n_ltF, n_eqT, n_eqF, n_leT, t_and, nb_0, nb_1, b2_0, b2_n, cont_v, cont_n, ex_eq, u_s, u_c, u_j, ↓reduceIte, ite_not, not_true_eq_false, not_false_eq_true, Bool.false_eq_true, Bool.true_eq_false, false_and, true_and, and_false, and_true, or_self, or_false, false_or, or_true, true_or, cont_x, n_leF, c_1, h2, s5, a4, a2, hp]
theorem pr_law {n d : Nat} {x : Int32} : Pair n (d + 40) 122 204 [.int x] [(0, 1)] := by
  intro I L S hS hI0
  obtain ⟨nh, nd, db, cr, q, sz, lw, nL, bh, bv, nw, ni, nf, hI⟩ := id hI0
  obtain ⟨⟨⟨hh, hd, mh, md⟩, ⟨h6, h12⟩, hho, hde⟩, ⟨hq, hqm, hlw⟩, hR, hB, hW, hIm, hRf, hTp, hZ⟩ := id hI
  have hT := hR.1.2.2
  have hb : ∀ k, k < nd → I 23 k = i32 (db k) ∧ db k < nh := fun k hk => (hde k hk).1
  have hc : ∀ k, k < nd → I 24 k = i32 (cr k) ∧ cr k < nh := fun k hk => (hde k hk).2.1
  have th0 : ∀ x y j, u2 (u2 I 16 j x) 71 0 y 75 0 = i32 nh := fun x y j => by rw [u_c (by omega), u_c (by omega)]; exact mh
  have td0 : ∀ x y j, u2 (u2 I 16 j x) 71 0 y 75 1 = i32 nd := fun x y j => by rw [u_c (by omega), u_c (by omega)]; exact md
  have tz : ∀ x j, u2 (u2 I 16 j x) 71 0 (i32 0) 71 0 = i32 0 := fun x j => u_s
  obtain ⟨⟨t1, t2, t3⟩, t4⟩ := id hTp
  by_cases g0 : x < i32 0 ∨ i32 (min 150 nf) < x
  · refine pthr (j := 1) (w := 1) (v := .int (i32 0)) hI0 (by omega) (by simp) (fun r => ?_) (fun L S hS r => ?_)
    · simp (disch := first | assumption | omega) only [in122, k122_0, k122_1, k122_2, k122_5, k122_8, k122_9, k122_12, k122_13, k122_16, k122_17, k122_20, k122_21, k122_24, k122_27, k122_28, k122_31, k122_34, k122_37, k122_38, k122_41, k122_44, k122_46, k122_47, k122_48, k122_49, k122_52, k122_53, k122_56, k122_59, k122_60, c_0, c_1, c_10, c_150, hS, t_16, f_16_0, f_16_1, f_16_2, f_16_3, f_16_4, f_16_5, f_16_6, f_16_7, f_16_8, f_16_9, f_16_10, f_16_11, f_16_12, f_16_13, t_17, f_17_0, t_18, l_18, t_19, f_19_0, f_19_1, f_19_2, f_19_3, f_19_4, f_19_5, f_19_6, t_20, l_20, t_21, l_21, t_22, l_22, t_23, l_23, t_24, l_24, t_25, l_25, t_26, l_26, t_27, f_27_0, f_27_1, f_27_2, f_27_3, f_27_4, f_27_5, f_27_6, t_28, l_28, t_29, l_29, t_30, l_30, t_31, l_31, t_32, l_32, t_33, l_33, t_34, l_34, t_35, f_35_0, f_35_1, t_36, l_36, t_37, l_37, t_38, f_38_0, f_38_1, t_39, l_39, t_40, l_40, t_41, f_41_0, t_42, l_42, t_43, f_43_0, t_44, l_44, t_45, f_45_0, f_45_1, f_45_2, f_45_3, t_46, l_46, t_47, l_47, t_48, l_48, t_49, l_49, t_50, l_50, t_51, f_51_0, f_51_1, f_51_2, f_51_3, t_52, l_52, t_53, l_53, t_54, f_54_0, f_54_1, f_54_2, f_54_3, t_55, l_55, t_56, l_56, t_57, f_57_0, f_57_1, f_57_2, f_57_3, t_58, l_58, t_59, l_59, t_60, l_60, t_61, f_61_0, f_61_1, f_61_2, f_61_3, f_61_4, f_61_5, f_61_6, t_62, l_62, t_63, f_63_0, f_63_1, t_64, l_64, t_65, l_65, t_66, f_66_0, f_66_1, t_67, l_67, t_68, l_68, t_69, l_69, t_70, f_70_0, f_70_1, t_1, l_1, t_2, l_2, m_t, m_f0, m_f1, m_f2, m_f3, m_t1, m_l1, m_t2, m_l2, rowX_s, rowX_n, rowX_f, rowX_2, up_s, up_n, Nat.zero_add, n_m1, i_dec, cat_n, cat_i, cat_r, cat_l, i_add, i_tn, i_vi, i_lt, i_eq, i_shl, n_ltT, n_ltF, n_eqT, n_eqF, n_leT, t_and, nb_0, nb_1, b2_0, b2_n, cont_v, cont_n, ex_eq, u_s, u_c, u_j, ↓reduceIte, ite_not, not_true_eq_false, not_false_eq_true, Bool.false_eq_true, Bool.true_eq_false, false_and, true_and, and_false, and_true, or_self, or_false, false_or, or_true, true_or, cont_x, n_leF, c_1, c159 hS (G := 150) (by omega) t1 t3, g0, Nat.reduceAdd, Nat.reduceSub]
    · by_cases hA : x < i32 0 ∨ i32 nf < x
      · simp (disch := first | assumption | omega) only [in204, k204_0, k204_1, k204_2, k204_5, k204_6, k204_7, k204_8, k204_9, k204_12, k204_15, k204_18, k204_19, k204_22, k204_25, k204_26, k204_29, k204_30, k204_31, k204_32, k204_35, k204_38, k204_39, k204_40, k204_41, k204_42, k204_45, k204_46, k204_47, k204_50, k204_51, k204_54, k204_55, k204_58, k204_59, k204_62, k204_65, k204_66, k204_69, k204_70, k204_73, k204_76, k204_77, k204_78, k204_79, k204_82, k204_85, k204_86, k204_89, k204_92, k204_93, k204_96, k204_97, k204_98, k204_99, k204_102, k204_103, k204_104, k204_107, k204_110, k204_111, k204_114, k204_115, k204_118, k204_119, k204_122, k204_125, k204_126, c_0, c_1, c_150, hS, t_71, f_71_9, f_71_10, f_71_11, f_71_12, f_71_13, f_71_14, f_71_15, f_71_16, f_71_17, f_71_20, f_71_21, f_71_22, f_71_23, f_71_24, f_71_25, f_71_26, f_71_28, f_71_29, f_71_30, f_71_31, f_71_32, f_71_40, f_71_41, t_72, l_72, t_73, l_73, t_74, l_74, t_75, l_75, t_76, l_76, t_77, l_77, t_84, l_84, t_91, l_91, t_104, l_104, t_117, l_117, t_278, l_278, t_439, l_439, t_446, l_446, t_453, l_453, t_454, l_454, t_455, l_455, t_536, l_536, t_537, l_537, t_538, l_538, t_539, l_539, t_556, l_556, t_560, l_560, t_561, l_561, f_77, t_78, l_78, f_84, t_85, l_85, f_91, t_92, l_92, f_104, t_105, l_105, f_117, t_118, l_118, f_278, t_279, l_279, f_439, t_440, l_440, f_446, t_447, l_447, f_455, t_456, l_456, f_539, t_540, l_540, f_556, t_557, l_557, w_t, w_l, rowX_s, rowX_n, rowX_f, rowX_2, up_s, up_n, Nat.zero_add, n_m1, i_dec, cat_n, cat_i, cat_r, cat_l, i_add, i_tn, i_vi, i_lt, i_eq, i_shl, n_ltT, n_ltF, n_eqT, n_eqF, n_leT, t_and, nb_0, nb_1, b2_0, b2_n, cont_v, cont_n, ex_eq, u_s, u_c, u_j, ↓reduceIte, ite_not, not_true_eq_false, not_false_eq_true, Bool.false_eq_true, Bool.true_eq_false, false_and, true_and, and_false, and_true, or_self, or_false, false_or, or_true, true_or, cont_x, n_leF, c_1, t2, d170 hS, rngY hA, d169t hS (tz _ _), b2_0, Nat.reduceAdd]
      · have h60 := lt_in (by omega) t3 g0 hA
        simp (disch := first | assumption | omega) only [in204, k204_0, k204_1, k204_2, k204_5, k204_6, k204_7, k204_8, k204_9, k204_12, k204_15, k204_18, k204_19, k204_22, k204_25, k204_26, k204_29, k204_30, k204_31, k204_32, k204_35, k204_38, k204_39, k204_40, k204_41, k204_42, k204_45, k204_46, k204_47, k204_50, k204_51, k204_54, k204_55, k204_58, k204_59, k204_62, k204_65, k204_66, k204_69, k204_70, k204_73, k204_76, k204_77, k204_78, k204_79, k204_82, k204_85, k204_86, k204_89, k204_92, k204_93, k204_96, k204_97, k204_98, k204_99, k204_102, k204_103, k204_104, k204_107, k204_110, k204_111, k204_114, k204_115, k204_118, k204_119, k204_122, k204_125, k204_126, c_0, c_1, c_150, hS, t_71, f_71_9, f_71_10, f_71_11, f_71_12, f_71_13, f_71_14, f_71_15, f_71_16, f_71_17, f_71_20, f_71_21, f_71_22, f_71_23, f_71_24, f_71_25, f_71_26, f_71_28, f_71_29, f_71_30, f_71_31, f_71_32, f_71_40, f_71_41, t_72, l_72, t_73, l_73, t_74, l_74, t_75, l_75, t_76, l_76, t_77, l_77, t_84, l_84, t_91, l_91, t_104, l_104, t_117, l_117, t_278, l_278, t_439, l_439, t_446, l_446, t_453, l_453, t_454, l_454, t_455, l_455, t_536, l_536, t_537, l_537, t_538, l_538, t_539, l_539, t_556, l_556, t_560, l_560, t_561, l_561, f_77, t_78, l_78, f_84, t_85, l_85, f_91, t_92, l_92, f_104, t_105, l_105, f_117, t_118, l_118, f_278, t_279, l_279, f_439, t_440, l_440, f_446, t_447, l_447, f_455, t_456, l_456, f_539, t_540, l_540, f_556, t_557, l_557, w_t, w_l, rowX_s, rowX_n, rowX_f, rowX_2, up_s, up_n, Nat.zero_add, n_m1, i_dec, cat_n, cat_i, cat_r, cat_l, i_add, i_tn, i_vi, i_lt, i_eq, i_shl, n_ltT, n_ltF, n_eqT, n_eqF, n_leT, t_and, nb_0, nb_1, b2_0, b2_n, cont_v, cont_n, ex_eq, u_s, u_c, u_j, ↓reduceIte, ite_not, not_true_eq_false, not_false_eq_true, Bool.false_eq_true, Bool.true_eq_false, false_and, true_and, and_false, and_true, or_self, or_false, false_or, or_true, true_or, cont_x, n_leF, c_1, t2, d170 hS, rngZ hA, h60, d169t hS (tz _ _), b2_0, Nat.reduceAdd]
  obtain ⟨k, -, hk, rfl⟩ := rng (by omega) g0 (by omega)
  have hkn : k ≤ nf := by omega
  have hk150 : k ≤ 150 := by omega
  have hk600 : k ≤ 600 := by omega
  obtain ⟨tb, htb, htt⟩ := tb_ex hTp
  obtain ⟨tc0, op1⟩ := op_TC htt hkn
  have c97' := fun r => c97 (d := d + 37) (I := I) (L := L) (r := r) hS t1 t3 hkn
  obtain ⟨K, fK, qK, hK4⟩ := p9 (d := d + 7) (L := L) hS hk150 htb tc0
  have K171 : K 17 1 = i32 0 := by rw [fK 17 1 (by omega) (by omega) (by omega)]; exact op1
  have Kc : ∀ c j, c ≠ 17 → c ≠ 38 → c ≠ 39 → K c j = I c j := fun c j a b e => by rw [fK c j (Or.inl a) b e]; exact op_c a
  cases hres : laR tb k with
  | inr e =>
    obtain ⟨f, pl⟩ := e
    rw [hres] at qK
    obtain ⟨⟨f0, f9⟩, tK⟩ := qK
    have s5 := tc5 tK
    refine pst (.int (i32 f - i32 10)) K (fun r => ?_) (fun L S hS => ?_)
    · simp (disch := first | assumption | omega) only [in122, k122_0, k122_1, k122_2, k122_5, k122_8, k122_9, k122_12, k122_13, k122_16, k122_17, k122_20, k122_21, k122_24, k122_27, k122_28, k122_31, k122_34, k122_37, k122_38, k122_41, k122_44, k122_46, k122_47, k122_48, k122_49, k122_52, k122_53, k122_56, k122_59, k122_60, c_0, c_1, c_10, c_150, hS, t_16, f_16_0, f_16_1, f_16_2, f_16_3, f_16_4, f_16_5, f_16_6, f_16_7, f_16_8, f_16_9, f_16_10, f_16_11, f_16_12, f_16_13, t_17, f_17_0, t_18, l_18, t_19, f_19_0, f_19_1, f_19_2, f_19_3, f_19_4, f_19_5, f_19_6, t_20, l_20, t_21, l_21, t_22, l_22, t_23, l_23, t_24, l_24, t_25, l_25, t_26, l_26, t_27, f_27_0, f_27_1, f_27_2, f_27_3, f_27_4, f_27_5, f_27_6, t_28, l_28, t_29, l_29, t_30, l_30, t_31, l_31, t_32, l_32, t_33, l_33, t_34, l_34, t_35, f_35_0, f_35_1, t_36, l_36, t_37, l_37, t_38, f_38_0, f_38_1, t_39, l_39, t_40, l_40, t_41, f_41_0, t_42, l_42, t_43, f_43_0, t_44, l_44, t_45, f_45_0, f_45_1, f_45_2, f_45_3, t_46, l_46, t_47, l_47, t_48, l_48, t_49, l_49, t_50, l_50, t_51, f_51_0, f_51_1, f_51_2, f_51_3, t_52, l_52, t_53, l_53, t_54, f_54_0, f_54_1, f_54_2, f_54_3, t_55, l_55, t_56, l_56, t_57, f_57_0, f_57_1, f_57_2, f_57_3, t_58, l_58, t_59, l_59, t_60, l_60, t_61, f_61_0, f_61_1, f_61_2, f_61_3, f_61_4, f_61_5, f_61_6, t_62, l_62, t_63, f_63_0, f_63_1, t_64, l_64, t_65, l_65, t_66, f_66_0, f_66_1, t_67, l_67, t_68, l_68, t_69, l_69, t_70, f_70_0, f_70_1, t_1, l_1, t_2, l_2, m_t, m_f0, m_f1, m_f2, m_f3, m_t1, m_l1, m_t2, m_l2, rowX_s, rowX_n, rowX_f, rowX_2, up_s, up_n, Nat.zero_add, n_m1, i_dec, cat_n, cat_i, cat_r, cat_l, i_add, i_tn, i_vi, i_lt, i_eq, i_shl, n_ltT, n_ltF, n_eqT, n_eqF, n_leT, t_and, nb_0, nb_1, b2_0, b2_n, cont_v, cont_n, ex_eq, u_s, u_c, u_j, ↓reduceIte, ite_not, not_true_eq_false, not_false_eq_true, Bool.false_eq_true, Bool.true_eq_false, false_and, true_and, and_false, and_true, or_self, or_false, false_or, or_true, true_or, cont_x, n_leF, c_1, c159 hS (G := 150) (by omega) t1 t3, g0, c97', hK4, c98 hS f9 s5, f0, s5, b2]
    · obtain ⟨J2, fB, b0, b1, qB, h204⟩ := mlaw (d := d) (L := L) (I1 := K) hS htb t3 hkn hk150 (by rw [Kc _ _ (by omega) (by omega) (by omega)]; exact t2) (fun i hi => by rw [Kc _ _ (by omega) (by omega) (by omega)]; exact (htt i (by omega)).1)
      rw [hres] at qB
      obtain ⟨_, b5, b6⟩ := qB
      refine ⟨u2 J2 71 3 (i32 pl), fun r => (h204 r).trans ?_, inv_txt hI (fun c j hs a b => ?_) ?_ ?_ ?_, ?_, ?_⟩
      · simp (disch := first | assumption | omega) only [in204, k204_0, k204_1, k204_2, k204_5, k204_6, k204_7, k204_8, k204_9, k204_12, k204_15, k204_18, k204_19, k204_22, k204_25, k204_26, k204_29, k204_30, k204_31, k204_32, k204_35, k204_38, k204_39, k204_40, k204_41, k204_42, k204_45, k204_46, k204_47, k204_50, k204_51, k204_54, k204_55, k204_58, k204_59, k204_62, k204_65, k204_66, k204_69, k204_70, k204_73, k204_76, k204_77, k204_78, k204_79, k204_82, k204_85, k204_86, k204_89, k204_92, k204_93, k204_96, k204_97, k204_98, k204_99, k204_102, k204_103, k204_104, k204_107, k204_110, k204_111, k204_114, k204_115, k204_118, k204_119, k204_122, k204_125, k204_126, c_0, c_1, c_150, hS, t_71, f_71_9, f_71_10, f_71_11, f_71_12, f_71_13, f_71_14, f_71_15, f_71_16, f_71_17, f_71_20, f_71_21, f_71_22, f_71_23, f_71_24, f_71_25, f_71_26, f_71_28, f_71_29, f_71_30, f_71_31, f_71_32, f_71_40, f_71_41, t_72, l_72, t_73, l_73, t_74, l_74, t_75, l_75, t_76, l_76, t_77, l_77, t_84, l_84, t_91, l_91, t_104, l_104, t_117, l_117, t_278, l_278, t_439, l_439, t_446, l_446, t_453, l_453, t_454, l_454, t_455, l_455, t_536, l_536, t_537, l_537, t_538, l_538, t_539, l_539, t_556, l_556, t_560, l_560, t_561, l_561, f_77, t_78, l_78, f_84, t_85, l_85, f_91, t_92, l_92, f_104, t_105, l_105, f_117, t_118, l_118, f_278, t_279, l_279, f_439, t_440, l_440, f_446, t_447, l_447, f_455, t_456, l_456, f_539, t_540, l_540, f_556, t_557, l_557, w_t, w_l, rowX_s, rowX_n, rowX_f, rowX_2, up_s, up_n, Nat.zero_add, n_m1, i_dec, cat_n, cat_i, cat_r, cat_l, i_add, i_tn, i_vi, i_lt, i_eq, i_shl, n_ltT, n_ltF, n_eqT, n_eqF, n_leT, t_and, nb_0, nb_1, b2_0, b2_n, cont_v, cont_n, ex_eq, u_s, u_c, u_j, ↓reduceIte, ite_not, not_true_eq_false, not_false_eq_true, Bool.false_eq_true, Bool.true_eq_false, false_and, true_and, and_false, and_true, or_self, or_false, false_or, or_true, true_or, cont_x, n_leF, c_1, b5, f0, d189 hS b5 b6]
      · unfold scr at hs
        have e3 : u2 J2 71 3 (i32 pl) c j = J2 c j := by
          by_cases e : c = 71
          · subst e; exact u_j (by omega)
          · exact u_c e
        rw [e3, fB c j (by omega) (by omega)]
        exact Kc c j a (by omega) (by omega)
      · rw [u_c (by omega), fB _ _ (by omega) (by omega)]; exact K171
      · rw [u_j (by omega)]; exact b1
      · rw [u_s, u_c (by omega), fB _ _ (by omega) (by omega)]; exact tc6 f0 tK
      · rw [u_j (by omega)]; exact b0
      · funext j
        rw [u_c (by omega), fB _ _ (by omega) (by omega)]; exact Kc _ _ (by omega) (by omega) (by omega)
  | inl cc =>
    rw [hres] at qK
    obtain ⟨⟨p1, tt1, tK⟩, ⟨B1, B2⟩, hcl, hwf⟩ := qK
    have s5 := tc5 tK
    obtain ⟨I1, hI1⟩ : ∃ I1, u2 (cpI K 39 0 36 0 150) 35 2 (i32 cc.length) = I1 := ⟨_, rfl⟩
    have i1c : ∀ c j, c ≠ 35 → c ≠ 36 → I1 c j = K c j := fun c j a b => by rw [← hI1, u_c a, cp_n b]
    have i35 : I1 35 2 = i32 cc.length := by rw [← hI1]; exact u_s
    have i36 : ∀ j, j < 150 → I1 36 j = K 39 j := fun j hj => by rw [← hI1, u_c (by omega), cp_in (by omega), Nat.sub_zero, Nat.zero_add]
    have IK : ∀ c j, c ≠ 35 → c ≠ 36 → c ≠ 17 → c ≠ 38 → c ≠ 39 → I1 c j = I c j := fun c j a b e f g => by rw [i1c c j a b]; exact Kc c j e f g
    refine pst (.int (i32 1)) I1 (fun r => ?_) (fun L S hS => ?_)
    · have c8 : ∀ r, EvD (d + 39) 8 [.ref 35, .ref 38] K L S r ↔ r = (.inl none, I1, L, S) := fun r => by
        simp (disch := first | assumption | omega) only [in8, k8_0, k8_1, k8_4, k8_5, k8_6, k8_9, k8_10, k8_13, k8_16, k8_17, k8_18, k8_21, k8_24, c_0, c_150, hS, t_16, f_16_0, f_16_1, f_16_2, f_16_3, f_16_4, f_16_5, f_16_6, f_16_7, f_16_8, f_16_9, f_16_10, f_16_11, f_16_12, f_16_13, t_17, f_17_0, t_18, l_18, t_19, f_19_0, f_19_1, f_19_2, f_19_3, f_19_4, f_19_5, f_19_6, t_20, l_20, t_21, l_21, t_22, l_22, t_23, l_23, t_24, l_24, t_25, l_25, t_26, l_26, t_27, f_27_0, f_27_1, f_27_2, f_27_3, f_27_4, f_27_5, f_27_6, t_28, l_28, t_29, l_29, t_30, l_30, t_31, l_31, t_32, l_32, t_33, l_33, t_34, l_34, t_35, f_35_0, f_35_1, t_36, l_36, t_37, l_37, t_38, f_38_0, f_38_1, t_39, l_39, t_40, l_40, t_41, f_41_0, t_42, l_42, t_43, f_43_0, t_44, l_44, t_45, f_45_0, f_45_1, f_45_2, f_45_3, t_46, l_46, t_47, l_47, t_48, l_48, t_49, l_49, t_50, l_50, t_51, f_51_0, f_51_1, f_51_2, f_51_3, t_52, l_52, t_53, l_53, t_54, f_54_0, f_54_1, f_54_2, f_54_3, t_55, l_55, t_56, l_56, t_57, f_57_0, f_57_1, f_57_2, f_57_3, t_58, l_58, t_59, l_59, t_60, l_60, t_61, f_61_0, f_61_1, f_61_2, f_61_3, f_61_4, f_61_5, f_61_6, t_62, l_62, t_63, f_63_0, f_63_1, t_64, l_64, t_65, l_65, t_66, f_66_0, f_66_1, t_67, l_67, t_68, l_68, t_69, l_69, t_70, f_70_0, f_70_1, t_1, l_1, t_2, l_2, m_t, m_f0, m_f1, m_f2, m_f3, m_t1, m_l1, m_t2, m_l2, rowX_s, rowX_n, rowX_f, rowX_2, up_s, up_n, Nat.zero_add, n_m1, i_dec, cat_n, cat_i, cat_r, cat_l, i_add, i_tn, i_vi, i_lt, i_eq, i_shl, n_ltT, n_ltF, n_eqT, n_eqF, n_leT, t_and, nb_0, nb_1, b2_0, b2_n, cont_v, cont_n, ex_eq, u_s, u_c, u_j, ↓reduceIte, ite_not, not_true_eq_false, not_false_eq_true, Bool.false_eq_true, Bool.true_eq_false, false_and, true_and, and_false, and_true, or_self, or_false, false_or, or_true, true_or, cont_x, n_leF, c_1, cp_n, B1, hI1]
      simp (disch := first | assumption | omega) only [in122, k122_0, k122_1, k122_2, k122_5, k122_8, k122_9, k122_12, k122_13, k122_16, k122_17, k122_20, k122_21, k122_24, k122_27, k122_28, k122_31, k122_34, k122_37, k122_38, k122_41, k122_44, k122_46, k122_47, k122_48, k122_49, k122_52, k122_53, k122_56, k122_59, k122_60, c_0, c_1, c_10, c_150, hS, t_16, f_16_0, f_16_1, f_16_2, f_16_3, f_16_4, f_16_5, f_16_6, f_16_7, f_16_8, f_16_9, f_16_10, f_16_11, f_16_12, f_16_13, t_17, f_17_0, t_18, l_18, t_19, f_19_0, f_19_1, f_19_2, f_19_3, f_19_4, f_19_5, f_19_6, t_20, l_20, t_21, l_21, t_22, l_22, t_23, l_23, t_24, l_24, t_25, l_25, t_26, l_26, t_27, f_27_0, f_27_1, f_27_2, f_27_3, f_27_4, f_27_5, f_27_6, t_28, l_28, t_29, l_29, t_30, l_30, t_31, l_31, t_32, l_32, t_33, l_33, t_34, l_34, t_35, f_35_0, f_35_1, t_36, l_36, t_37, l_37, t_38, f_38_0, f_38_1, t_39, l_39, t_40, l_40, t_41, f_41_0, t_42, l_42, t_43, f_43_0, t_44, l_44, t_45, f_45_0, f_45_1, f_45_2, f_45_3, t_46, l_46, t_47, l_47, t_48, l_48, t_49, l_49, t_50, l_50, t_51, f_51_0, f_51_1, f_51_2, f_51_3, t_52, l_52, t_53, l_53, t_54, f_54_0, f_54_1, f_54_2, f_54_3, t_55, l_55, t_56, l_56, t_57, f_57_0, f_57_1, f_57_2, f_57_3, t_58, l_58, t_59, l_59, t_60, l_60, t_61, f_61_0, f_61_1, f_61_2, f_61_3, f_61_4, f_61_5, f_61_6, t_62, l_62, t_63, f_63_0, f_63_1, t_64, l_64, t_65, l_65, t_66, f_66_0, f_66_1, t_67, l_67, t_68, l_68, t_69, l_69, t_70, f_70_0, f_70_1, t_1, l_1, t_2, l_2, m_t, m_f0, m_f1, m_f2, m_f3, m_t1, m_l1, m_t2, m_l2, rowX_s, rowX_n, rowX_f, rowX_2, up_s, up_n, Nat.zero_add, n_m1, i_dec, cat_n, cat_i, cat_r, cat_l, i_add, i_tn, i_vi, i_lt, i_eq, i_shl, n_ltT, n_ltF, n_eqT, n_eqF, n_leT, t_and, nb_0, nb_1, b2_0, b2_n, cont_v, cont_n, ex_eq, u_s, u_c, u_j, ↓reduceIte, ite_not, not_true_eq_false, not_false_eq_true, Bool.false_eq_true, Bool.true_eq_false, false_and, true_and, and_false, and_true, or_self, or_false, false_or, or_true, true_or, cont_x, n_leF, c_1, c159 hS (G := 150) (by omega) t1 t3, g0, c97', hK4, c98 hS (by omega : 0 < 9) s5, c8, b2]
    · obtain ⟨J2, fB, b0, b1, qB, h204⟩ := mlaw (d := d) (L := L) (I1 := I1) hS htb t3 hkn hk150 (by rw [IK _ _ (by omega) (by omega) (by omega) (by omega) (by omega)]; exact t2) (fun i hi => by rw [IK _ _ (by omega) (by omega) (by omega) (by omega) (by omega)]; exact (htt i (by omega)).1)
      rw [hres] at qB
      obtain ⟨b5, ⟨b19, bM⟩⟩ := qB
      obtain ⟨M, hM⟩ : ∃ M, u2 (u2 J2 71 3 m1) 71 18 (i32 cc.length) = M := ⟨_, rfl⟩
      have Mc : ∀ c j, ¬ (c = 71 ∧ (j = 3 ∨ j = 18)) → M c j = J2 c j := fun c j h => by
        rw [← hM]
        by_cases e : c = 71
        · subst e; rw [u_j (by omega), u_j (by omega)]
        · rw [u_c e, u_c e]
      have M18 : M 71 18 = i32 cc.length := by rw [← hM]; exact u_s
      have M3 : M 71 3 = m1 := by rw [← hM, u_j (by omega), u_s]
      have d195' := fun r => d195 (d := d + 38) (I := M) (L := L) (r := r) (A := 278) (B := 117) (a := 279) (b := 118) (w := 2) (m := cc.length) hS (by omega) (by omega) (by omega) (by omega) (by omega) (by omega) t_278 t_117 (fun i hi => i_vi (by rw [l_278]; omega) (by rw [l_278]; omega)) (fun i hi => i_vi (by rw [l_117]; omega) (by rw [l_117]; omega)) (fun i hi => f_278 (by omega)) (fun i hi => f_117 (by omega)) (fun i hi => t_279 (by omega)) (fun i hi => t_118 (by omega)) (fun i hi => l_279 (by omega)) (fun i hi => l_118 (by omega))
      have Lc : ∀ c j, ¬ (118 ≤ c ∧ c < 278) → laM M 279 118 2 cc.length c j = M c j := fun c j h => lM_n (by omega)
      have Lr : ∀ i j, i < cc.length → j < 2 → laM M 279 118 2 cc.length (118 + i) j = J2 (279 + i) j := fun i j h h2 => by
        rw [lM_in h h2, Mc _ _ (by omega)]
      refine ⟨laM M 279 118 2 cc.length, fun r => (h204 r).trans ?_, ?_, ?_, ?_⟩
      · simp (disch := first | assumption | omega) only [in204, k204_0, k204_1, k204_2, k204_5, k204_6, k204_7, k204_8, k204_9, k204_12, k204_15, k204_18, k204_19, k204_22, k204_25, k204_26, k204_29, k204_30, k204_31, k204_32, k204_35, k204_38, k204_39, k204_40, k204_41, k204_42, k204_45, k204_46, k204_47, k204_50, k204_51, k204_54, k204_55, k204_58, k204_59, k204_62, k204_65, k204_66, k204_69, k204_70, k204_73, k204_76, k204_77, k204_78, k204_79, k204_82, k204_85, k204_86, k204_89, k204_92, k204_93, k204_96, k204_97, k204_98, k204_99, k204_102, k204_103, k204_104, k204_107, k204_110, k204_111, k204_114, k204_115, k204_118, k204_119, k204_122, k204_125, k204_126, c_0, c_1, c_150, hS, t_71, f_71_9, f_71_10, f_71_11, f_71_12, f_71_13, f_71_14, f_71_15, f_71_16, f_71_17, f_71_20, f_71_21, f_71_22, f_71_23, f_71_24, f_71_25, f_71_26, f_71_28, f_71_29, f_71_30, f_71_31, f_71_32, f_71_40, f_71_41, t_72, l_72, t_73, l_73, t_74, l_74, t_75, l_75, t_76, l_76, t_77, l_77, t_84, l_84, t_91, l_91, t_104, l_104, t_117, l_117, t_278, l_278, t_439, l_439, t_446, l_446, t_453, l_453, t_454, l_454, t_455, l_455, t_536, l_536, t_537, l_537, t_538, l_538, t_539, l_539, t_556, l_556, t_560, l_560, t_561, l_561, f_77, t_78, l_78, f_84, t_85, l_85, f_91, t_92, l_92, f_104, t_105, l_105, f_117, t_118, l_118, f_278, t_279, l_279, f_439, t_440, l_440, f_446, t_447, l_447, f_455, t_456, l_456, f_539, t_540, l_540, f_556, t_557, l_557, w_t, w_l, rowX_s, rowX_n, rowX_f, rowX_2, up_s, up_n, Nat.zero_add, n_m1, i_dec, cat_n, cat_i, cat_r, cat_l, i_add, i_tn, i_vi, i_lt, i_eq, i_shl, n_ltT, n_ltF, n_eqT, n_eqF, n_leT, t_and, nb_0, nb_1, b2_0, b2_n, cont_v, cont_n, ex_eq, u_s, u_c, u_j, ↓reduceIte, ite_not, not_true_eq_false, not_false_eq_true, Bool.false_eq_true, Bool.true_eq_false, false_and, true_and, and_false, and_true, or_self, or_false, false_or, or_true, true_or, cont_x, n_leF, c_1, b5, b19, hM, M18, d195']
      · have L18 : laM M 279 118 2 cc.length 71 18 = i32 cc.length := by rw [Lc _ _ (by omega)]; exact M18
        have L3 : laM M 279 118 2 cc.length 71 3 = m1 := by rw [Lc _ _ (by omega)]; exact M3
        have Lo : ∀ c j, ¬ (c = 71 ∧ (j ≤ 8 ∨ j = 18 ∨ j = 19)) → ¬ (118 ≤ c ∧ c ≤ 438) → laM M 279 118 2 cc.length c j = I1 c j := fun c j a b => by
          rw [Lc _ _ (by omega), Mc _ _ (by omega), fB _ _ (by omega) (by omega)]
        have L711 : laM M 279 118 2 cc.length 71 1 = i32 0 := by rw [Lc _ _ (by omega), Mc _ _ (by omega)]; exact b1
        generalize laM M 279 118 2 cc.length = N at *
        have hall : ∀ c j, ¬ (c = 71 ∧ (j ≤ 8 ∨ j = 18 ∨ j = 19)) → ¬ (118 ≤ c ∧ c ≤ 438) → ¬ (c = 17 ∨ c = 35 ∨ c = 36 ∨ c = 38 ∨ c = 39) → N c j = I c j := fun c j a b e => by rw [Lo c j a b]; exact IK c j (by omega) (by omega) (by omega) (by omega) (by omega)
        obtain ⟨iV, iL, iR, iB, iW, iI, iF, iT, iZ⟩ := id hI
        have hqa : isLawC N (qL cc) cc.length := by
          refine ⟨?_, wf_pos hwf, hcl, hwf.1, fun i hi => ?_⟩
          · rw [Lo _ _ (by omega) (by omega)]; exact i35
          · rw [Lo _ _ (by omega) (by omega), i36 _ (by omega)]; exact B2 i hi
        refine ⟨nh, nd, db, cr, qL cc, cc.length, lawQ (qL cc) cc.length, nL, bh, bv, nw, ni, 0, Vl_eq (fun c j h => hall c j (by unfold clVl at h; omega) (by unfold clVl at h; omega) (by unfold clVl at h; omega)) iV, ⟨hqa, Or.inr ⟨qL cc, cc.length, L18, wf_pos hwf, by omega, hwf.1, fun i hi => ⟨?_, ?_⟩, fun _ => rfl⟩, fun _ => rfl⟩, Rw_c iR h6 h12 (fun j _ => hall 52 j (by omega) (by omega) (by omega)) (fun j _ => hall 536 j (by omega) (by omega) (by omega)), Bk_eq (fun c j h => hall c j (by unfold clBk at h; omega) (by unfold clBk at h; omega) (by unfold clBk at h; omega)) iB, Wk_eq (fun c j h => hall c j (by unfold clWk at h; omega) (by unfold clWk at h; omega) (by unfold clWk at h; omega)) iW, Im_eq (fun c j h => hall c j (by unfold clIm at h; omega) (by unfold clIm at h; omega) (by unfold clIm at h; omega)) iI, ?_, ⟨⟨?_, L711, by omega⟩, fun k hk => by omega⟩, Zr_eq (fun c j h => hall c j (by unfold clZr at h; omega) (by unfold clZr at h; omega) (by unfold clZr at h; omega)) iZ⟩
        · rw [Lr i 0 hi (by omega)]; exact (bM i hi).1
        · rw [Lr i 1 hi (by omega)]; exact (bM i hi).2
        · obtain ⟨a1, a2, a3, a4⟩ := iF
          refine ⟨?_, ?_, ?_, ?_⟩
          · rw [hall 16 14 (by omega) (by omega) (by omega), hall 73 0 (by omega) (by omega) (by omega)]; exact a1
          · rw [hall 16 15 (by omega) (by omega) (by omega), hall 73 1 (by omega) (by omega) (by omega)]; exact a2
          · rw [hall 57 6 (by omega) (by omega) (by omega), hall 71 35 (by omega) (by omega) (by omega)]; exact a3
          · rw [L3, Lo _ _ (by omega) (by omega), i1c _ _ (by omega) (by omega)]; exact tc60 tK
        · rw [Lo _ _ (by omega) (by omega), i1c _ _ (by omega) (by omega)]; exact K171
      · rw [Lc _ _ (by omega), Mc _ _ (by omega)]; exact b0
      · funext j
        rw [Lc _ _ (by omega), Mc _ _ (by omega), fB _ _ (by omega) (by omega)]; exact IK _ _ (by omega) (by omega) (by omega) (by omega) (by omega)
