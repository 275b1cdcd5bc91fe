/-! THE LAW'S TEXT: the component's units -/
theorem wix4 {lw : List Nat} : wix lw (wsOf 4) 0 = if kno lw < 9 then i32 (kno lw) else if lw = wLeast then i32 9 else if lw = wMost then i32 10 else m1 := by
  have e : wix lw (wsOf 4) 0 = if lw = wWeight then i32 0 else if lw = wKind then i32 1 else if lw = wAge then i32 2 else if lw = wPride then i32 3 else if lw = wMouths then i32 4 else if lw = wOwed then i32 5 else if lw = wOthers then i32 6 else if lw = wHunger then i32 7 else if lw = wDebt then i32 8 else if lw = wLeast then i32 9 else if lw = wMost then i32 10 else m1 := rfl
  rw [e]
  unfold kno
  by_cases h0 : lw = wWeight
  · simp only [if_pos h0]; rw [if_pos (by omega)]
  simp only [if_neg h0]
  by_cases h1 : lw = wKind
  · simp only [if_pos h1]; rw [if_pos (by omega)]
  simp only [if_neg h1]
  by_cases h2 : lw = wAge
  · simp only [if_pos h2]; rw [if_pos (by omega)]
  simp only [if_neg h2]
  by_cases h3 : lw = wPride
  · simp only [if_pos h3]; rw [if_pos (by omega)]
  simp only [if_neg h3]
  by_cases h4 : lw = wMouths
  · simp only [if_pos h4]; rw [if_pos (by omega)]
  simp only [if_neg h4]
  by_cases h5 : lw = wOwed
  · simp only [if_pos h5]; rw [if_pos (by omega)]
  simp only [if_neg h5]
  by_cases h6 : lw = wOthers
  · simp only [if_pos h6]; rw [if_pos (by omega)]
  simp only [if_neg h6]
  by_cases h7 : lw = wHunger
  · simp only [if_pos h7]; rw [if_pos (by omega)]
  simp only [if_neg h7]
  by_cases h8 : lw = wDebt
  · simp only [if_pos h8]; rw [if_pos (by omega)]
  simp only [if_neg h8]
  rw [if_neg (by omega : ¬ 9 < 9)]
theorem c_91 : (91 : Int32) = i32 91 := rfl
theorem c_93 : (93 : Int32) = i32 93 := rfl
section LawT
variable {tb : Nat → Nat} {m : Nat}
theorem t13_24 {d n f p pl t s : Nat} {x o : Int32} {K : VI} {L : VL} {S : SW} (hS : S.1 = W0 n) (hm : m ≤ 600) (htb : ∀ k, tb k < 256) (hf0 : f ≠ 0) (hf9 : f < 9) (h : TC tb m p f pl t K) (hs : s ≤ 150) (hs2 : K 38 2 = i32 s) : ∃ I', frL K I' ∧ lcQ tb m I' (.inr (f, pl)) ∧ ∀ r, Ev (d + 4) 13 24 [.ref 38, .ref 17, .int x, .int o] [] K L S r ↔ r = (.inl none, I', L, S) := by
  obtain ⟨K1, f1, t1, h1⟩ := p104f (d := d + 2) (L := L) (c := 93) hS hm htb (by omega) hf0 hf9 h
  have k1 : K1 38 2 = i32 s := by rw [f1 _ _ (by omega)]; exact hs2
  refine ⟨emI K1 s x, frL_t (frL_17 f1) em_fr, ⟨⟨hf0, hf9⟩, em_TC t1, em_s k1 hs⟩, fun r => ?_⟩
  simp (disch := first | assumption | omega) only [in13, k13_0, k13_1, k13_3, k13_6, k13_7, k13_8, k13_9, k13_12, k13_13, k13_15, k13_18, k13_19, k13_20, k13_21, k13_24, k13_25, k13_27, k13_30, k13_31, k13_32, k13_35, c_44, hS, t_16, f_16_0, f_16_1, f_16_2, f_16_3, f_16_4, f_16_5, f_16_6, f_16_7, f_16_8, f_16_9, f_16_10, f_16_11, f_16_12, f_16_13, t_17, f_17_0, t_18, l_18, t_19, f_19_0, f_19_1, f_19_2, f_19_3, f_19_4, f_19_5, f_19_6, t_20, l_20, t_21, l_21, t_22, l_22, t_23, l_23, t_24, l_24, t_25, l_25, t_26, l_26, t_27, f_27_0, f_27_1, f_27_2, f_27_3, f_27_4, f_27_5, f_27_6, t_28, l_28, t_29, l_29, t_30, l_30, t_31, l_31, t_32, l_32, t_33, l_33, t_34, l_34, t_35, f_35_0, f_35_1, t_36, l_36, t_37, l_37, t_38, f_38_0, f_38_1, t_39, l_39, t_40, l_40, t_41, f_41_0, t_42, l_42, t_43, f_43_0, t_44, l_44, t_45, f_45_0, f_45_1, f_45_2, f_45_3, t_46, l_46, t_47, l_47, t_48, l_48, t_49, l_49, t_50, l_50, t_51, f_51_0, f_51_1, f_51_2, f_51_3, t_52, l_52, t_53, l_53, t_54, f_54_0, f_54_1, f_54_2, f_54_3, t_55, l_55, t_56, l_56, t_57, f_57_0, f_57_1, f_57_2, f_57_3, t_58, l_58, t_59, l_59, t_60, l_60, t_61, f_61_0, f_61_1, f_61_2, f_61_3, f_61_4, f_61_5, f_61_6, t_62, l_62, t_63, f_63_0, f_63_1, t_64, l_64, t_65, l_65, t_66, f_66_0, f_66_1, t_67, l_67, t_68, l_68, t_69, l_69, t_70, f_70_0, f_70_1, t_1, l_1, t_2, l_2, m_t, m_f0, m_f1, m_f2, m_f3, m_t1, m_l1, m_t2, m_l2, rowX_s, rowX_n, rowX_f, rowX_2, up_s, up_n, Nat.zero_add, n_m1, i_dec, cat_n, cat_i, cat_r, cat_l, i_add, i_tn, i_vi, i_lt, i_eq, i_shl, n_ltT, n_ltF, n_eqT, n_eqF, n_leT, t_and, nb_0, nb_1, b2_0, b2_n, cont_v, cont_n, ex_eq, u_s, u_c, u_j, ↓reduceIte, ite_not, not_true_eq_false, not_false_eq_true, Bool.false_eq_true, Bool.true_eq_false, false_and, true_and, and_false, and_true, or_self, or_false, false_or, or_true, true_or, cont_x, n_leF, c_1, c_91, c_93, h1, c14 hS k1 hs]
theorem t13_12 {d n f p pl t s : Nat} {x o : Int32} {K : VI} {L : VL} {S : SW} (hS : S.1 = W0 n) (hm : m ≤ 600) (htb : ∀ k, tb k < 256) (hf0 : f ≠ 0) (hf9 : f < 9) (h : TC tb m p f pl t K) (hs : s ≤ 150) (hs2 : K 38 2 = i32 s) : ∃ I', frL K I' ∧ lcQ tb m I' (.inr (f, pl)) ∧ ∀ r, Ev (d + 4) 13 12 [.ref 38, .ref 17, .int x, .int o] [] K L S r ↔ r = (.inl none, I', L, S) := by
  obtain ⟨K1, f1, t1, h1⟩ := p104f (d := d + 2) (L := L) (c := 44) hS hm htb (by omega) hf0 hf9 h
  have k1 : K1 38 2 = i32 s := by rw [f1 _ _ (by omega)]; exact hs2
  obtain ⟨I', f2, q2, h2⟩ := t13_24 (d := d) (L := L) (x := x) (o := o) hS hm htb hf0 hf9 t1 hs k1
  refine ⟨I', frL_t (frL_17 f1) f2, q2, fun r => Iff.trans ?_ (h2 r)⟩
  simp (disch := first | assumption | omega) only [in13, k13_0, k13_1, k13_3, k13_6, k13_7, k13_8, k13_9, k13_12, k13_13, k13_15, k13_18, k13_19, k13_20, k13_21, k13_25, k13_27, k13_30, k13_31, k13_32, k13_35, c_44, hS, t_16, f_16_0, f_16_1, f_16_2, f_16_3, f_16_4, f_16_5, f_16_6, f_16_7, f_16_8, f_16_9, f_16_10, f_16_11, f_16_12, f_16_13, t_17, f_17_0, t_18, l_18, t_19, f_19_0, f_19_1, f_19_2, f_19_3, f_19_4, f_19_5, f_19_6, t_20, l_20, t_21, l_21, t_22, l_22, t_23, l_23, t_24, l_24, t_25, l_25, t_26, l_26, t_27, f_27_0, f_27_1, f_27_2, f_27_3, f_27_4, f_27_5, f_27_6, t_28, l_28, t_29, l_29, t_30, l_30, t_31, l_31, t_32, l_32, t_33, l_33, t_34, l_34, t_35, f_35_0, f_35_1, t_36, l_36, t_37, l_37, t_38, f_38_0, f_38_1, t_39, l_39, t_40, l_40, t_41, f_41_0, t_42, l_42, t_43, f_43_0, t_44, l_44, t_45, f_45_0, f_45_1, f_45_2, f_45_3, t_46, l_46, t_47, l_47, t_48, l_48, t_49, l_49, t_50, l_50, t_51, f_51_0, f_51_1, f_51_2, f_51_3, t_52, l_52, t_53, l_53, t_54, f_54_0, f_54_1, f_54_2, f_54_3, t_55, l_55, t_56, l_56, t_57, f_57_0, f_57_1, f_57_2, f_57_3, t_58, l_58, t_59, l_59, t_60, l_60, t_61, f_61_0, f_61_1, f_61_2, f_61_3, f_61_4, f_61_5, f_61_6, t_62, l_62, t_63, f_63_0, f_63_1, t_64, l_64, t_65, l_65, t_66, f_66_0, f_66_1, t_67, l_67, t_68, l_68, t_69, l_69, t_70, f_70_0, f_70_1, t_1, l_1, t_2, l_2, m_t, m_f0, m_f1, m_f2, m_f3, m_t1, m_l1, m_t2, m_l2, rowX_s, rowX_n, rowX_f, rowX_2, up_s, up_n, Nat.zero_add, n_m1, i_dec, cat_n, cat_i, cat_r, cat_l, i_add, i_tn, i_vi, i_lt, i_eq, i_shl, n_ltT, n_ltF, n_eqT, n_eqF, n_leT, t_and, nb_0, nb_1, b2_0, b2_n, cont_v, cont_n, ex_eq, u_s, u_c, u_j, ↓reduceIte, ite_not, not_true_eq_false, not_false_eq_true, Bool.false_eq_true, Bool.true_eq_false, false_and, true_and, and_false, and_true, or_self, or_false, false_or, or_true, true_or, cont_x, n_leF, c_1, c_91, c_93, h1, c10f hS hf0 hf9 t1]
theorem p13 {d n o how p t : Nat} {c : List (Nat × Nat)} {Q : List (Nat × Nat) → Nat → LX} {I : VI} {L : VL} {S : SW} (hS : S.1 = W0 n) (hm : m ≤ 150) (htb : ∀ k, tb k < 256) (hh : how = 7 ∨ how = 8) (hQ : UC n tb m Q (d + 4) 10 o) (hB : UB m Q) (hT : TC tb m p 0 0 t I) (hL : LC I c) (hcp : c.length ≤ p) : ∃ I', frL I I' ∧ lcQ tb m I' (paA tb m Q how c p) ∧ ∀ r, EvD (d + 5) 13 [.ref 38, .ref 17, .int (i32 (how + 2)), .int (i32 o)] I L S r ↔ r = (.inl none, I', L, S) := by
  have hm6 : m ≤ 600 := by omega
  have hpm := tc_le hT
  obtain ⟨K1, f1, t1, h1⟩ := p104 (d := d + 2) (L := L) (c := 91) hS hm6 htb (by omega) hT
  have L1 := LC_17 f1 hL
  unfold paA
  rw [siX]
  by_cases a1 : p < m ∧ tb p = 91
  · rw [if_pos a1] at t1 ⊢
    have s1 := sk_ge (tb := tb) (m := m) (a := p + 1)
    have s2 := sk_le (tb := tb) (n := m) (a := p + 1) (by omega)
    obtain ⟨K2, f2, q2, h2⟩ := hQ c _ _ K1 L S hS t1 L1 (by omega)
    generalize sk tb m (p + 1) = p1 at *
    have F2 := frL_t (frL_17 f1) f2
    cases hu : Q c p1 with
    | inr e =>
      obtain ⟨f, pl⟩ := e
      rw [hu] at q2
      obtain ⟨⟨f0, f9⟩, tK, s, hs, hs2⟩ := q2
      obtain ⟨I', f3, q3, h3⟩ := t13_12 (d := d) (L := L) (x := i32 (how + 2)) (o := i32 o) hS hm6 htb f0 f9 tK hs hs2
      refine ⟨I', frL_t F2 f3, q3, fun r => Iff.trans ?_ (h3 r)⟩
      simp (disch := first | assumption | omega) only [in13, k13_0, k13_1, k13_3, k13_6, k13_7, k13_8, k13_9, k13_13, k13_15, k13_18, k13_19, k13_20, k13_21, k13_24, k13_25, k13_27, k13_30, k13_31, k13_32, k13_35, c_44, hS, t_16, f_16_0, f_16_1, f_16_2, f_16_3, f_16_4, f_16_5, f_16_6, f_16_7, f_16_8, f_16_9, f_16_10, f_16_11, f_16_12, f_16_13, t_17, f_17_0, t_18, l_18, t_19, f_19_0, f_19_1, f_19_2, f_19_3, f_19_4, f_19_5, f_19_6, t_20, l_20, t_21, l_21, t_22, l_22, t_23, l_23, t_24, l_24, t_25, l_25, t_26, l_26, t_27, f_27_0, f_27_1, f_27_2, f_27_3, f_27_4, f_27_5, f_27_6, t_28, l_28, t_29, l_29, t_30, l_30, t_31, l_31, t_32, l_32, t_33, l_33, t_34, l_34, t_35, f_35_0, f_35_1, t_36, l_36, t_37, l_37, t_38, f_38_0, f_38_1, t_39, l_39, t_40, l_40, t_41, f_41_0, t_42, l_42, t_43, f_43_0, t_44, l_44, t_45, f_45_0, f_45_1, f_45_2, f_45_3, t_46, l_46, t_47, l_47, t_48, l_48, t_49, l_49, t_50, l_50, t_51, f_51_0, f_51_1, f_51_2, f_51_3, t_52, l_52, t_53, l_53, t_54, f_54_0, f_54_1, f_54_2, f_54_3, t_55, l_55, t_56, l_56, t_57, f_57_0, f_57_1, f_57_2, f_57_3, t_58, l_58, t_59, l_59, t_60, l_60, t_61, f_61_0, f_61_1, f_61_2, f_61_3, f_61_4, f_61_5, f_61_6, t_62, l_62, t_63, f_63_0, f_63_1, t_64, l_64, t_65, l_65, t_66, f_66_0, f_66_1, t_67, l_67, t_68, l_68, t_69, l_69, t_70, f_70_0, f_70_1, t_1, l_1, t_2, l_2, m_t, m_f0, m_f1, m_f2, m_f3, m_t1, m_l1, m_t2, m_l2, rowX_s, rowX_n, rowX_f, rowX_2, up_s, up_n, Nat.zero_add, n_m1, i_dec, cat_n, cat_i, cat_r, cat_l, i_add, i_tn, i_vi, i_lt, i_eq, i_shl, n_ltT, n_ltF, n_eqT, n_eqF, n_leT, t_and, nb_0, nb_1, b2_0, b2_n, cont_v, cont_n, ex_eq, u_s, u_c, u_j, ↓reduceIte, ite_not, not_true_eq_false, not_false_eq_true, Bool.false_eq_true, Bool.true_eq_false, false_and, true_and, and_false, and_true, or_self, or_false, false_or, or_true, true_or, cont_x, n_leF, c_1, c_91, c_93, h1, h2]
    | inl e =>
      obtain ⟨c2, p2⟩ := e
      rw [hu] at q2
      obtain ⟨⟨u2', tK⟩, L2⟩ := q2
      obtain ⟨⟨b1, b2', b3⟩, _⟩ := hB _ _ _ _ hu s2
      obtain ⟨K3, f3, t3, h3⟩ := p104 (d := d + 2) (L := L) (c := 44) hS hm6 htb (by omega) tK
      have L3 := LC_17 f3 L2
      have F3 := frL_t F2 (frL_17 f3)
      rw [siX]
      by_cases a2 : p2 < m ∧ tb p2 = 44
      · rw [if_pos a2] at t3 ⊢
        have s3 := sk_ge (tb := tb) (m := m) (a := p2 + 1)
        have s4 := sk_le (tb := tb) (n := m) (a := p2 + 1) (by omega)
        obtain ⟨K4, f4, q4, h4⟩ := hQ c2 _ _ K3 L S hS t3 L3 (by omega)
        generalize sk tb m (p2 + 1) = p3 at *
        have F4 := frL_t F3 f4
        cases hv : Q c2 p3 with
        | inr e =>
          obtain ⟨f, pl⟩ := e
          rw [hv] at q4
          obtain ⟨⟨f0, f9⟩, tK4, s, hs, hs2⟩ := q4
          obtain ⟨I', f5, q5, h5⟩ := t13_24 (d := d) (L := L) (x := i32 (how + 2)) (o := i32 o) hS hm6 htb f0 f9 tK4 hs hs2
          refine ⟨I', frL_t F4 f5, q5, fun r => Iff.trans ?_ (h5 r)⟩
          simp (disch := first | assumption | omega) only [in13, k13_0, k13_1, k13_3, k13_6, k13_7, k13_8, k13_9, k13_12, k13_13, k13_15, k13_18, k13_19, k13_20, k13_21, k13_25, k13_27, k13_30, k13_31, k13_32, k13_35, c_44, hS, t_16, f_16_0, f_16_1, f_16_2, f_16_3, f_16_4, f_16_5, f_16_6, f_16_7, f_16_8, f_16_9, f_16_10, f_16_11, f_16_12, f_16_13, t_17, f_17_0, t_18, l_18, t_19, f_19_0, f_19_1, f_19_2, f_19_3, f_19_4, f_19_5, f_19_6, t_20, l_20, t_21, l_21, t_22, l_22, t_23, l_23, t_24, l_24, t_25, l_25, t_26, l_26, t_27, f_27_0, f_27_1, f_27_2, f_27_3, f_27_4, f_27_5, f_27_6, t_28, l_28, t_29, l_29, t_30, l_30, t_31, l_31, t_32, l_32, t_33, l_33, t_34, l_34, t_35, f_35_0, f_35_1, t_36, l_36, t_37, l_37, t_38, f_38_0, f_38_1, t_39, l_39, t_40, l_40, t_41, f_41_0, t_42, l_42, t_43, f_43_0, t_44, l_44, t_45, f_45_0, f_45_1, f_45_2, f_45_3, t_46, l_46, t_47, l_47, t_48, l_48, t_49, l_49, t_50, l_50, t_51, f_51_0, f_51_1, f_51_2, f_51_3, t_52, l_52, t_53, l_53, t_54, f_54_0, f_54_1, f_54_2, f_54_3, t_55, l_55, t_56, l_56, t_57, f_57_0, f_57_1, f_57_2, f_57_3, t_58, l_58, t_59, l_59, t_60, l_60, t_61, f_61_0, f_61_1, f_61_2, f_61_3, f_61_4, f_61_5, f_61_6, t_62, l_62, t_63, f_63_0, f_63_1, t_64, l_64, t_65, l_65, t_66, f_66_0, f_66_1, t_67, l_67, t_68, l_68, t_69, l_69, t_70, f_70_0, f_70_1, t_1, l_1, t_2, l_2, m_t, m_f0, m_f1, m_f2, m_f3, m_t1, m_l1, m_t2, m_l2, rowX_s, rowX_n, rowX_f, rowX_2, up_s, up_n, Nat.zero_add, n_m1, i_dec, cat_n, cat_i, cat_r, cat_l, i_add, i_tn, i_vi, i_lt, i_eq, i_shl, n_ltT, n_ltF, n_eqT, n_eqF, n_leT, t_and, nb_0, nb_1, b2_0, b2_n, cont_v, cont_n, ex_eq, u_s, u_c, u_j, ↓reduceIte, ite_not, not_true_eq_false, not_false_eq_true, Bool.false_eq_true, Bool.true_eq_false, false_and, true_and, and_false, and_true, or_self, or_false, false_or, or_true, true_or, cont_x, n_leF, c_1, c_91, c_93, h1, h2, h3, h4]
        | inl e =>
          obtain ⟨c4, p4⟩ := e
          rw [hv] at q4
          obtain ⟨⟨u4, tK4⟩, L4⟩ := q4
          obtain ⟨⟨b4, b5, b6⟩, _⟩ := hB _ _ _ _ hv s4
          obtain ⟨K5, f5, t5, h5⟩ := p104 (d := d + 2) (L := L) (c := 93) hS hm6 htb (by omega) tK4
          have L5 := LC_17 f5 L4
          have hl5 : c4.length < 150 := by omega
          rw [siX]
          refine ⟨emI K5 c4.length (i32 (how + 2)), frL_t (frL_t F4 (frL_17 f5)) em_fr, ?_, fun r => ?_⟩
          · by_cases a3 : p4 < m ∧ tb p4 = 93
            · rw [if_pos a3] at t5 ⊢
              have ec : cod (how, 0) = how + 2 := by rcases hh with rfl | rfl <;> rfl
              have E := em_LC (e := (how, 0)) L5 hl5
              rw [ec] at E
              exact ⟨⟨_, em_TC t5⟩, E⟩
            · rw [if_neg a3] at t5 ⊢
              exact ⟨⟨by omega, by omega⟩, em_TC t5, em_s L5.1 (by omega)⟩
          · simp (disch := first | assumption | omega) only [in13, k13_0, k13_1, k13_3, k13_6, k13_7, k13_8, k13_9, k13_12, k13_13, k13_15, k13_18, k13_19, k13_20, k13_21, k13_24, k13_25, k13_27, k13_30, k13_31, k13_32, k13_35, c_44, hS, t_16, f_16_0, f_16_1, f_16_2, f_16_3, f_16_4, f_16_5, f_16_6, f_16_7, f_16_8, f_16_9, f_16_10, f_16_11, f_16_12, f_16_13, t_17, f_17_0, t_18, l_18, t_19, f_19_0, f_19_1, f_19_2, f_19_3, f_19_4, f_19_5, f_19_6, t_20, l_20, t_21, l_21, t_22, l_22, t_23, l_23, t_24, l_24, t_25, l_25, t_26, l_26, t_27, f_27_0, f_27_1, f_27_2, f_27_3, f_27_4, f_27_5, f_27_6, t_28, l_28, t_29, l_29, t_30, l_30, t_31, l_31, t_32, l_32, t_33, l_33, t_34, l_34, t_35, f_35_0, f_35_1, t_36, l_36, t_37, l_37, t_38, f_38_0, f_38_1, t_39, l_39, t_40, l_40, t_41, f_41_0, t_42, l_42, t_43, f_43_0, t_44, l_44, t_45, f_45_0, f_45_1, f_45_2, f_45_3, t_46, l_46, t_47, l_47, t_48, l_48, t_49, l_49, t_50, l_50, t_51, f_51_0, f_51_1, f_51_2, f_51_3, t_52, l_52, t_53, l_53, t_54, f_54_0, f_54_1, f_54_2, f_54_3, t_55, l_55, t_56, l_56, t_57, f_57_0, f_57_1, f_57_2, f_57_3, t_58, l_58, t_59, l_59, t_60, l_60, t_61, f_61_0, f_61_1, f_61_2, f_61_3, f_61_4, f_61_5, f_61_6, t_62, l_62, t_63, f_63_0, f_63_1, t_64, l_64, t_65, l_65, t_66, f_66_0, f_66_1, t_67, l_67, t_68, l_68, t_69, l_69, t_70, f_70_0, f_70_1, t_1, l_1, t_2, l_2, m_t, m_f0, m_f1, m_f2, m_f3, m_t1, m_l1, m_t2, m_l2, rowX_s, rowX_n, rowX_f, rowX_2, up_s, up_n, Nat.zero_add, n_m1, i_dec, cat_n, cat_i, cat_r, cat_l, i_add, i_tn, i_vi, i_lt, i_eq, i_shl, n_ltT, n_ltF, n_eqT, n_eqF, n_leT, t_and, nb_0, nb_1, b2_0, b2_n, cont_v, cont_n, ex_eq, u_s, u_c, u_j, ↓reduceIte, ite_not, not_true_eq_false, not_false_eq_true, Bool.false_eq_true, Bool.true_eq_false, false_and, true_and, and_false, and_true, or_self, or_false, false_or, or_true, true_or, cont_x, n_leF, c_1, c_91, c_93, h1, h2, h3, h4, h5, c14 hS L5.1 (by omega : c4.length ≤ 150)]
      · rw [if_neg a2] at t3 ⊢
        obtain ⟨I', f4, q4, h4⟩ := t13_24 (d := d) (L := L) (x := i32 (how + 2)) (o := i32 o) hS hm6 htb (by omega : 1 ≠ 0) (by omega) t3 (by omega : c2.length ≤ 150) L3.1
        refine ⟨I', frL_t F3 f4, q4, fun r => Iff.trans ?_ (h4 r)⟩
        simp (disch := first | assumption | omega) only [in13, k13_0, k13_1, k13_3, k13_6, k13_7, k13_8, k13_9, k13_12, k13_13, k13_15, k13_18, k13_19, k13_20, k13_21, k13_25, k13_27, k13_30, k13_31, k13_32, k13_35, c_44, hS, t_16, f_16_0, f_16_1, f_16_2, f_16_3, f_16_4, f_16_5, f_16_6, f_16_7, f_16_8, f_16_9, f_16_10, f_16_11, f_16_12, f_16_13, t_17, f_17_0, t_18, l_18, t_19, f_19_0, f_19_1, f_19_2, f_19_3, f_19_4, f_19_5, f_19_6, t_20, l_20, t_21, l_21, t_22, l_22, t_23, l_23, t_24, l_24, t_25, l_25, t_26, l_26, t_27, f_27_0, f_27_1, f_27_2, f_27_3, f_27_4, f_27_5, f_27_6, t_28, l_28, t_29, l_29, t_30, l_30, t_31, l_31, t_32, l_32, t_33, l_33, t_34, l_34, t_35, f_35_0, f_35_1, t_36, l_36, t_37, l_37, t_38, f_38_0, f_38_1, t_39, l_39, t_40, l_40, t_41, f_41_0, t_42, l_42, t_43, f_43_0, t_44, l_44, t_45, f_45_0, f_45_1, f_45_2, f_45_3, t_46, l_46, t_47, l_47, t_48, l_48, t_49, l_49, t_50, l_50, t_51, f_51_0, f_51_1, f_51_2, f_51_3, t_52, l_52, t_53, l_53, t_54, f_54_0, f_54_1, f_54_2, f_54_3, t_55, l_55, t_56, l_56, t_57, f_57_0, f_57_1, f_57_2, f_57_3, t_58, l_58, t_59, l_59, t_60, l_60, t_61, f_61_0, f_61_1, f_61_2, f_61_3, f_61_4, f_61_5, f_61_6, t_62, l_62, t_63, f_63_0, f_63_1, t_64, l_64, t_65, l_65, t_66, f_66_0, f_66_1, t_67, l_67, t_68, l_68, t_69, l_69, t_70, f_70_0, f_70_1, t_1, l_1, t_2, l_2, m_t, m_f0, m_f1, m_f2, m_f3, m_t1, m_l1, m_t2, m_l2, rowX_s, rowX_n, rowX_f, rowX_2, up_s, up_n, Nat.zero_add, n_m1, i_dec, cat_n, cat_i, cat_r, cat_l, i_add, i_tn, i_vi, i_lt, i_eq, i_shl, n_ltT, n_ltF, n_eqT, n_eqF, n_leT, t_and, nb_0, nb_1, b2_0, b2_n, cont_v, cont_n, ex_eq, u_s, u_c, u_j, ↓reduceIte, ite_not, not_true_eq_false, not_false_eq_true, Bool.false_eq_true, Bool.true_eq_false, false_and, true_and, and_false, and_true, or_self, or_false, false_or, or_true, true_or, cont_x, n_leF, c_1, c_91, c_93, h1, h2, h3, c10f hS (by omega : 1 ≠ 0) (by omega) t3]
  · rw [if_neg a1] at t1 ⊢
    obtain ⟨I', f2, q2, h2⟩ := t13_12 (d := d) (L := L) (x := i32 (how + 2)) (o := i32 o) hS hm6 htb (by omega : 1 ≠ 0) (by omega) t1 (by omega : c.length ≤ 150) L1.1
    refine ⟨I', frL_t (frL_17 f1) f2, q2, fun r => Iff.trans ?_ (h2 r)⟩
    simp (disch := first | assumption | omega) only [in13, k13_0, k13_1, k13_3, k13_6, k13_7, k13_8, k13_9, k13_13, k13_15, k13_18, k13_19, k13_20, k13_21, k13_24, k13_25, k13_27, k13_30, k13_31, k13_32, k13_35, c_44, hS, t_16, f_16_0, f_16_1, f_16_2, f_16_3, f_16_4, f_16_5, f_16_6, f_16_7, f_16_8, f_16_9, f_16_10, f_16_11, f_16_12, f_16_13, t_17, f_17_0, t_18, l_18, t_19, f_19_0, f_19_1, f_19_2, f_19_3, f_19_4, f_19_5, f_19_6, t_20, l_20, t_21, l_21, t_22, l_22, t_23, l_23, t_24, l_24, t_25, l_25, t_26, l_26, t_27, f_27_0, f_27_1, f_27_2, f_27_3, f_27_4, f_27_5, f_27_6, t_28, l_28, t_29, l_29, t_30, l_30, t_31, l_31, t_32, l_32, t_33, l_33, t_34, l_34, t_35, f_35_0, f_35_1, t_36, l_36, t_37, l_37, t_38, f_38_0, f_38_1, t_39, l_39, t_40, l_40, t_41, f_41_0, t_42, l_42, t_43, f_43_0, t_44, l_44, t_45, f_45_0, f_45_1, f_45_2, f_45_3, t_46, l_46, t_47, l_47, t_48, l_48, t_49, l_49, t_50, l_50, t_51, f_51_0, f_51_1, f_51_2, f_51_3, t_52, l_52, t_53, l_53, t_54, f_54_0, f_54_1, f_54_2, f_54_3, t_55, l_55, t_56, l_56, t_57, f_57_0, f_57_1, f_57_2, f_57_3, t_58, l_58, t_59, l_59, t_60, l_60, t_61, f_61_0, f_61_1, f_61_2, f_61_3, f_61_4, f_61_5, f_61_6, t_62, l_62, t_63, f_63_0, f_63_1, t_64, l_64, t_65, l_65, t_66, f_66_0, f_66_1, t_67, l_67, t_68, l_68, t_69, l_69, t_70, f_70_0, f_70_1, t_1, l_1, t_2, l_2, m_t, m_f0, m_f1, m_f2, m_f3, m_t1, m_l1, m_t2, m_l2, rowX_s, rowX_n, rowX_f, rowX_2, up_s, up_n, Nat.zero_add, n_m1, i_dec, cat_n, cat_i, cat_r, cat_l, i_add, i_tn, i_vi, i_lt, i_eq, i_shl, n_ltT, n_ltF, n_eqT, n_eqF, n_leT, t_and, nb_0, nb_1, b2_0, b2_n, cont_v, cont_n, ex_eq, u_s, u_c, u_j, ↓reduceIte, ite_not, not_true_eq_false, not_false_eq_true, Bool.false_eq_true, Bool.true_eq_false, false_and, true_and, and_false, and_true, or_self, or_false, false_or, or_true, true_or, cont_x, n_leF, c_1, c_91, c_93, h1, c10f hS (by omega : 1 ≠ 0) (by omega) t1]
/-- a number -/
theorem p12n {d n p t : Nat} {c : List (Nat × Nat)} {o : Int32} {I : VI} {L : VL} {S : SW} (hS : S.1 = W0 n) (hm : m ≤ 150) (htb : ∀ k, tb k < 256) (hT : TC tb m p 0 0 t I) (hL : LC I c) (hcp : c.length ≤ p) (hd : p < m ∧ isDg tb p = true) : ∃ I', frL I I' ∧ lcQ tb m I' (if numF tb m (i32 0) (i32 999) p = 0 then .inl (c ++ [(0, numV tb m p)], sk tb m (dgE tb m p)) else .inr (numF tb m (i32 0) (i32 999) p, p)) ∧ ∀ r, EvD (d + 5) 12 [.ref 38, .ref 17, .int o] I L S r ↔ r = (.inl none, I', L, S) := by
  have hm6 : m ≤ 600 := by omega
  obtain ⟨K0, f0, t0, h0⟩ := p102 (d := d + 2) (L := L) hS hm6 htb hT
  obtain ⟨K1, f1, t1, h1⟩ := p105 (d := d + 1) (L := L) (lo := i32 0) (hi := i32 999) hS hm6 htb t0
  have f01 := fr17_trans f0 f1
  have L1 := LC_17 f01 hL
  refine ⟨emI K1 c.length (i32 (16 + numV tb m p)), frL_t (frL_17 f01) em_fr, ?_, fun r => ?_⟩
  · by_cases hn : numF tb m (i32 0) (i32 999) p = 0
    · rw [if_pos hn] at t1 ⊢
      have E := em_LC (e := (0, numV tb m p)) L1 (by omega)
      exact ⟨⟨_, em_TC t1⟩, E⟩
    · rw [if_neg hn] at t1 ⊢
      exact ⟨⟨hn, numF_lt⟩, em_TC t1, em_s L1.1 (by omega)⟩
  · simp (disch := first | assumption | omega) only [in12, k12_0, k12_1, k12_4, k12_7, k12_8, k12_9, k12_12, k12_15, k12_16, k12_18, k12_19, k12_20, k12_23, k12_26, k12_27, k12_30, k12_31, k12_32, k12_34, k12_37, k12_38, k12_39, k12_42, k12_43, k12_46, k12_47, k12_49, k12_52, k12_54, k12_56, k12_59, k12_61, k12_63, k12_66, k12_67, k12_69, k12_72, k12_73, k12_74, k12_76, k12_79, k12_80, k12_81, k12_84, k12_85, k12_88, k12_91, k12_92, k12_93, k12_96, k12_97, k12_98, k12_99, k12_100, k12_101, k12_104, k12_105, k12_107, k12_110, k12_113, k12_114, k12_115, k12_117, k12_118, k12_119, k12_120, k12_123, c_0, c_1, c_3, c_6, c_9, c_16, c_40, c_41, c_999, hS, t_16, f_16_0, f_16_1, f_16_2, f_16_3, f_16_4, f_16_5, f_16_6, f_16_7, f_16_8, f_16_9, f_16_10, f_16_11, f_16_12, f_16_13, t_17, f_17_0, t_18, l_18, t_19, f_19_0, f_19_1, f_19_2, f_19_3, f_19_4, f_19_5, f_19_6, t_20, l_20, t_21, l_21, t_22, l_22, t_23, l_23, t_24, l_24, t_25, l_25, t_26, l_26, t_27, f_27_0, f_27_1, f_27_2, f_27_3, f_27_4, f_27_5, f_27_6, t_28, l_28, t_29, l_29, t_30, l_30, t_31, l_31, t_32, l_32, t_33, l_33, t_34, l_34, t_35, f_35_0, f_35_1, t_36, l_36, t_37, l_37, t_38, f_38_0, f_38_1, t_39, l_39, t_40, l_40, t_41, f_41_0, t_42, l_42, t_43, f_43_0, t_44, l_44, t_45, f_45_0, f_45_1, f_45_2, f_45_3, t_46, l_46, t_47, l_47, t_48, l_48, t_49, l_49, t_50, l_50, t_51, f_51_0, f_51_1, f_51_2, f_51_3, t_52, l_52, t_53, l_53, t_54, f_54_0, f_54_1, f_54_2, f_54_3, t_55, l_55, t_56, l_56, t_57, f_57_0, f_57_1, f_57_2, f_57_3, t_58, l_58, t_59, l_59, t_60, l_60, t_61, f_61_0, f_61_1, f_61_2, f_61_3, f_61_4, f_61_5, f_61_6, t_62, l_62, t_63, f_63_0, f_63_1, t_64, l_64, t_65, l_65, t_66, f_66_0, f_66_1, t_67, l_67, t_68, l_68, t_69, l_69, t_70, f_70_0, f_70_1, t_1, l_1, t_2, l_2, m_t, m_f0, m_f1, m_f2, m_f3, m_t1, m_l1, m_t2, m_l2, rowX_s, rowX_n, rowX_f, rowX_2, up_s, up_n, Nat.zero_add, n_m1, i_dec, cat_n, cat_i, cat_r, cat_l, i_add, i_tn, i_vi, i_lt, i_eq, i_shl, n_ltT, n_ltF, n_eqT, n_eqF, n_leT, t_and, nb_0, nb_1, b2_0, b2_n, cont_v, cont_n, ex_eq, u_s, u_c, u_j, ↓reduceIte, ite_not, not_true_eq_false, not_false_eq_true, Bool.false_eq_true, Bool.true_eq_false, false_and, true_and, and_false, and_true, or_self, or_false, false_or, or_true, true_or, cont_x, n_leF, c_1, c98 hS (by omega : 0 < 9) (tc5 hT), h0, hd.1, hd.2, h1, c14 hS L1.1 (by omega : c.length ≤ 150), b2]
/-- a word of its own -/
theorem p12k {d n p t : Nat} {c : List (Nat × Nat)} {o : Int32} {I : VI} {L : VL} {S : SW} (hS : S.1 = W0 n) (hm : m ≤ 150) (htb : ∀ k, tb k < 256) (hT : TC tb m p 0 0 t I) (hL : LC I c) (hcp : c.length ≤ p) (hd : ¬ (p < m ∧ isDg tb p = true)) (hb : ¬ (p < m ∧ tb p = 40)) (hk : kno (lwd tb m p) < 9) : ∃ I', frL I I' ∧ lcQ tb m I' (.inl (c ++ [(1, kno (lwd tb m p))], sk tb m (ltE tb m p))) ∧ ∀ r, EvD (d + 5) 12 [.ref 38, .ref 17, .int o] I L S r ↔ r = (.inl none, I', L, S) := by
  have hm6 : m ≤ 600 := by omega
  have hpm := tc_le hT
  obtain ⟨K0, f0, t0, h0⟩ := p102 (d := d + 2) (L := L) hS hm6 htb hT
  simp only [b2_f hd] at h0
  obtain ⟨K1, f1, t1, h1⟩ := p103 (d := d + 2) (L := L) (c := 40) hS hm6 htb (by omega) t0
  rw [if_neg hb] at t1
  simp only [b2_f hb] at h1
  obtain ⟨K2, f2, t2, h2⟩ := p106 (d := d + 1) (L := L) (k := 4) hS hm6 htb (by omega) (by omega) t1
  rw [wix4, if_pos hk] at t2 h2
  rw [if_neg (mm_ne (by omega))] at t2
  have f02 := fr17_trans f0 (fr17_trans f1 f2)
  have L2 := LC_17 f02 hL
  have hg := kno_gt (kno_ne hk)
  have hl : ltE tb m p ≤ m := adv_le p hpm
  have E := em_LC (e := (1, kno (lwd tb m p))) L2 (by omega)
  have ec : cod (1, kno (lwd tb m p)) = kno (lwd tb m p) := rfl
  rw [ec] at E
  refine ⟨emI K2 c.length (i32 (kno (lwd tb m p))), frL_t (frL_17 f02) em_fr, ⟨⟨_, em_TC t2⟩, E⟩, fun r => ?_⟩
  simp (disch := first | assumption | omega) only [in12, k12_0, k12_1, k12_4, k12_7, k12_8, k12_9, k12_12, k12_15, k12_16, k12_18, k12_19, k12_20, k12_23, k12_26, k12_27, k12_30, k12_31, k12_32, k12_34, k12_37, k12_38, k12_39, k12_42, k12_43, k12_46, k12_47, k12_49, k12_52, k12_54, k12_56, k12_59, k12_61, k12_63, k12_66, k12_67, k12_69, k12_72, k12_73, k12_74, k12_76, k12_79, k12_80, k12_81, k12_84, k12_85, k12_88, k12_91, k12_92, k12_93, k12_96, k12_97, k12_98, k12_99, k12_100, k12_101, k12_104, k12_105, k12_107, k12_110, k12_113, k12_114, k12_115, k12_117, k12_118, k12_119, k12_120, k12_123, c_0, c_1, c_3, c_6, c_9, c_16, c_40, c_41, c_999, hS, t_16, f_16_0, f_16_1, f_16_2, f_16_3, f_16_4, f_16_5, f_16_6, f_16_7, f_16_8, f_16_9, f_16_10, f_16_11, f_16_12, f_16_13, t_17, f_17_0, t_18, l_18, t_19, f_19_0, f_19_1, f_19_2, f_19_3, f_19_4, f_19_5, f_19_6, t_20, l_20, t_21, l_21, t_22, l_22, t_23, l_23, t_24, l_24, t_25, l_25, t_26, l_26, t_27, f_27_0, f_27_1, f_27_2, f_27_3, f_27_4, f_27_5, f_27_6, t_28, l_28, t_29, l_29, t_30, l_30, t_31, l_31, t_32, l_32, t_33, l_33, t_34, l_34, t_35, f_35_0, f_35_1, t_36, l_36, t_37, l_37, t_38, f_38_0, f_38_1, t_39, l_39, t_40, l_40, t_41, f_41_0, t_42, l_42, t_43, f_43_0, t_44, l_44, t_45, f_45_0, f_45_1, f_45_2, f_45_3, t_46, l_46, t_47, l_47, t_48, l_48, t_49, l_49, t_50, l_50, t_51, f_51_0, f_51_1, f_51_2, f_51_3, t_52, l_52, t_53, l_53, t_54, f_54_0, f_54_1, f_54_2, f_54_3, t_55, l_55, t_56, l_56, t_57, f_57_0, f_57_1, f_57_2, f_57_3, t_58, l_58, t_59, l_59, t_60, l_60, t_61, f_61_0, f_61_1, f_61_2, f_61_3, f_61_4, f_61_5, f_61_6, t_62, l_62, t_63, f_63_0, f_63_1, t_64, l_64, t_65, l_65, t_66, f_66_0, f_66_1, t_67, l_67, t_68, l_68, t_69, l_69, t_70, f_70_0, f_70_1, t_1, l_1, t_2, l_2, m_t, m_f0, m_f1, m_f2, m_f3, m_t1, m_l1, m_t2, m_l2, rowX_s, rowX_n, rowX_f, rowX_2, up_s, up_n, Nat.zero_add, n_m1, i_dec, cat_n, cat_i, cat_r, cat_l, i_add, i_tn, i_vi, i_lt, i_eq, i_shl, n_ltT, n_ltF, n_eqT, n_eqF, n_leT, t_and, nb_0, nb_1, b2_0, b2_n, cont_v, cont_n, ex_eq, u_s, u_c, u_j, ↓reduceIte, ite_not, not_true_eq_false, not_false_eq_true, Bool.false_eq_true, Bool.true_eq_false, false_and, true_and, and_false, and_true, or_self, or_false, false_or, or_true, true_or, cont_x, n_leF, c_1, c98 hS (by omega : 0 < 9) (tc5 hT), h0, h1, h2, hk, c14 hS L2.1 (by omega : c.length ≤ 150), b2]
/-- nothing that can stand -/
theorem p12e {d n p t o : Nat} {c : List (Nat × Nat)} {I : VI} {L : VL} {S : SW} (hS : S.1 = W0 n) (hm : m ≤ 150) (htb : ∀ k, tb k < 256) (ho : o < 9) (hT : TC tb m p 0 0 t I) (hL : LC I c) (hcp : c.length ≤ p) (hd : ¬ (p < m ∧ isDg tb p = true)) (hb : ¬ (p < m ∧ tb p = 40)) (hk : ¬ kno (lwd tb m p) < 9) (h7 : ¬ lwd tb m p = wLeast) (h8 : ¬ lwd tb m p = wMost) : ∃ I', frL I I' ∧ lcQ tb m I' (.inr (1, p)) ∧ ∀ r, EvD (d + 5) 12 [.ref 38, .ref 17, .int (i32 o)] I L S r ↔ r = (.inl none, I', L, S) := by
  have hm6 : m ≤ 600 := by omega
  have hpm := tc_le hT
  obtain ⟨K0, f0, t0, h0⟩ := p102 (d := d + 2) (L := L) hS hm6 htb hT
  simp only [b2_f hd] at h0
  obtain ⟨K1, f1, t1, h1⟩ := p103 (d := d + 2) (L := L) (c := 40) hS hm6 htb (by omega) t0
  rw [if_neg hb] at t1
  simp only [b2_f hb] at h1
  obtain ⟨K2, f2, t2, h2⟩ := p106 (d := d + 1) (L := L) (k := 4) hS hm6 htb (by omega) (by omega) t1
  rw [wix4, if_neg hk, if_neg h7, if_neg h8] at t2 h2
  rw [if_pos rfl] at t2
  have f02 := fr17_trans f0 (fr17_trans f1 f2)
  have L2 := LC_17 f02 hL
  have hm0 : m1 < i32 0 := m1_lt (by omega)
  refine ⟨K2, frL_17 f02, ⟨⟨by omega, by omega⟩, t2, ⟨c.length, by omega, L2.1⟩⟩, fun r => ?_⟩
  by_cases h6 : o < 6
  · simp (disch := first | assumption | omega) only [in12, k12_0, k12_1, k12_4, k12_7, k12_8, k12_9, k12_12, k12_15, k12_16, k12_18, k12_19, k12_20, k12_23, k12_26, k12_27, k12_30, k12_31, k12_32, k12_34, k12_37, k12_38, k12_39, k12_42, k12_43, k12_46, k12_47, k12_49, k12_52, k12_54, k12_56, k12_59, k12_61, k12_63, k12_66, k12_67, k12_69, k12_72, k12_73, k12_74, k12_76, k12_79, k12_80, k12_81, k12_84, k12_85, k12_88, k12_91, k12_92, k12_93, k12_96, k12_97, k12_98, k12_99, k12_100, k12_101, k12_104, k12_105, k12_107, k12_110, k12_113, k12_114, k12_115, k12_117, k12_118, k12_119, k12_120, k12_123, c_0, c_1, c_3, c_6, c_9, c_16, c_40, c_41, c_999, hS, t_16, f_16_0, f_16_1, f_16_2, f_16_3, f_16_4, f_16_5, f_16_6, f_16_7, f_16_8, f_16_9, f_16_10, f_16_11, f_16_12, f_16_13, t_17, f_17_0, t_18, l_18, t_19, f_19_0, f_19_1, f_19_2, f_19_3, f_19_4, f_19_5, f_19_6, t_20, l_20, t_21, l_21, t_22, l_22, t_23, l_23, t_24, l_24, t_25, l_25, t_26, l_26, t_27, f_27_0, f_27_1, f_27_2, f_27_3, f_27_4, f_27_5, f_27_6, t_28, l_28, t_29, l_29, t_30, l_30, t_31, l_31, t_32, l_32, t_33, l_33, t_34, l_34, t_35, f_35_0, f_35_1, t_36, l_36, t_37, l_37, t_38, f_38_0, f_38_1, t_39, l_39, t_40, l_40, t_41, f_41_0, t_42, l_42, t_43, f_43_0, t_44, l_44, t_45, f_45_0, f_45_1, f_45_2, f_45_3, t_46, l_46, t_47, l_47, t_48, l_48, t_49, l_49, t_50, l_50, t_51, f_51_0, f_51_1, f_51_2, f_51_3, t_52, l_52, t_53, l_53, t_54, f_54_0, f_54_1, f_54_2, f_54_3, t_55, l_55, t_56, l_56, t_57, f_57_0, f_57_1, f_57_2, f_57_3, t_58, l_58, t_59, l_59, t_60, l_60, t_61, f_61_0, f_61_1, f_61_2, f_61_3, f_61_4, f_61_5, f_61_6, t_62, l_62, t_63, f_63_0, f_63_1, t_64, l_64, t_65, l_65, t_66, f_66_0, f_66_1, t_67, l_67, t_68, l_68, t_69, l_69, t_70, f_70_0, f_70_1, t_1, l_1, t_2, l_2, m_t, m_f0, m_f1, m_f2, m_f3, m_t1, m_l1, m_t2, m_l2, rowX_s, rowX_n, rowX_f, rowX_2, up_s, up_n, Nat.zero_add, n_m1, i_dec, cat_n, cat_i, cat_r, cat_l, i_add, i_tn, i_vi, i_lt, i_eq, i_shl, n_ltT, n_ltF, n_eqT, n_eqF, n_leT, t_and, nb_0, nb_1, b2_0, b2_n, cont_v, cont_n, ex_eq, u_s, u_c, u_j, ↓reduceIte, ite_not, not_true_eq_false, not_false_eq_true, Bool.false_eq_true, Bool.true_eq_false, false_and, true_and, and_false, and_true, or_self, or_false, false_or, or_true, true_or, cont_x, n_leF, c_1, c98 hS (by omega : 0 < 9) (tc5 hT), h0, h1, h2, hm0, h6, c98 hS (by omega : 1 < 9) (tc5 t2), b2]
  · simp (disch := first | assumption | omega) only [in12, k12_0, k12_1, k12_4, k12_7, k12_8, k12_9, k12_12, k12_15, k12_16, k12_18, k12_19, k12_20, k12_23, k12_26, k12_27, k12_30, k12_31, k12_32, k12_34, k12_37, k12_38, k12_39, k12_42, k12_43, k12_46, k12_47, k12_49, k12_52, k12_54, k12_56, k12_59, k12_61, k12_63, k12_66, k12_67, k12_69, k12_72, k12_73, k12_74, k12_76, k12_79, k12_80, k12_81, k12_84, k12_85, k12_88, k12_91, k12_92, k12_93, k12_96, k12_97, k12_98, k12_99, k12_100, k12_101, k12_104, k12_105, k12_107, k12_110, k12_113, k12_114, k12_115, k12_117, k12_118, k12_119, k12_120, k12_123, c_0, c_1, c_3, c_6, c_9, c_16, c_40, c_41, c_999, hS, t_16, f_16_0, f_16_1, f_16_2, f_16_3, f_16_4, f_16_5, f_16_6, f_16_7, f_16_8, f_16_9, f_16_10, f_16_11, f_16_12, f_16_13, t_17, f_17_0, t_18, l_18, t_19, f_19_0, f_19_1, f_19_2, f_19_3, f_19_4, f_19_5, f_19_6, t_20, l_20, t_21, l_21, t_22, l_22, t_23, l_23, t_24, l_24, t_25, l_25, t_26, l_26, t_27, f_27_0, f_27_1, f_27_2, f_27_3, f_27_4, f_27_5, f_27_6, t_28, l_28, t_29, l_29, t_30, l_30, t_31, l_31, t_32, l_32, t_33, l_33, t_34, l_34, t_35, f_35_0, f_35_1, t_36, l_36, t_37, l_37, t_38, f_38_0, f_38_1, t_39, l_39, t_40, l_40, t_41, f_41_0, t_42, l_42, t_43, f_43_0, t_44, l_44, t_45, f_45_0, f_45_1, f_45_2, f_45_3, t_46, l_46, t_47, l_47, t_48, l_48, t_49, l_49, t_50, l_50, t_51, f_51_0, f_51_1, f_51_2, f_51_3, t_52, l_52, t_53, l_53, t_54, f_54_0, f_54_1, f_54_2, f_54_3, t_55, l_55, t_56, l_56, t_57, f_57_0, f_57_1, f_57_2, f_57_3, t_58, l_58, t_59, l_59, t_60, l_60, t_61, f_61_0, f_61_1, f_61_2, f_61_3, f_61_4, f_61_5, f_61_6, t_62, l_62, t_63, f_63_0, f_63_1, t_64, l_64, t_65, l_65, t_66, f_66_0, f_66_1, t_67, l_67, t_68, l_68, t_69, l_69, t_70, f_70_0, f_70_1, t_1, l_1, t_2, l_2, m_t, m_f0, m_f1, m_f2, m_f3, m_t1, m_l1, m_t2, m_l2, rowX_s, rowX_n, rowX_f, rowX_2, up_s, up_n, Nat.zero_add, n_m1, i_dec, cat_n, cat_i, cat_r, cat_l, i_add, i_tn, i_vi, i_lt, i_eq, i_shl, n_ltT, n_ltF, n_eqT, n_eqF, n_leT, t_and, nb_0, nb_1, b2_0, b2_n, cont_v, cont_n, ex_eq, u_s, u_c, u_j, ↓reduceIte, ite_not, not_true_eq_false, not_false_eq_true, Bool.false_eq_true, Bool.true_eq_false, false_and, true_and, and_false, and_true, or_self, or_false, false_or, or_true, true_or, cont_x, n_leF, c_1, c98 hS (by omega : 0 < 9) (tc5 hT), h0, h1, h2, hm0, h6, p99f hS (by omega : 1 ≠ 0) (by omega) t2, c98 hS (by omega : 1 < 9) (tc5 t2), b2]
theorem p12 {n : Nat} (hm : m ≤ 150) (htb : ∀ k, tb k < 256) : ∀ g o, g + o = 6 → ∀ d, UC n tb m (unA tb m g) (d + 4 * g + 5) 12 o := by
  have hm6 : m ≤ 600 := by omega
  intro g
  induction g with
  | zero =>
    intro o ho d c p t I L S hS hT hL hcp
    have ho6 : o = 6 := by omega
    subst ho6
    have hpm := tc_le hT
    show ∃ I', frL I I' ∧ lcQ tb m I' (unA tb m 0 c p) ∧ ∀ r, EvD (d + 5) 12 [.ref 38, .ref 17, .int (i32 6)] I L S r ↔ r = (.inl none, I', L, S)
    rw [unA]
    by_cases hd : p < m ∧ isDg tb p = true
    · rw [if_pos hd]; exact p12n hS hm htb hT hL hcp hd
    rw [if_neg hd]
    obtain ⟨K0, f0, t0, h0⟩ := p102 (d := d + 2) (L := L) hS hm6 htb hT
    simp only [b2_f hd] at h0
    obtain ⟨K1, f1, t1, h1⟩ := p103 (d := d + 2) (L := L) (c := 40) hS hm6 htb (by omega) t0
    have f01 := fr17_trans f0 f1
    have hm0 : m1 < i32 0 := m1_lt (by omega)
    by_cases hb : p < m ∧ tb p = 40
    · rw [if_pos hb] at t1 ⊢
      simp only [b2_t hb] at h1
      obtain ⟨K2, f2, t2, h2⟩ := p99 (d := d + 3) (L := L) (c := 3) hS (by omega) t1
      have L2 := LC_17 (fr17_trans f01 f2) hL
      refine ⟨K2, frL_17 (fr17_trans f01 f2), ⟨⟨by omega, by omega⟩, t2, ⟨c.length, by omega, L2.1⟩⟩, fun r => ?_⟩
      simp (disch := first | assumption | omega) only [in12, k12_0, k12_1, k12_4, k12_7, k12_8, k12_9, k12_12, k12_15, k12_16, k12_18, k12_19, k12_20, k12_23, k12_26, k12_27, k12_30, k12_31, k12_32, k12_34, k12_37, k12_38, k12_39, k12_42, k12_43, k12_46, k12_47, k12_49, k12_52, k12_54, k12_56, k12_59, k12_61, k12_63, k12_66, k12_67, k12_69, k12_72, k12_73, k12_74, k12_76, k12_79, k12_80, k12_81, k12_84, k12_85, k12_88, k12_91, k12_92, k12_93, k12_96, k12_97, k12_98, k12_99, k12_100, k12_101, k12_104, k12_105, k12_107, k12_110, k12_113, k12_114, k12_115, k12_117, k12_118, k12_119, k12_120, k12_123, c_0, c_1, c_3, c_6, c_9, c_16, c_40, c_41, c_999, hS, t_16, f_16_0, f_16_1, f_16_2, f_16_3, f_16_4, f_16_5, f_16_6, f_16_7, f_16_8, f_16_9, f_16_10, f_16_11, f_16_12, f_16_13, t_17, f_17_0, t_18, l_18, t_19, f_19_0, f_19_1, f_19_2, f_19_3, f_19_4, f_19_5, f_19_6, t_20, l_20, t_21, l_21, t_22, l_22, t_23, l_23, t_24, l_24, t_25, l_25, t_26, l_26, t_27, f_27_0, f_27_1, f_27_2, f_27_3, f_27_4, f_27_5, f_27_6, t_28, l_28, t_29, l_29, t_30, l_30, t_31, l_31, t_32, l_32, t_33, l_33, t_34, l_34, t_35, f_35_0, f_35_1, t_36, l_36, t_37, l_37, t_38, f_38_0, f_38_1, t_39, l_39, t_40, l_40, t_41, f_41_0, t_42, l_42, t_43, f_43_0, t_44, l_44, t_45, f_45_0, f_45_1, f_45_2, f_45_3, t_46, l_46, t_47, l_47, t_48, l_48, t_49, l_49, t_50, l_50, t_51, f_51_0, f_51_1, f_51_2, f_51_3, t_52, l_52, t_53, l_53, t_54, f_54_0, f_54_1, f_54_2, f_54_3, t_55, l_55, t_56, l_56, t_57, f_57_0, f_57_1, f_57_2, f_57_3, t_58, l_58, t_59, l_59, t_60, l_60, t_61, f_61_0, f_61_1, f_61_2, f_61_3, f_61_4, f_61_5, f_61_6, t_62, l_62, t_63, f_63_0, f_63_1, t_64, l_64, t_65, l_65, t_66, f_66_0, f_66_1, t_67, l_67, t_68, l_68, t_69, l_69, t_70, f_70_0, f_70_1, t_1, l_1, t_2, l_2, m_t, m_f0, m_f1, m_f2, m_f3, m_t1, m_l1, m_t2, m_l2, rowX_s, rowX_n, rowX_f, rowX_2, up_s, up_n, Nat.zero_add, n_m1, i_dec, cat_n, cat_i, cat_r, cat_l, i_add, i_tn, i_vi, i_lt, i_eq, i_shl, n_ltT, n_ltF, n_eqT, n_eqF, n_leT, t_and, nb_0, nb_1, b2_0, b2_n, cont_v, cont_n, ex_eq, u_s, u_c, u_j, ↓reduceIte, ite_not, not_true_eq_false, not_false_eq_true, Bool.false_eq_true, Bool.true_eq_false, false_and, true_and, and_false, and_true, or_self, or_false, false_or, or_true, true_or, cont_x, n_leF, c_1, c98 hS (by omega : 0 < 9) (tc5 hT), h0, h1, hm0, h2, c98 hS (by omega : 3 < 9) (tc5 t2), b2]
    rw [if_neg hb]
    by_cases hk : kno (lwd tb m p) < 9
    · rw [if_pos hk]; exact p12k hS hm htb hT hL hcp hd hb hk
    rw [if_neg hk]
    by_cases hx : lwd tb m p = wLeast ∨ lwd tb m p = wMost
    · rw [if_pos hx]
      rw [if_neg hb] at t1
      simp only [b2_f hb] at h1
      obtain ⟨K2, f2, t2, h2⟩ := p106 (d := d + 1) (L := L) (k := 4) hS hm6 htb (by omega) (by omega) t1
      rw [wix4, if_neg hk] at t2 h2
      have hw : ∃ w, 9 ≤ w ∧ w ≤ 10 ∧ (if lwd tb m p = wLeast then i32 9 else if lwd tb m p = wMost then i32 10 else m1) = i32 w := by
        rcases hx with hx | hx
        · exact ⟨9, by omega, by omega, if_pos hx⟩
        · refine ⟨10, by omega, by omega, ?_⟩
          rw [if_neg (by rw [hx]; decide), if_pos hx]
      obtain ⟨w, w9, w10, hw⟩ := hw
      rw [hw] at t2 h2
      rw [if_neg (mm_ne (by omega))] at t2
      obtain ⟨K3, f3, t3, h3⟩ := p99 (d := d + 3) (L := L) (c := 3) hS (by omega) t2
      have f03 := fr17_trans f01 (fr17_trans f2 f3)
      have L3 := LC_17 f03 hL
      refine ⟨K3, frL_17 f03, ⟨⟨by omega, by omega⟩, t3, ⟨c.length, by omega, L3.1⟩⟩, fun r => ?_⟩
      simp (disch := first | assumption | omega) only [in12, k12_0, k12_1, k12_4, k12_7, k12_8, k12_9, k12_12, k12_15, k12_16, k12_18, k12_19, k12_20, k12_23, k12_26, k12_27, k12_30, k12_31, k12_32, k12_34, k12_37, k12_38, k12_39, k12_42, k12_43, k12_46, k12_47, k12_49, k12_52, k12_54, k12_56, k12_59, k12_61, k12_63, k12_66, k12_67, k12_69, k12_72, k12_73, k12_74, k12_76, k12_79, k12_80, k12_81, k12_84, k12_85, k12_88, k12_91, k12_92, k12_93, k12_96, k12_97, k12_98, k12_99, k12_100, k12_101, k12_104, k12_105, k12_107, k12_110, k12_113, k12_114, k12_115, k12_117, k12_118, k12_119, k12_120, k12_123, c_0, c_1, c_3, c_6, c_9, c_16, c_40, c_41, c_999, hS, t_16, f_16_0, f_16_1, f_16_2, f_16_3, f_16_4, f_16_5, f_16_6, f_16_7, f_16_8, f_16_9, f_16_10, f_16_11, f_16_12, f_16_13, t_17, f_17_0, t_18, l_18, t_19, f_19_0, f_19_1, f_19_2, f_19_3, f_19_4, f_19_5, f_19_6, t_20, l_20, t_21, l_21, t_22, l_22, t_23, l_23, t_24, l_24, t_25, l_25, t_26, l_26, t_27, f_27_0, f_27_1, f_27_2, f_27_3, f_27_4, f_27_5, f_27_6, t_28, l_28, t_29, l_29, t_30, l_30, t_31, l_31, t_32, l_32, t_33, l_33, t_34, l_34, t_35, f_35_0, f_35_1, t_36, l_36, t_37, l_37, t_38, f_38_0, f_38_1, t_39, l_39, t_40, l_40, t_41, f_41_0, t_42, l_42, t_43, f_43_0, t_44, l_44, t_45, f_45_0, f_45_1, f_45_2, f_45_3, t_46, l_46, t_47, l_47, t_48, l_48, t_49, l_49, t_50, l_50, t_51, f_51_0, f_51_1, f_51_2, f_51_3, t_52, l_52, t_53, l_53, t_54, f_54_0, f_54_1, f_54_2, f_54_3, t_55, l_55, t_56, l_56, t_57, f_57_0, f_57_1, f_57_2, f_57_3, t_58, l_58, t_59, l_59, t_60, l_60, t_61, f_61_0, f_61_1, f_61_2, f_61_3, f_61_4, f_61_5, f_61_6, t_62, l_62, t_63, f_63_0, f_63_1, t_64, l_64, t_65, l_65, t_66, f_66_0, f_66_1, t_67, l_67, t_68, l_68, t_69, l_69, t_70, f_70_0, f_70_1, t_1, l_1, t_2, l_2, m_t, m_f0, m_f1, m_f2, m_f3, m_t1, m_l1, m_t2, m_l2, rowX_s, rowX_n, rowX_f, rowX_2, up_s, up_n, Nat.zero_add, n_m1, i_dec, cat_n, cat_i, cat_r, cat_l, i_add, i_tn, i_vi, i_lt, i_eq, i_shl, n_ltT, n_ltF, n_eqT, n_eqF, n_leT, t_and, nb_0, nb_1, b2_0, b2_n, cont_v, cont_n, ex_eq, u_s, u_c, u_j, ↓reduceIte, ite_not, not_true_eq_false, not_false_eq_true, Bool.false_eq_true, Bool.true_eq_false, false_and, true_and, and_false, and_true, or_self, or_false, false_or, or_true, true_or, cont_x, n_leF, c_1, c98 hS (by omega : 0 < 9) (tc5 hT), h0, h1, h2, h3, c98 hS (by omega : 3 < 9) (tc5 t3), b2]
    · rw [if_neg hx]
      exact p12e hS hm htb (by omega) hT hL hcp hd hb hk (fun z => hx (Or.inl z)) (fun z => hx (Or.inr z))
  | succ g ih =>
    intro o ho d c p t I L S hS hT hL hcp
    have hpm := tc_le hT
    have hB : UB m (suA tb m g) := suA_B
    have uS : ∀ d, UC n tb m (suA tb m g) (d + 4 * g + 7) 10 (o + 1) := fun d => by
      have u1 := ih (o + 1) (by omega) d
      have u2' : UC n tb m (loA tb m sgP (unA tb m g)) (d + 4 * g + 6) 11 (o + 1) := p11 (d := d + 4 * g + 1) hm htb u1 (unA_B g)
      exact p10 (d := d + 4 * g + 2) hm htb u2' prA_B
    have ed : d + 4 * (g + 1) + 5 = d + 4 * g + 4 + 5 := by omega
    rw [ed]
    rw [unA]
    by_cases hd : p < m ∧ isDg tb p = true
    · rw [if_pos hd]; exact p12n hS hm htb hT hL hcp hd
    rw [if_neg hd]
    obtain ⟨K0, f0, t0, h0⟩ := p102 (d := d + 4 * g + 6) (L := L) hS hm6 htb hT
    simp only [b2_f hd] at h0
    obtain ⟨K1, f1, t1, h1⟩ := p103 (d := d + 4 * g + 6) (L := L) (c := 40) hS hm6 htb (by omega) t0
    have f01 := fr17_trans f0 f1
    have hm0 : m1 < i32 0 := m1_lt (by omega)
    have ho6 : o < 6 := by omega
    by_cases hb : p < m ∧ tb p = 40
    · rw [if_pos hb] at t1 ⊢
      simp only [b2_t hb] at h1
      have s1 := sk_ge (tb := tb) (m := m) (a := p + 1)
      have s2 := sk_le (tb := tb) (n := m) (a := p + 1) (by omega)
      obtain ⟨K2, f2, q2, h2⟩ := uS (d + 1) c _ _ K1 L S hS t1 (LC_17 f01 hL) (by omega)
      have eq1 : d + 1 + 4 * g + 7 = d + 4 * g + 8 := by omega
      rw [eq1] at h2
      unfold suA at q2 hB
      generalize sk tb m (p + 1) = p1 at *
      have s5' := tc5 t1
      have F2 := frL_t (frL_17 f01) f2
      cases hu : loA tb m sgS (loA tb m sgP (unA tb m g)) c p1 with
      | inr e =>
        obtain ⟨f, pl⟩ := e
        rw [hu] at q2
        obtain ⟨⟨g0, g9⟩, tK, s, hs, hs2⟩ := q2
        obtain ⟨K3, f3, t3, h3⟩ := p104f (d := d + 4 * g + 6) (L := L) (c := 41) hS hm6 htb (by omega) g0 g9 tK
        refine ⟨K3, frL_t F2 (frL_17 f3), ⟨⟨g0, g9⟩, t3, ⟨s, hs, by rw [f3 _ _ (by omega)]; exact hs2⟩⟩, fun r => ?_⟩
        simp (disch := first | assumption | omega) only [in12, k12_0, k12_1, k12_4, k12_7, k12_8, k12_9, k12_12, k12_15, k12_16, k12_18, k12_19, k12_20, k12_23, k12_26, k12_27, k12_30, k12_31, k12_32, k12_34, k12_37, k12_38, k12_39, k12_42, k12_43, k12_46, k12_47, k12_49, k12_52, k12_54, k12_56, k12_59, k12_61, k12_63, k12_66, k12_67, k12_69, k12_72, k12_73, k12_74, k12_76, k12_79, k12_80, k12_81, k12_84, k12_85, k12_88, k12_91, k12_92, k12_93, k12_96, k12_97, k12_98, k12_99, k12_100, k12_101, k12_104, k12_105, k12_107, k12_110, k12_113, k12_114, k12_115, k12_117, k12_118, k12_119, k12_120, k12_123, c_0, c_1, c_3, c_6, c_9, c_16, c_40, c_41, c_999, hS, t_16, f_16_0, f_16_1, f_16_2, f_16_3, f_16_4, f_16_5, f_16_6, f_16_7, f_16_8, f_16_9, f_16_10, f_16_11, f_16_12, f_16_13, t_17, f_17_0, t_18, l_18, t_19, f_19_0, f_19_1, f_19_2, f_19_3, f_19_4, f_19_5, f_19_6, t_20, l_20, t_21, l_21, t_22, l_22, t_23, l_23, t_24, l_24, t_25, l_25, t_26, l_26, t_27, f_27_0, f_27_1, f_27_2, f_27_3, f_27_4, f_27_5, f_27_6, t_28, l_28, t_29, l_29, t_30, l_30, t_31, l_31, t_32, l_32, t_33, l_33, t_34, l_34, t_35, f_35_0, f_35_1, t_36, l_36, t_37, l_37, t_38, f_38_0, f_38_1, t_39, l_39, t_40, l_40, t_41, f_41_0, t_42, l_42, t_43, f_43_0, t_44, l_44, t_45, f_45_0, f_45_1, f_45_2, f_45_3, t_46, l_46, t_47, l_47, t_48, l_48, t_49, l_49, t_50, l_50, t_51, f_51_0, f_51_1, f_51_2, f_51_3, t_52, l_52, t_53, l_53, t_54, f_54_0, f_54_1, f_54_2, f_54_3, t_55, l_55, t_56, l_56, t_57, f_57_0, f_57_1, f_57_2, f_57_3, t_58, l_58, t_59, l_59, t_60, l_60, t_61, f_61_0, f_61_1, f_61_2, f_61_3, f_61_4, f_61_5, f_61_6, t_62, l_62, t_63, f_63_0, f_63_1, t_64, l_64, t_65, l_65, t_66, f_66_0, f_66_1, t_67, l_67, t_68, l_68, t_69, l_69, t_70, f_70_0, f_70_1, t_1, l_1, t_2, l_2, m_t, m_f0, m_f1, m_f2, m_f3, m_t1, m_l1, m_t2, m_l2, rowX_s, rowX_n, rowX_f, rowX_2, up_s, up_n, Nat.zero_add, n_m1, i_dec, cat_n, cat_i, cat_r, cat_l, i_add, i_tn, i_vi, i_lt, i_eq, i_shl, n_ltT, n_ltF, n_eqT, n_eqF, n_leT, t_and, nb_0, nb_1, b2_0, b2_n, cont_v, cont_n, ex_eq, u_s, u_c, u_j, ↓reduceIte, ite_not, not_true_eq_false, not_false_eq_true, Bool.false_eq_true, Bool.true_eq_false, false_and, true_and, and_false, and_true, or_self, or_false, false_or, or_true, true_or, cont_x, n_leF, c_1, c98 hS (by omega : 0 < 9) (tc5 hT), h0, h1, hm0, ho6, c98 hS (by omega : 0 < 9) s5', h2, h3, b2]
      | inl e =>
        obtain ⟨c2, p2⟩ := e
        rw [hu] at q2
        obtain ⟨⟨t2, tK⟩, L2⟩ := q2
        obtain ⟨⟨b1, b2', b3⟩, _⟩ := hB _ _ _ _ hu s2
        obtain ⟨K3, f3, t3, h3⟩ := p104 (d := d + 4 * g + 6) (L := L) (c := 41) hS hm6 htb (by omega) tK
        have L3 := LC_17 f3 L2
        rw [siX]
        refine ⟨K3, frL_t F2 (frL_17 f3), ?_, fun r => ?_⟩
        · by_cases a2 : p2 < m ∧ tb p2 = 41
          · rw [if_pos a2] at t3 ⊢
            exact ⟨⟨_, t3⟩, L3⟩
          · rw [if_neg a2] at t3 ⊢
            exact ⟨⟨by omega, by omega⟩, t3, ⟨c2.length, by omega, L3.1⟩⟩
        · simp (disch := first | assumption | omega) only [in12, k12_0, k12_1, k12_4, k12_7, k12_8, k12_9, k12_12, k12_15, k12_16, k12_18, k12_19, k12_20, k12_23, k12_26, k12_27, k12_30, k12_31, k12_32, k12_34, k12_37, k12_38, k12_39, k12_42, k12_43, k12_46, k12_47, k12_49, k12_52, k12_54, k12_56, k12_59, k12_61, k12_63, k12_66, k12_67, k12_69, k12_72, k12_73, k12_74, k12_76, k12_79, k12_80, k12_81, k12_84, k12_85, k12_88, k12_91, k12_92, k12_93, k12_96, k12_97, k12_98, k12_99, k12_100, k12_101, k12_104, k12_105, k12_107, k12_110, k12_113, k12_114, k12_115, k12_117, k12_118, k12_119, k12_120, k12_123, c_0, c_1, c_3, c_6, c_9, c_16, c_40, c_41, c_999, hS, t_16, f_16_0, f_16_1, f_16_2, f_16_3, f_16_4, f_16_5, f_16_6, f_16_7, f_16_8, f_16_9, f_16_10, f_16_11, f_16_12, f_16_13, t_17, f_17_0, t_18, l_18, t_19, f_19_0, f_19_1, f_19_2, f_19_3, f_19_4, f_19_5, f_19_6, t_20, l_20, t_21, l_21, t_22, l_22, t_23, l_23, t_24, l_24, t_25, l_25, t_26, l_26, t_27, f_27_0, f_27_1, f_27_2, f_27_3, f_27_4, f_27_5, f_27_6, t_28, l_28, t_29, l_29, t_30, l_30, t_31, l_31, t_32, l_32, t_33, l_33, t_34, l_34, t_35, f_35_0, f_35_1, t_36, l_36, t_37, l_37, t_38, f_38_0, f_38_1, t_39, l_39, t_40, l_40, t_41, f_41_0, t_42, l_42, t_43, f_43_0, t_44, l_44, t_45, f_45_0, f_45_1, f_45_2, f_45_3, t_46, l_46, t_47, l_47, t_48, l_48, t_49, l_49, t_50, l_50, t_51, f_51_0, f_51_1, f_51_2, f_51_3, t_52, l_52, t_53, l_53, t_54, f_54_0, f_54_1, f_54_2, f_54_3, t_55, l_55, t_56, l_56, t_57, f_57_0, f_57_1, f_57_2, f_57_3, t_58, l_58, t_59, l_59, t_60, l_60, t_61, f_61_0, f_61_1, f_61_2, f_61_3, f_61_4, f_61_5, f_61_6, t_62, l_62, t_63, f_63_0, f_63_1, t_64, l_64, t_65, l_65, t_66, f_66_0, f_66_1, t_67, l_67, t_68, l_68, t_69, l_69, t_70, f_70_0, f_70_1, t_1, l_1, t_2, l_2, m_t, m_f0, m_f1, m_f2, m_f3, m_t1, m_l1, m_t2, m_l2, rowX_s, rowX_n, rowX_f, rowX_2, up_s, up_n, Nat.zero_add, n_m1, i_dec, cat_n, cat_i, cat_r, cat_l, i_add, i_tn, i_vi, i_lt, i_eq, i_shl, n_ltT, n_ltF, n_eqT, n_eqF, n_leT, t_and, nb_0, nb_1, b2_0, b2_n, cont_v, cont_n, ex_eq, u_s, u_c, u_j, ↓reduceIte, ite_not, not_true_eq_false, not_false_eq_true, Bool.false_eq_true, Bool.true_eq_false, false_and, true_and, and_false, and_true, or_self, or_false, false_or, or_true, true_or, cont_x, n_leF, c_1, c98 hS (by omega : 0 < 9) (tc5 hT), h0, h1, hm0, ho6, c98 hS (by omega : 0 < 9) s5', h2, h3, b2]
    rw [if_neg hb]
    by_cases hk : kno (lwd tb m p) < 9
    · rw [if_pos hk]; exact p12k hS hm htb hT hL hcp hd hb hk
    rw [if_neg hk]
    rw [if_neg hb] at t1
    simp only [b2_f hb] at h1
    obtain ⟨K2, f2, t2, h2⟩ := p106 (d := d + 4 * g + 5) (L := L) (k := 4) hS hm6 htb (by omega) (by omega) t1
    rw [wix4, if_neg hk] at t2 h2
    have f02 := fr17_trans f01 f2
    have L2 := LC_17 f02 hL
    have l2 : ltE tb m p ≤ m := adv_le p hpm
    have l1 : p ≤ ltE tb m p := adv_ge p
    have s3 := sk_ge (tb := tb) (m := m) (a := ltE tb m p)
    by_cases h7 : lwd tb m p = wLeast
    · rw [if_pos h7] at t2 h2 ⊢
      rw [if_neg (mm_ne (by omega))] at t2
      obtain ⟨I', fI, qI, hI⟩ := p13 (d := d + 4 * g + 3) (L := L) (how := 7) hS hm htb (Or.inl rfl) (uS d) suA_B t2 L2 (by omega)
      refine ⟨I', frL_t (frL_17 f02) fI, qI, fun r => ?_⟩
      simp (disch := first | assumption | omega) only [in12, k12_0, k12_1, k12_4, k12_7, k12_8, k12_9, k12_12, k12_15, k12_16, k12_18, k12_19, k12_20, k12_23, k12_26, k12_27, k12_30, k12_31, k12_32, k12_34, k12_37, k12_38, k12_39, k12_42, k12_43, k12_46, k12_47, k12_49, k12_52, k12_54, k12_56, k12_59, k12_61, k12_63, k12_66, k12_67, k12_69, k12_72, k12_73, k12_74, k12_76, k12_79, k12_80, k12_81, k12_84, k12_85, k12_88, k12_91, k12_92, k12_93, k12_96, k12_97, k12_98, k12_99, k12_100, k12_101, k12_104, k12_105, k12_107, k12_110, k12_113, k12_114, k12_115, k12_117, k12_118, k12_119, k12_120, k12_123, c_0, c_1, c_3, c_6, c_9, c_16, c_40, c_41, c_999, hS, t_16, f_16_0, f_16_1, f_16_2, f_16_3, f_16_4, f_16_5, f_16_6, f_16_7, f_16_8, f_16_9, f_16_10, f_16_11, f_16_12, f_16_13, t_17, f_17_0, t_18, l_18, t_19, f_19_0, f_19_1, f_19_2, f_19_3, f_19_4, f_19_5, f_19_6, t_20, l_20, t_21, l_21, t_22, l_22, t_23, l_23, t_24, l_24, t_25, l_25, t_26, l_26, t_27, f_27_0, f_27_1, f_27_2, f_27_3, f_27_4, f_27_5, f_27_6, t_28, l_28, t_29, l_29, t_30, l_30, t_31, l_31, t_32, l_32, t_33, l_33, t_34, l_34, t_35, f_35_0, f_35_1, t_36, l_36, t_37, l_37, t_38, f_38_0, f_38_1, t_39, l_39, t_40, l_40, t_41, f_41_0, t_42, l_42, t_43, f_43_0, t_44, l_44, t_45, f_45_0, f_45_1, f_45_2, f_45_3, t_46, l_46, t_47, l_47, t_48, l_48, t_49, l_49, t_50, l_50, t_51, f_51_0, f_51_1, f_51_2, f_51_3, t_52, l_52, t_53, l_53, t_54, f_54_0, f_54_1, f_54_2, f_54_3, t_55, l_55, t_56, l_56, t_57, f_57_0, f_57_1, f_57_2, f_57_3, t_58, l_58, t_59, l_59, t_60, l_60, t_61, f_61_0, f_61_1, f_61_2, f_61_3, f_61_4, f_61_5, f_61_6, t_62, l_62, t_63, f_63_0, f_63_1, t_64, l_64, t_65, l_65, t_66, f_66_0, f_66_1, t_67, l_67, t_68, l_68, t_69, l_69, t_70, f_70_0, f_70_1, t_1, l_1, t_2, l_2, m_t, m_f0, m_f1, m_f2, m_f3, m_t1, m_l1, m_t2, m_l2, rowX_s, rowX_n, rowX_f, rowX_2, up_s, up_n, Nat.zero_add, n_m1, i_dec, cat_n, cat_i, cat_r, cat_l, i_add, i_tn, i_vi, i_lt, i_eq, i_shl, n_ltT, n_ltF, n_eqT, n_eqF, n_leT, t_and, nb_0, nb_1, b2_0, b2_n, cont_v, cont_n, ex_eq, u_s, u_c, u_j, ↓reduceIte, ite_not, not_true_eq_false, not_false_eq_true, Bool.false_eq_true, Bool.true_eq_false, false_and, true_and, and_false, and_true, or_self, or_false, false_or, or_true, true_or, cont_x, n_leF, c_1, c98 hS (by omega : 0 < 9) (tc5 hT), h0, h1, h2, ho6, c98 hS (by omega : 0 < 9) (tc5 t2), hI, b2]
    rw [if_neg h7] at t2 h2 ⊢
    by_cases h8 : lwd tb m p = wMost
    · rw [if_pos h8] at t2 h2 ⊢
      rw [if_neg (mm_ne (by omega))] at t2
      obtain ⟨I', fI, qI, hI⟩ := p13 (d := d + 4 * g + 3) (L := L) (how := 8) hS hm htb (Or.inr rfl) (uS d) suA_B t2 L2 (by omega)
      refine ⟨I', frL_t (frL_17 f02) fI, qI, fun r => ?_⟩
      simp (disch := first | assumption | omega) only [in12, k12_0, k12_1, k12_4, k12_7, k12_8, k12_9, k12_12, k12_15, k12_16, k12_18, k12_19, k12_20, k12_23, k12_26, k12_27, k12_30, k12_31, k12_32, k12_34, k12_37, k12_38, k12_39, k12_42, k12_43, k12_46, k12_47, k12_49, k12_52, k12_54, k12_56, k12_59, k12_61, k12_63, k12_66, k12_67, k12_69, k12_72, k12_73, k12_74, k12_76, k12_79, k12_80, k12_81, k12_84, k12_85, k12_88, k12_91, k12_92, k12_93, k12_96, k12_97, k12_98, k12_99, k12_100, k12_101, k12_104, k12_105, k12_107, k12_110, k12_113, k12_114, k12_115, k12_117, k12_118, k12_119, k12_120, k12_123, c_0, c_1, c_3, c_6, c_9, c_16, c_40, c_41, c_999, hS, t_16, f_16_0, f_16_1, f_16_2, f_16_3, f_16_4, f_16_5, f_16_6, f_16_7, f_16_8, f_16_9, f_16_10, f_16_11, f_16_12, f_16_13, t_17, f_17_0, t_18, l_18, t_19, f_19_0, f_19_1, f_19_2, f_19_3, f_19_4, f_19_5, f_19_6, t_20, l_20, t_21, l_21, t_22, l_22, t_23, l_23, t_24, l_24, t_25, l_25, t_26, l_26, t_27, f_27_0, f_27_1, f_27_2, f_27_3, f_27_4, f_27_5, f_27_6, t_28, l_28, t_29, l_29, t_30, l_30, t_31, l_31, t_32, l_32, t_33, l_33, t_34, l_34, t_35, f_35_0, f_35_1, t_36, l_36, t_37, l_37, t_38, f_38_0, f_38_1, t_39, l_39, t_40, l_40, t_41, f_41_0, t_42, l_42, t_43, f_43_0, t_44, l_44, t_45, f_45_0, f_45_1, f_45_2, f_45_3, t_46, l_46, t_47, l_47, t_48, l_48, t_49, l_49, t_50, l_50, t_51, f_51_0, f_51_1, f_51_2, f_51_3, t_52, l_52, t_53, l_53, t_54, f_54_0, f_54_1, f_54_2, f_54_3, t_55, l_55, t_56, l_56, t_57, f_57_0, f_57_1, f_57_2, f_57_3, t_58, l_58, t_59, l_59, t_60, l_60, t_61, f_61_0, f_61_1, f_61_2, f_61_3, f_61_4, f_61_5, f_61_6, t_62, l_62, t_63, f_63_0, f_63_1, t_64, l_64, t_65, l_65, t_66, f_66_0, f_66_1, t_67, l_67, t_68, l_68, t_69, l_69, t_70, f_70_0, f_70_1, t_1, l_1, t_2, l_2, m_t, m_f0, m_f1, m_f2, m_f3, m_t1, m_l1, m_t2, m_l2, rowX_s, rowX_n, rowX_f, rowX_2, up_s, up_n, Nat.zero_add, n_m1, i_dec, cat_n, cat_i, cat_r, cat_l, i_add, i_tn, i_vi, i_lt, i_eq, i_shl, n_ltT, n_ltF, n_eqT, n_eqF, n_leT, t_and, nb_0, nb_1, b2_0, b2_n, cont_v, cont_n, ex_eq, u_s, u_c, u_j, ↓reduceIte, ite_not, not_true_eq_false, not_false_eq_true, Bool.false_eq_true, Bool.true_eq_false, false_and, true_and, and_false, and_true, or_self, or_false, false_or, or_true, true_or, cont_x, n_leF, c_1, c98 hS (by omega : 0 < 9) (tc5 hT), h0, h1, h2, ho6, c98 hS (by omega : 0 < 9) (tc5 t2), hI, b2]
    rw [if_neg h8]
    exact p12e hS hm htb (by omega) hT hL hcp hd hb hk h7 h8
end LawT
