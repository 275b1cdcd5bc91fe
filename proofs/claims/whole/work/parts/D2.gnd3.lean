/-! SETS OF DEBTS, house by house: the searches -/
theorem sub_loopG {σ : Type} {P : Nat → Nat → σ → Prop} {A : Nat} {st : σ → Nat → σ} {s : σ} (hA : A < 4096) (h : ∀ i x, i < 2 ^ popc A → sub A x = true → (P i x (goF A st s x) ↔ P (i + 1) (nxN A x) (st (goF A st s x) x))) : P 0 0 s ↔ P (2 ^ popc A) 0 (goF A st s (A + 1)) := by
  have hc := cnt_A hA
  have key : ∀ i, i < 2 ^ popc A → ∃ x, sub A x = true ∧ cntN x (fun x => sub A x) = i ∧ (P 0 0 s ↔ P i x (goF A st s x)) := by
    intro i
    induction i with
    | zero => intro _; exact ⟨0, sub_0, rfl, Iff.rfl⟩
    | succ i ih =>
      intro hi
      obtain ⟨x, h1, h2, h3⟩ := ih (by omega)
      have hne : x ≠ A := fun z => by
        subst z
        rw [cntN, if_pos h1, h2] at hc
        omega
      obtain ⟨n1, n2, n3⟩ := nx_ok hA h1 hne
      have hno : ∀ k, x + 1 ≤ k → k < nxN A x → ¬ sub A k = true := fun k k1 k2 z => by
        have := n3 k z (by omega); omega
      refine ⟨nxN A x, n1, ?_, ?_⟩
      · rw [cnt_split (a := x + 1) (by omega) (fun k k1 k2 => by
          cases z : sub A k
          · rfl
          · exact absurd z (hno k k1 k2)), cntN, if_pos h1, h2]
      · rw [h3, h i x (by omega) h1, go_skip (a := x + 1) (b := nxN A x) (by omega) hno, goF, if_pos h1]
  have hpos : 0 < 2 ^ popc A := Nat.two_pow_pos _
  obtain ⟨x, h1, h2, h3⟩ := key (2 ^ popc A - 1) (by omega)
  have hxA : x = A := by
    refine Classical.byContradiction fun hne => ?_
    have hle := sub_le h1
    have c1 : cntN (x + 1) (fun x => sub A x) = cntN x (fun x => sub A x) + 1 := by rw [cntN, if_pos h1]
    have c2 : cntN (x + 1) (fun x => sub A x) ≤ cntN A (fun x => sub A x) := by
      exact cnt_mono (by omega)
    have c3 : cntN (A + 1) (fun x => sub A x) = cntN A (fun x => sub A x) + 1 := by rw [cntN, if_pos sub_self]
    omega
  subst hxA
  rw [h3, h _ _ (by omega) h1, nx_A hA, show 2 ^ popc x - 1 + 1 = 2 ^ popc x from by omega, goF, if_pos h1]
theorem sM_le1 {g : Nat → Nat} (h : ∀ k, g k ≤ 1) : ∀ n, sM n g ≤ n := by
  intro n
  induction n with
  | zero => exact Nat.le_refl _
  | succ n ih => rw [sM]; have := h n; omega
theorem go3_le {A z a y : Nat} {P : Nat → Bool} : (goF A (st3 P) (0, z, a) y).1 ≤ y := by
  rw [(go3 y).1]
  exact sM_le1 (fun k => by split <;> (try split) <;> omega) y
theorem T_le {A : Nat} {P : Nat → Bool} : T A P ≤ 4096 := by
  unfold T sS
  exact sM_le1 (fun k => by dsimp only; split <;> (try split) <;> omega) _
theorem c78 {d n : Nat} {I : VI} {L : VL} {S : SW} {r : Res} (hS : S.1 = W0 n) {B mn fi su : Nat} {v : Int32} {f : Nat → Int32} (hB : B < 4096) (hf : ∀ k, k < 64 → I 64 k = hs f k ∧ I 65 k = hs (fun k => f (6 + k)) k) (h7 : I 61 7 = i32 mn) (h8 : I 61 8 = i32 fi) (h9 : I 61 9 = i32 su) : EvD (d + 3) 78 [.ref 61, .int (i32 B), .int v] I L S r ↔ r = (.inl none, u2 (u2 (u2 I 61 7 (i32 (mn * (goF B (st3 (fun s => decide (wsum f s = v))) (0, 0, B) (B + 1)).1))) 61 8 (i32 (fi ||| (goF B (st3 (fun s => decide (wsum f s = v))) (0, 0, B) (B + 1)).2.1))) 61 9 (i32 (su ||| (goF B (st3 (fun s => decide (wsum f s = v))) (0, 0, B) (B + 1)).2.2)), L, S) := by
  have hp := pp12 (x := B)
  have lp := sub_loopG (P := fun i x (s : Nat × Nat × Nat) => Ev (d + 2) 78 20 [.ref 61, .int (i32 B), .int v, .int (i32 s.1), .int (i32 s.2.1), .int (i32 s.2.2), .int (i32 (2 ^ popc B)), .int (i32 x), .int (i32 i)] [] I L S r) (st := st3 (fun s => decide (wsum f s = v))) (s := (0, 0, B)) hB (fun i x hi hx => by
    have hx2 := sub_le hx
    have hle := go3_le (A := B) (z := 0) (a := B) (y := x) (P := fun s => decide (wsum f s = v))
    generalize goF B (st3 (fun s => decide (wsum f s = v))) (0, 0, B) x = s at *
    obtain ⟨s1, s2, s3⟩ := s
    dsimp only at hle ⊢
    unfold st3
    by_cases he : wsum f x = v
    · by_cases h0 : s1 = 0
      · simp only [he, decide_true, if_true, h0]
        (rw [k78_20]; simp (disch := first | assumption | omega) only [in78, k78_0, k78_1, k78_2, k78_3, k78_5, k78_6, k78_8, k78_9, k78_12, k78_14, k78_15, k78_17, k78_18, k78_22, k78_24, k78_27, k78_28, k78_31, k78_33, k78_36, k78_37, k78_40, k78_41, k78_44, k78_46, k78_49, k78_51, k78_53, k78_55, k78_57, k78_58, k78_60, k78_63, k78_65, k78_66, k78_69, k78_71, k78_74, k78_77, k78_78, k78_78r, k78_79, k78_82, k78_83, k78_84, k78_87, k78_88, k78_88r, k78_89, k78_92, k78_94, k78_95, k78_98, k78_99, k78_99r, k78_100, k78_103, k78_105, k78_106, k78_109, c_0, c_1, hS, t_16, f_16_0, f_16_1, f_16_2, f_16_3, f_16_4, f_16_5, f_16_6, f_16_7, f_16_8, f_16_9, f_16_10, f_16_11, f_16_12, f_16_13, t_17, f_17_0, t_18, l_18, t_19, f_19_0, f_19_1, f_19_2, f_19_3, f_19_4, f_19_5, f_19_6, t_20, l_20, t_21, l_21, t_22, l_22, t_23, l_23, t_24, l_24, t_25, l_25, t_26, l_26, t_27, f_27_0, f_27_1, f_27_2, f_27_3, f_27_4, f_27_5, f_27_6, t_28, l_28, t_29, l_29, t_30, l_30, t_31, l_31, t_32, l_32, t_33, l_33, t_34, l_34, t_35, f_35_0, f_35_1, t_36, l_36, t_37, l_37, t_38, f_38_0, f_38_1, t_39, l_39, t_40, l_40, t_41, f_41_0, t_42, l_42, t_43, f_43_0, t_44, l_44, t_45, f_45_0, f_45_1, f_45_2, f_45_3, t_46, l_46, t_47, l_47, t_48, l_48, t_49, l_49, t_50, l_50, t_51, f_51_0, f_51_1, f_51_2, f_51_3, t_52, l_52, t_53, l_53, t_54, f_54_0, f_54_1, f_54_2, f_54_3, t_55, l_55, t_56, l_56, t_57, f_57_0, f_57_1, f_57_2, f_57_3, t_58, l_58, t_59, l_59, t_60, l_60, t_61, f_61_0, f_61_1, f_61_2, f_61_3, f_61_4, f_61_5, f_61_6, t_62, l_62, t_63, f_63_0, f_63_1, t_64, l_64, t_65, l_65, t_66, f_66_0, f_66_1, t_67, l_67, t_68, l_68, t_69, l_69, t_70, f_70_0, f_70_1, t_1, l_1, t_2, l_2, m_t, m_f0, m_f1, m_f2, m_f3, m_t1, m_l1, m_t2, m_l2, rowX_s, rowX_n, rowX_f, rowX_2, up_s, up_n, Nat.zero_add, n_m1, i_dec, cat_n, cat_i, cat_r, cat_l, i_add, i_tn, i_vi, i_lt, i_eq, i_shl, n_ltT, n_ltF, n_eqT, n_eqF, n_leT, t_and, nb_0, nb_1, b2_0, b2_n, cont_v, cont_n, ex_eq, u_s, u_c, u_j, ↓reduceIte, ite_not, not_true_eq_false, not_false_eq_true, Bool.false_eq_true, Bool.true_eq_false, false_and, true_and, and_false, and_true, or_self, or_false, false_or, or_true, true_or, cont_x, n_leF, c_1, c93f hS (by omega : x < 4096) hf, c71 hS hB, he, i_and])
      · simp only [he, decide_true, if_true, h0, if_false]
        (rw [k78_20]; simp (disch := first | assumption | omega) only [in78, k78_0, k78_1, k78_2, k78_3, k78_5, k78_6, k78_8, k78_9, k78_12, k78_14, k78_15, k78_17, k78_18, k78_22, k78_24, k78_27, k78_28, k78_31, k78_33, k78_36, k78_37, k78_40, k78_41, k78_44, k78_46, k78_49, k78_51, k78_53, k78_55, k78_57, k78_58, k78_60, k78_63, k78_65, k78_66, k78_69, k78_71, k78_74, k78_77, k78_78, k78_78r, k78_79, k78_82, k78_83, k78_84, k78_87, k78_88, k78_88r, k78_89, k78_92, k78_94, k78_95, k78_98, k78_99, k78_99r, k78_100, k78_103, k78_105, k78_106, k78_109, c_0, c_1, hS, t_16, f_16_0, f_16_1, f_16_2, f_16_3, f_16_4, f_16_5, f_16_6, f_16_7, f_16_8, f_16_9, f_16_10, f_16_11, f_16_12, f_16_13, t_17, f_17_0, t_18, l_18, t_19, f_19_0, f_19_1, f_19_2, f_19_3, f_19_4, f_19_5, f_19_6, t_20, l_20, t_21, l_21, t_22, l_22, t_23, l_23, t_24, l_24, t_25, l_25, t_26, l_26, t_27, f_27_0, f_27_1, f_27_2, f_27_3, f_27_4, f_27_5, f_27_6, t_28, l_28, t_29, l_29, t_30, l_30, t_31, l_31, t_32, l_32, t_33, l_33, t_34, l_34, t_35, f_35_0, f_35_1, t_36, l_36, t_37, l_37, t_38, f_38_0, f_38_1, t_39, l_39, t_40, l_40, t_41, f_41_0, t_42, l_42, t_43, f_43_0, t_44, l_44, t_45, f_45_0, f_45_1, f_45_2, f_45_3, t_46, l_46, t_47, l_47, t_48, l_48, t_49, l_49, t_50, l_50, t_51, f_51_0, f_51_1, f_51_2, f_51_3, t_52, l_52, t_53, l_53, t_54, f_54_0, f_54_1, f_54_2, f_54_3, t_55, l_55, t_56, l_56, t_57, f_57_0, f_57_1, f_57_2, f_57_3, t_58, l_58, t_59, l_59, t_60, l_60, t_61, f_61_0, f_61_1, f_61_2, f_61_3, f_61_4, f_61_5, f_61_6, t_62, l_62, t_63, f_63_0, f_63_1, t_64, l_64, t_65, l_65, t_66, f_66_0, f_66_1, t_67, l_67, t_68, l_68, t_69, l_69, t_70, f_70_0, f_70_1, t_1, l_1, t_2, l_2, m_t, m_f0, m_f1, m_f2, m_f3, m_t1, m_l1, m_t2, m_l2, rowX_s, rowX_n, rowX_f, rowX_2, up_s, up_n, Nat.zero_add, n_m1, i_dec, cat_n, cat_i, cat_r, cat_l, i_add, i_tn, i_vi, i_lt, i_eq, i_shl, n_ltT, n_ltF, n_eqT, n_eqF, n_leT, t_and, nb_0, nb_1, b2_0, b2_n, cont_v, cont_n, ex_eq, u_s, u_c, u_j, ↓reduceIte, ite_not, not_true_eq_false, not_false_eq_true, Bool.false_eq_true, Bool.true_eq_false, false_and, true_and, and_false, and_true, or_self, or_false, false_or, or_true, true_or, cont_x, n_leF, c_1, c93f hS (by omega : x < 4096) hf, c71 hS hB, he, h0, i_and])
    · simp only [he, decide_false, Bool.false_eq_true, if_false]
      (rw [k78_20]; simp (disch := first | assumption | omega) only [in78, k78_0, k78_1, k78_2, k78_3, k78_5, k78_6, k78_8, k78_9, k78_12, k78_14, k78_15, k78_17, k78_18, k78_22, k78_24, k78_27, k78_28, k78_31, k78_33, k78_36, k78_37, k78_40, k78_41, k78_44, k78_46, k78_49, k78_51, k78_53, k78_55, k78_57, k78_58, k78_60, k78_63, k78_65, k78_66, k78_69, k78_71, k78_74, k78_77, k78_78, k78_78r, k78_79, k78_82, k78_83, k78_84, k78_87, k78_88, k78_88r, k78_89, k78_92, k78_94, k78_95, k78_98, k78_99, k78_99r, k78_100, k78_103, k78_105, k78_106, k78_109, c_0, c_1, hS, t_16, f_16_0, f_16_1, f_16_2, f_16_3, f_16_4, f_16_5, f_16_6, f_16_7, f_16_8, f_16_9, f_16_10, f_16_11, f_16_12, f_16_13, t_17, f_17_0, t_18, l_18, t_19, f_19_0, f_19_1, f_19_2, f_19_3, f_19_4, f_19_5, f_19_6, t_20, l_20, t_21, l_21, t_22, l_22, t_23, l_23, t_24, l_24, t_25, l_25, t_26, l_26, t_27, f_27_0, f_27_1, f_27_2, f_27_3, f_27_4, f_27_5, f_27_6, t_28, l_28, t_29, l_29, t_30, l_30, t_31, l_31, t_32, l_32, t_33, l_33, t_34, l_34, t_35, f_35_0, f_35_1, t_36, l_36, t_37, l_37, t_38, f_38_0, f_38_1, t_39, l_39, t_40, l_40, t_41, f_41_0, t_42, l_42, t_43, f_43_0, t_44, l_44, t_45, f_45_0, f_45_1, f_45_2, f_45_3, t_46, l_46, t_47, l_47, t_48, l_48, t_49, l_49, t_50, l_50, t_51, f_51_0, f_51_1, f_51_2, f_51_3, t_52, l_52, t_53, l_53, t_54, f_54_0, f_54_1, f_54_2, f_54_3, t_55, l_55, t_56, l_56, t_57, f_57_0, f_57_1, f_57_2, f_57_3, t_58, l_58, t_59, l_59, t_60, l_60, t_61, f_61_0, f_61_1, f_61_2, f_61_3, f_61_4, f_61_5, f_61_6, t_62, l_62, t_63, f_63_0, f_63_1, t_64, l_64, t_65, l_65, t_66, f_66_0, f_66_1, t_67, l_67, t_68, l_68, t_69, l_69, t_70, f_70_0, f_70_1, t_1, l_1, t_2, l_2, m_t, m_f0, m_f1, m_f2, m_f3, m_t1, m_l1, m_t2, m_l2, rowX_s, rowX_n, rowX_f, rowX_2, up_s, up_n, Nat.zero_add, n_m1, i_dec, cat_n, cat_i, cat_r, cat_l, i_add, i_tn, i_vi, i_lt, i_eq, i_shl, n_ltT, n_ltF, n_eqT, n_eqF, n_leT, t_and, nb_0, nb_1, b2_0, b2_n, cont_v, cont_n, ex_eq, u_s, u_c, u_j, ↓reduceIte, ite_not, not_true_eq_false, not_false_eq_true, Bool.false_eq_true, Bool.true_eq_false, false_and, true_and, and_false, and_true, or_self, or_false, false_or, or_true, true_or, cont_x, n_leF, c_1, c93f hS (by omega : x < 4096) hf, c71 hS hB, he]))
  generalize goF B (st3 (fun s => decide (wsum f s = v))) (0, 0, B) (B + 1) = s at *
  obtain ⟨s1, s2, s3⟩ := s
  refine Iff.trans ?_ (lp.trans ?_)
  · simp (disch := first | assumption | omega) only [in78, k78_0, k78_1, k78_2, k78_3, k78_5, k78_6, k78_8, k78_9, k78_12, k78_14, k78_15, k78_17, k78_18, k78_22, k78_24, k78_27, k78_28, k78_31, k78_33, k78_36, k78_37, k78_40, k78_41, k78_44, k78_46, k78_49, k78_51, k78_53, k78_55, k78_57, k78_58, k78_60, k78_63, k78_65, k78_66, k78_69, k78_71, k78_74, k78_77, k78_78, k78_78r, k78_79, k78_82, k78_83, k78_84, k78_87, k78_88, k78_88r, k78_89, k78_92, k78_94, k78_95, k78_98, k78_99, k78_99r, k78_100, k78_103, k78_105, k78_106, k78_109, c_0, c_1, hS, t_16, f_16_0, f_16_1, f_16_2, f_16_3, f_16_4, f_16_5, f_16_6, f_16_7, f_16_8, f_16_9, f_16_10, f_16_11, f_16_12, f_16_13, t_17, f_17_0, t_18, l_18, t_19, f_19_0, f_19_1, f_19_2, f_19_3, f_19_4, f_19_5, f_19_6, t_20, l_20, t_21, l_21, t_22, l_22, t_23, l_23, t_24, l_24, t_25, l_25, t_26, l_26, t_27, f_27_0, f_27_1, f_27_2, f_27_3, f_27_4, f_27_5, f_27_6, t_28, l_28, t_29, l_29, t_30, l_30, t_31, l_31, t_32, l_32, t_33, l_33, t_34, l_34, t_35, f_35_0, f_35_1, t_36, l_36, t_37, l_37, t_38, f_38_0, f_38_1, t_39, l_39, t_40, l_40, t_41, f_41_0, t_42, l_42, t_43, f_43_0, t_44, l_44, t_45, f_45_0, f_45_1, f_45_2, f_45_3, t_46, l_46, t_47, l_47, t_48, l_48, t_49, l_49, t_50, l_50, t_51, f_51_0, f_51_1, f_51_2, f_51_3, t_52, l_52, t_53, l_53, t_54, f_54_0, f_54_1, f_54_2, f_54_3, t_55, l_55, t_56, l_56, t_57, f_57_0, f_57_1, f_57_2, f_57_3, t_58, l_58, t_59, l_59, t_60, l_60, t_61, f_61_0, f_61_1, f_61_2, f_61_3, f_61_4, f_61_5, f_61_6, t_62, l_62, t_63, f_63_0, f_63_1, t_64, l_64, t_65, l_65, t_66, f_66_0, f_66_1, t_67, l_67, t_68, l_68, t_69, l_69, t_70, f_70_0, f_70_1, t_1, l_1, t_2, l_2, m_t, m_f0, m_f1, m_f2, m_f3, m_t1, m_l1, m_t2, m_l2, rowX_s, rowX_n, rowX_f, rowX_2, up_s, up_n, Nat.zero_add, n_m1, i_dec, cat_n, cat_i, cat_r, cat_l, i_add, i_tn, i_vi, i_lt, i_eq, i_shl, n_ltT, n_ltF, n_eqT, n_eqF, n_leT, t_and, nb_0, nb_1, b2_0, b2_n, cont_v, cont_n, ex_eq, u_s, u_c, u_j, ↓reduceIte, ite_not, not_true_eq_false, not_false_eq_true, Bool.false_eq_true, Bool.true_eq_false, false_and, true_and, and_false, and_true, or_self, or_false, false_or, or_true, true_or, cont_x, n_leF, c_1, c70 hS hB]
  · (rw [k78_20]; simp (disch := first | assumption | omega) only [in78, k78_0, k78_1, k78_2, k78_3, k78_5, k78_6, k78_8, k78_9, k78_12, k78_14, k78_15, k78_17, k78_18, k78_22, k78_24, k78_27, k78_28, k78_31, k78_33, k78_36, k78_37, k78_40, k78_41, k78_44, k78_46, k78_49, k78_51, k78_53, k78_55, k78_57, k78_58, k78_60, k78_63, k78_65, k78_66, k78_69, k78_71, k78_74, k78_77, k78_78, k78_78r, k78_79, k78_82, k78_83, k78_84, k78_87, k78_88, k78_88r, k78_89, k78_92, k78_94, k78_95, k78_98, k78_99, k78_99r, k78_100, k78_103, k78_105, k78_106, k78_109, c_0, c_1, hS, t_16, f_16_0, f_16_1, f_16_2, f_16_3, f_16_4, f_16_5, f_16_6, f_16_7, f_16_8, f_16_9, f_16_10, f_16_11, f_16_12, f_16_13, t_17, f_17_0, t_18, l_18, t_19, f_19_0, f_19_1, f_19_2, f_19_3, f_19_4, f_19_5, f_19_6, t_20, l_20, t_21, l_21, t_22, l_22, t_23, l_23, t_24, l_24, t_25, l_25, t_26, l_26, t_27, f_27_0, f_27_1, f_27_2, f_27_3, f_27_4, f_27_5, f_27_6, t_28, l_28, t_29, l_29, t_30, l_30, t_31, l_31, t_32, l_32, t_33, l_33, t_34, l_34, t_35, f_35_0, f_35_1, t_36, l_36, t_37, l_37, t_38, f_38_0, f_38_1, t_39, l_39, t_40, l_40, t_41, f_41_0, t_42, l_42, t_43, f_43_0, t_44, l_44, t_45, f_45_0, f_45_1, f_45_2, f_45_3, t_46, l_46, t_47, l_47, t_48, l_48, t_49, l_49, t_50, l_50, t_51, f_51_0, f_51_1, f_51_2, f_51_3, t_52, l_52, t_53, l_53, t_54, f_54_0, f_54_1, f_54_2, f_54_3, t_55, l_55, t_56, l_56, t_57, f_57_0, f_57_1, f_57_2, f_57_3, t_58, l_58, t_59, l_59, t_60, l_60, t_61, f_61_0, f_61_1, f_61_2, f_61_3, f_61_4, f_61_5, f_61_6, t_62, l_62, t_63, f_63_0, f_63_1, t_64, l_64, t_65, l_65, t_66, f_66_0, f_66_1, t_67, l_67, t_68, l_68, t_69, l_69, t_70, f_70_0, f_70_1, t_1, l_1, t_2, l_2, m_t, m_f0, m_f1, m_f2, m_f3, m_t1, m_l1, m_t2, m_l2, rowX_s, rowX_n, rowX_f, rowX_2, up_s, up_n, Nat.zero_add, n_m1, i_dec, cat_n, cat_i, cat_r, cat_l, i_add, i_tn, i_vi, i_lt, i_eq, i_shl, n_ltT, n_ltF, n_eqT, n_eqF, n_leT, t_and, nb_0, nb_1, b2_0, b2_n, cont_v, cont_n, ex_eq, u_s, u_c, u_j, ↓reduceIte, ite_not, not_true_eq_false, not_false_eq_true, Bool.false_eq_true, Bool.true_eq_false, false_and, true_and, and_false, and_true, or_self, or_false, false_or, or_true, true_or, cont_x, n_leF, c_1, h7, h8, h9, i_mul, i_or])
theorem c3b {d n : Nat} {I : VI} {L : VL} {S : SW} {r : Res} (hS : S.1 = W0 n) {bh : Nat → Nat} {k h : Nat} (h1 : I 41 1 = i32 (bitsN 6 (lst bh k))) (hh : h < 6) : EvD (d + 1) 3 [.ref 41, .int (i32 h)] I L S r ↔ r = (.inl (some (.int (b2 (lst bh k h = true)))), I, L, S) := by
  have e : (i32 (bitsN 6 (lst bh k)) &&& i32 (2 ^ h) = i32 0) = ¬ (lst bh k h = true) := by
    rw [i_bt (by omega)]
    exact propext ⟨fun z w => z ⟨hh, w⟩, fun z w => z w.2⟩
  by_cases hl : lst bh k h = true
  · simp (disch := first | assumption | omega) only [in3, k3_0, k3_1, k3_4, k3_5, k3_6, k3_7, k3_8, k3_11, k3_12, k3_15, k3_16, c_0, c_1, c_31, hS, t_16, f_16_0, f_16_1, f_16_2, f_16_3, f_16_4, f_16_5, f_16_6, f_16_7, f_16_8, f_16_9, f_16_10, f_16_11, f_16_12, f_16_13, t_17, f_17_0, t_18, l_18, t_19, f_19_0, f_19_1, f_19_2, f_19_3, f_19_4, f_19_5, f_19_6, t_20, l_20, t_21, l_21, t_22, l_22, t_23, l_23, t_24, l_24, t_25, l_25, t_26, l_26, t_27, f_27_0, f_27_1, f_27_2, f_27_3, f_27_4, f_27_5, f_27_6, t_28, l_28, t_29, l_29, t_30, l_30, t_31, l_31, t_32, l_32, t_33, l_33, t_34, l_34, t_35, f_35_0, f_35_1, t_36, l_36, t_37, l_37, t_38, f_38_0, f_38_1, t_39, l_39, t_40, l_40, t_41, f_41_0, t_42, l_42, t_43, f_43_0, t_44, l_44, t_45, f_45_0, f_45_1, f_45_2, f_45_3, t_46, l_46, t_47, l_47, t_48, l_48, t_49, l_49, t_50, l_50, t_51, f_51_0, f_51_1, f_51_2, f_51_3, t_52, l_52, t_53, l_53, t_54, f_54_0, f_54_1, f_54_2, f_54_3, t_55, l_55, t_56, l_56, t_57, f_57_0, f_57_1, f_57_2, f_57_3, t_58, l_58, t_59, l_59, t_60, l_60, t_61, f_61_0, f_61_1, f_61_2, f_61_3, f_61_4, f_61_5, f_61_6, t_62, l_62, t_63, f_63_0, f_63_1, t_64, l_64, t_65, l_65, t_66, f_66_0, f_66_1, t_67, l_67, t_68, l_68, t_69, l_69, t_70, f_70_0, f_70_1, t_1, l_1, t_2, l_2, m_t, m_f0, m_f1, m_f2, m_f3, m_t1, m_l1, m_t2, m_l2, rowX_s, rowX_n, rowX_f, rowX_2, up_s, up_n, Nat.zero_add, n_m1, i_dec, cat_n, cat_i, cat_r, cat_l, i_add, i_tn, i_vi, i_lt, i_eq, i_shl, n_ltT, n_ltF, n_eqT, n_eqF, n_leT, t_and, nb_0, nb_1, b2_0, b2_n, cont_v, cont_n, ex_eq, u_s, u_c, u_j, ↓reduceIte, ite_not, not_true_eq_false, not_false_eq_true, Bool.false_eq_true, Bool.true_eq_false, false_and, true_and, and_false, and_true, or_self, or_false, false_or, or_true, true_or, cont_x, n_leF, c_1, c_31, h1, e, hl, b2]
  · simp (disch := first | assumption | omega) only [in3, k3_0, k3_1, k3_4, k3_5, k3_6, k3_7, k3_8, k3_11, k3_12, k3_15, k3_16, c_0, c_1, c_31, hS, t_16, f_16_0, f_16_1, f_16_2, f_16_3, f_16_4, f_16_5, f_16_6, f_16_7, f_16_8, f_16_9, f_16_10, f_16_11, f_16_12, f_16_13, t_17, f_17_0, t_18, l_18, t_19, f_19_0, f_19_1, f_19_2, f_19_3, f_19_4, f_19_5, f_19_6, t_20, l_20, t_21, l_21, t_22, l_22, t_23, l_23, t_24, l_24, t_25, l_25, t_26, l_26, t_27, f_27_0, f_27_1, f_27_2, f_27_3, f_27_4, f_27_5, f_27_6, t_28, l_28, t_29, l_29, t_30, l_30, t_31, l_31, t_32, l_32, t_33, l_33, t_34, l_34, t_35, f_35_0, f_35_1, t_36, l_36, t_37, l_37, t_38, f_38_0, f_38_1, t_39, l_39, t_40, l_40, t_41, f_41_0, t_42, l_42, t_43, f_43_0, t_44, l_44, t_45, f_45_0, f_45_1, f_45_2, f_45_3, t_46, l_46, t_47, l_47, t_48, l_48, t_49, l_49, t_50, l_50, t_51, f_51_0, f_51_1, f_51_2, f_51_3, t_52, l_52, t_53, l_53, t_54, f_54_0, f_54_1, f_54_2, f_54_3, t_55, l_55, t_56, l_56, t_57, f_57_0, f_57_1, f_57_2, f_57_3, t_58, l_58, t_59, l_59, t_60, l_60, t_61, f_61_0, f_61_1, f_61_2, f_61_3, f_61_4, f_61_5, f_61_6, t_62, l_62, t_63, f_63_0, f_63_1, t_64, l_64, t_65, l_65, t_66, f_66_0, f_66_1, t_67, l_67, t_68, l_68, t_69, l_69, t_70, f_70_0, f_70_1, t_1, l_1, t_2, l_2, m_t, m_f0, m_f1, m_f2, m_f3, m_t1, m_l1, m_t2, m_l2, rowX_s, rowX_n, rowX_f, rowX_2, up_s, up_n, Nat.zero_add, n_m1, i_dec, cat_n, cat_i, cat_r, cat_l, i_add, i_tn, i_vi, i_lt, i_eq, i_shl, n_ltT, n_ltF, n_eqT, n_eqF, n_leT, t_and, nb_0, nb_1, b2_0, b2_n, cont_v, cont_n, ex_eq, u_s, u_c, u_j, ↓reduceIte, ite_not, not_true_eq_false, not_false_eq_true, Bool.false_eq_true, Bool.true_eq_false, false_and, true_and, and_false, and_true, or_self, or_false, false_or, or_true, true_or, cont_x, n_leF, c_1, c_31, h1, e, hl, b2]
/-- the debts of one house that are there -/
def AhN (nd : Nat) (g : Nat → Int32) (db : Nat → Nat) (h : Nat) : Nat := bitsN nd (fun k => thr nd g k && decide (db k = h))
theorem Ah_t {nd : Nat} {g : Nat → Int32} {db : Nat → Nat} {h k : Nat} : (AhN nd g db h).testBit k = (decide (k < nd) && (thr nd g k && decide (db k = h))) := bits_test
theorem UA_t {nd : Nat} {g : Nat → Int32} {db : Nat → Nat} {k : Nat} : ∀ j, (UA (AhN nd g db) j).testBit k = (decide (k < nd) && (thr nd g k && decide (db k < j))) := by
  intro j
  induction j with
  | zero => rw [UA, Nat.zero_testBit]; simp
  | succ j ih =>
    rw [UA, Nat.testBit_or, ih, Ah_t]
    by_cases h1 : k < nd <;> cases h2 : thr nd g k <;> simp [h1]
    by_cases h3 : db k = j
    · simp [h3]
    · have : (db k < j + 1) ↔ db k < j := by omega
      simp [h3, this]
theorem UA_A {nd nh : Nat} {g : Nat → Int32} {db : Nat → Nat} (hb : ∀ k, k < nd → db k < nh) : UA (AhN nd g db) nh = bitsN nd (thr nd g) := by
  apply Nat.eq_of_testBit_eq
  intro k
  rw [UA_t, bits_test]
  by_cases h1 : k < nd
  · simp [h1, hb k h1]
  · simp [h1]
theorem UA_d {nd : Nat} {g : Nat → Int32} {db : Nat → Nat} (h : Nat) : UA (AhN nd g db) h &&& AhN nd g db h = 0 := by
  apply Nat.eq_of_testBit_eq
  intro k
  rw [Nat.testBit_and, UA_t, Ah_t, Nat.zero_testBit]
  by_cases e : db k = h
  · simp [e]
  · simp [e]
section Gr
variable {I : VI} {nh nd nL nw ni nf sz : Nat} {db cr bh bv : Nat → Nat} {q : Nat → Nat × Nat} {lw : (Nat → Int32) → Int32}
def gIs (K : VI) (s : Nat × Nat × Nat) : VI := u2 (u2 (u2 K 61 7 (i32 s.1)) 61 8 (i32 s.2.1)) 61 9 (i32 s.2.2)
theorem gI_n {K : VI} {s : Nat × Nat × Nat} {c j : Nat} (h : c ≠ 61) : gIs K s c j = K c j := by unfold gIs; rw [u_c h, u_c h, u_c h]
theorem gI_2 {K : VI} {s t : Nat × Nat × Nat} : gIs (gIs K s) t = gIs K t := by
  funext c j
  unfold gIs
  by_cases h : c = 61
  · subst h
    by_cases h7 : j = 7
    · subst h7; simp (disch := omega) only [u_j, u_s]
    · by_cases h8 : j = 8
      · subst h8; simp (disch := omega) only [u_j, u_s]
      · by_cases h9 : j = 9
        · subst h9; simp (disch := omega) only [u_j, u_s]
        · simp (disch := omega) only [u_j]
  · simp (disch := omega) only [u_c]
/-- the search -/
theorem p77 {d n : Nat} {L : VL} {S : SW} (hS : S.1 = W0 n) (hI : InvP I nh nd db cr q sz lw nL bh bv nw ni nf) : ∃ K s, s = hs3 (AhN nd (I 536) db) (lst bh nL) (fun h x => decide (wsum (FL I nd q sz db cr) x = I 42 h)) nh ∧ (∀ c j, (c ≠ 61 ∧ c ≠ 62 ∧ (c = 64 → j = 0) ∧ (c = 65 → j = 0) ∧ c ≠ 37 ∧ c ≠ 53 ∧ c ≠ 56 ∧ c ≠ 453 ∧ c ≠ 454) → K c j = I c j) ∧ (∀ k, k < 64 → K 64 k = hs (FL I nd q sz db cr) k ∧ K 65 k = hs (fun k => FL I nd q sz db cr (6 + k)) k) ∧ K 61 7 = i32 s.1 ∧ (K 61 8 = if s.1 = 0 then m1 else i32 s.2.1) ∧ (K 61 9 = if s.1 = 0 then i32 0 else i32 s.2.2) ∧ ∀ r, EvD (d + 7) 77 [.ref 61] I L S r ↔ r = (.inl none, K, L, S) := by
  obtain ⟨⟨⟨hh, hd, _, _⟩, ⟨h6, h12⟩, _, hde⟩, _, hR, ⟨⟨_, _, hL6, hB1⟩, _, _⟩, _⟩ := id hI
  obtain ⟨I1, k1, kf, h68⟩ := p68 (d := d) (L := L) hS hI
  obtain ⟨f, hf⟩ : ∃ f, FL I nd q sz db cr = f := ⟨_, rfl⟩
  rw [hf] at kf ⊢
  obtain ⟨Ah, hAh⟩ : ∃ Ah, AhN nd (I 536) db = Ah := ⟨_, rfl⟩
  have hA : ∀ h, Ah h < 4096 := fun h => by rw [← hAh]; exact bits_4096 h12
  obtain ⟨PV, hPV⟩ : ∃ PV : Nat → Nat → Bool, (fun h x => decide (wsum f x = I 42 h)) = PV := ⟨_, rfl⟩
  rw [hAh, hPV]
  have K1 : ∀ s c j, c ≠ 61 → gIs I1 s c j = I1 c j := fun s c j h => gI_n h
  have g7 : ∀ s, gIs I1 s 61 7 = i32 s.1 := fun s => by unfold gIs; rw [u_j (by omega), u_j (by omega), u_s]
  have g8 : ∀ s, gIs I1 s 61 8 = i32 s.2.1 := fun s => by unfold gIs; rw [u_j (by omega), u_s]
  have g9 : ∀ s, gIs I1 s 61 9 = i32 s.2.2 := fun s => by unfold gIs; rw [u_s]
  have gh : ∀ s, gIs I1 s 19 7 = i32 nh := fun s => by rw [gI_n (by omega), k1 _ _ (by omega)]; exact hh
  have gd : ∀ s, gIs I1 s 19 8 = i32 nd := fun s => by rw [gI_n (by omega), k1 _ _ (by omega)]; exact hd
  have g41 : ∀ s, gIs I1 s 41 1 = i32 (bitsN 6 (lst bh nL)) := fun s => by rw [gI_n (by omega), k1 _ _ (by omega)]; exact hB1
  have gT : ∀ s, gIs I1 s 52 2 = i32 (bitsN nd (thr nd (fun d => gIs I1 s 52 (21 + d)))) := fun s => by
    have e : (fun d => gIs I1 s 52 (21 + d)) = fun d => I 52 (21 + d) := funext fun d => by rw [gI_n (by omega), k1 _ _ (by omega)]
    rw [e, gI_n (by omega), k1 _ _ (by omega)]; exact hR.1.2.2
  have gA : ∀ s h, h < nh → bitsN nd (fun k => thr nd (fun d => gIs I1 s 52 (21 + d)) k && decide (gIs I1 s 23 k = i32 h)) = Ah h := fun s h hh' => by
    rw [← hAh]
    unfold AhN
    refine bits_congr fun k hk => ?_
    have e : (fun d => gIs I1 s 52 (21 + d)) = fun d => I 52 (21 + d) := funext fun d => by rw [gI_n (by omega), k1 _ _ (by omega)]
    have hdk := (hde k hk).1
    rw [e, rw_thr hR, gI_n (by omega), k1 _ _ (by omega), hdk.1]
    have e2 : (i32 (db k) = i32 h) = (db k = h) := i_eq (by omega) (by omega)
    simp only [e2]
  have gf : ∀ s k, k < 64 → gIs I1 s 64 k = hs f k ∧ gIs I1 s 65 k = hs (fun k => f (6 + k)) k := fun s k hk => by
    rw [gI_n (by omega), gI_n (by omega)]; exact kf k hk
  have g42 : ∀ s h, gIs I1 s 42 h = I 42 h := fun s h => by rw [gI_n (by omega), k1 _ _ (by omega)]
  have run := fun r => up_to (P := fun h => Ev (d + 6) 77 21 [.ref 61, .int (i32 h)] [] (gIs I1 (hs3 Ah (lst bh nL) PV h)) L S r) (n := nh) (fun h hlt => by
    have hA' := hA h
    rw [hs3]
    generalize hs3 Ah (lst bh nL) PV h = s at *
    by_cases hl : lst bh nL h = true
    · rw [if_pos hl]
      have c78' := fun r => c78 (d := d + 3) (I := gIs I1 s) (L := L) (r := r) (v := I 42 h) hS hA' (gf s) (g7 s) (g8 s) (g9 s)
      have ePV : (fun x => decide (wsum f x = I 42 h)) = PV h := by rw [← hPV]
      rw [ePV] at c78'
      generalize goF (Ah h) (st3 (PV h)) (0, 0, Ah h) (Ah h + 1) = t at *
      have eM : u2 (u2 (u2 (gIs I1 s) 61 7 (i32 (s.1 * t.1))) 61 8 (i32 (s.2.1 ||| t.2.1))) 61 9 (i32 (s.2.2 ||| t.2.2)) = gIs I1 (s.1 * t.1, s.2.1 ||| t.2.1, s.2.2 ||| t.2.2) := gI_2 (K := I1) (s := s) (t := (s.1 * t.1, s.2.1 ||| t.2.1, s.2.2 ||| t.2.2))
      rw [eM] at c78'
      (rw [k77_21]; simp (disch := first | assumption | omega) only [in77, k77_0, k77_1, k77_4, k77_5, k77_6, k77_9, k77_10, k77_11, k77_14, k77_15, k77_16, k77_19, k77_20, k77_22, k77_23, k77_26, k77_29, k77_32, k77_33, k77_36, k77_37, k77_40, k77_43, k77_44, k77_45, k77_48, k77_49, k77_52, k77_53, k77_56, k77_59, k77_60, k77_61, k77_64, k77_67, k77_68, k77_68r, k77_69, k77_72, k77_73, k77_76, k77_77, k77_80, k77_83, k77_84, k77_87, k77_90, k77_93, k77_94, k77_97, k77_100, k77_101, k77_102, k77_105, k77_106, k77_107, k77_110, c_0, c_1, hS, t_16, f_16_0, f_16_1, f_16_2, f_16_3, f_16_4, f_16_5, f_16_6, f_16_7, f_16_8, f_16_9, f_16_10, f_16_11, f_16_12, f_16_13, t_17, f_17_0, t_18, l_18, t_19, f_19_0, f_19_1, f_19_2, f_19_3, f_19_4, f_19_5, f_19_6, t_20, l_20, t_21, l_21, t_22, l_22, t_23, l_23, t_24, l_24, t_25, l_25, t_26, l_26, t_27, f_27_0, f_27_1, f_27_2, f_27_3, f_27_4, f_27_5, f_27_6, t_28, l_28, t_29, l_29, t_30, l_30, t_31, l_31, t_32, l_32, t_33, l_33, t_34, l_34, t_35, f_35_0, f_35_1, t_36, l_36, t_37, l_37, t_38, f_38_0, f_38_1, t_39, l_39, t_40, l_40, t_41, f_41_0, t_42, l_42, t_43, f_43_0, t_44, l_44, t_45, f_45_0, f_45_1, f_45_2, f_45_3, t_46, l_46, t_47, l_47, t_48, l_48, t_49, l_49, t_50, l_50, t_51, f_51_0, f_51_1, f_51_2, f_51_3, t_52, l_52, t_53, l_53, t_54, f_54_0, f_54_1, f_54_2, f_54_3, t_55, l_55, t_56, l_56, t_57, f_57_0, f_57_1, f_57_2, f_57_3, t_58, l_58, t_59, l_59, t_60, l_60, t_61, f_61_0, f_61_1, f_61_2, f_61_3, f_61_4, f_61_5, f_61_6, t_62, l_62, t_63, f_63_0, f_63_1, t_64, l_64, t_65, l_65, t_66, f_66_0, f_66_1, t_67, l_67, t_68, l_68, t_69, l_69, t_70, f_70_0, f_70_1, t_1, l_1, t_2, l_2, m_t, m_f0, m_f1, m_f2, m_f3, m_t1, m_l1, m_t2, m_l2, rowX_s, rowX_n, rowX_f, rowX_2, up_s, up_n, Nat.zero_add, n_m1, i_dec, cat_n, cat_i, cat_r, cat_l, i_add, i_tn, i_vi, i_lt, i_eq, i_shl, n_ltT, n_ltF, n_eqT, n_eqF, n_leT, t_and, nb_0, nb_1, b2_0, b2_n, cont_v, cont_n, ex_eq, u_s, u_c, u_j, ↓reduceIte, ite_not, not_true_eq_false, not_false_eq_true, Bool.false_eq_true, Bool.true_eq_false, false_and, true_and, and_false, and_true, or_self, or_false, false_or, or_true, true_or, cont_x, n_leF, c_1, gh s, c3b hS (g41 s), hl, n49 hS (gh s) (gd s) h6 h12 (gT s), gA s h hlt, g42 s h, c78', b2])
    · rw [if_neg hl]
      have eM : u2 (gIs I1 s) 61 7 (i32 (s.1 * 2 ^ popc (Ah h))) = gIs I1 (s.1 * 2 ^ popc (Ah h), s.2.1, s.2.2) := by
        funext c j
        unfold gIs
        by_cases e : c = 61
        · subst e
          by_cases h7 : j = 7
          · subst h7; simp (disch := omega) only [u_j, u_s]
          · by_cases h8 : j = 8
            · subst h8; simp (disch := omega) only [u_j, u_s]
            · by_cases h9 : j = 9
              · subst h9; simp (disch := omega) only [u_j, u_s]
              · simp (disch := omega) only [u_j]
        · simp (disch := omega) only [u_c]
      (rw [k77_21]; simp (disch := first | assumption | omega) only [in77, k77_0, k77_1, k77_4, k77_5, k77_6, k77_9, k77_10, k77_11, k77_14, k77_15, k77_16, k77_19, k77_20, k77_22, k77_23, k77_26, k77_29, k77_32, k77_33, k77_36, k77_37, k77_40, k77_43, k77_44, k77_45, k77_48, k77_49, k77_52, k77_53, k77_56, k77_59, k77_60, k77_61, k77_64, k77_67, k77_68, k77_68r, k77_69, k77_72, k77_73, k77_76, k77_77, k77_80, k77_83, k77_84, k77_87, k77_90, k77_93, k77_94, k77_97, k77_100, k77_101, k77_102, k77_105, k77_106, k77_107, k77_110, c_0, c_1, hS, t_16, f_16_0, f_16_1, f_16_2, f_16_3, f_16_4, f_16_5, f_16_6, f_16_7, f_16_8, f_16_9, f_16_10, f_16_11, f_16_12, f_16_13, t_17, f_17_0, t_18, l_18, t_19, f_19_0, f_19_1, f_19_2, f_19_3, f_19_4, f_19_5, f_19_6, t_20, l_20, t_21, l_21, t_22, l_22, t_23, l_23, t_24, l_24, t_25, l_25, t_26, l_26, t_27, f_27_0, f_27_1, f_27_2, f_27_3, f_27_4, f_27_5, f_27_6, t_28, l_28, t_29, l_29, t_30, l_30, t_31, l_31, t_32, l_32, t_33, l_33, t_34, l_34, t_35, f_35_0, f_35_1, t_36, l_36, t_37, l_37, t_38, f_38_0, f_38_1, t_39, l_39, t_40, l_40, t_41, f_41_0, t_42, l_42, t_43, f_43_0, t_44, l_44, t_45, f_45_0, f_45_1, f_45_2, f_45_3, t_46, l_46, t_47, l_47, t_48, l_48, t_49, l_49, t_50, l_50, t_51, f_51_0, f_51_1, f_51_2, f_51_3, t_52, l_52, t_53, l_53, t_54, f_54_0, f_54_1, f_54_2, f_54_3, t_55, l_55, t_56, l_56, t_57, f_57_0, f_57_1, f_57_2, f_57_3, t_58, l_58, t_59, l_59, t_60, l_60, t_61, f_61_0, f_61_1, f_61_2, f_61_3, f_61_4, f_61_5, f_61_6, t_62, l_62, t_63, f_63_0, f_63_1, t_64, l_64, t_65, l_65, t_66, f_66_0, f_66_1, t_67, l_67, t_68, l_68, t_69, l_69, t_70, f_70_0, f_70_1, t_1, l_1, t_2, l_2, m_t, m_f0, m_f1, m_f2, m_f3, m_t1, m_l1, m_t2, m_l2, rowX_s, rowX_n, rowX_f, rowX_2, up_s, up_n, Nat.zero_add, n_m1, i_dec, cat_n, cat_i, cat_r, cat_l, i_add, i_tn, i_vi, i_lt, i_eq, i_shl, n_ltT, n_ltF, n_eqT, n_eqF, n_leT, t_and, nb_0, nb_1, b2_0, b2_n, cont_v, cont_n, ex_eq, u_s, u_c, u_j, ↓reduceIte, ite_not, not_true_eq_false, not_false_eq_true, Bool.false_eq_true, Bool.true_eq_false, false_and, true_and, and_false, and_true, or_self, or_false, false_or, or_true, true_or, cont_x, n_leF, c_1, gh s, c3b hS (g41 s), hl, n49 hS (gh s) (gd s) h6 h12 (gT s), gA s h hlt, g7 s, c70 hS hA', i_mul, eM, b2])) 0 (Nat.zero_le _)
  obtain ⟨s, hs⟩ : ∃ s, hs3 Ah (lst bh nL) PV nh = s := ⟨_, rfl⟩
  rw [hs] at run ⊢
  have e0 : hs3 Ah (lst bh nL) PV 0 = (1, 0, 0) := rfl
  rw [e0] at run
  have hs1 : s.1 ≤ 4096 := by
    have := (hs3_L (li := lst bh nL) (PV := PV) (nh := nh) (fun h _ => hA h) (fun h _ => by rw [← hAh]; exact UA_d h) nh (Nat.le_refl _)).1
    rw [hs] at this
    rw [this]; exact T_le
  have start : ∀ r, EvD (d + 7) 77 [.ref 61] I L S r ↔ Ev (d + 6) 77 21 [.ref 61, .int (i32 0)] [] (gIs I1 (1, 0, 0)) L S r := fun r => by
    have eg : u2 (u2 (u2 I1 61 7 (i32 1)) 61 8 (i32 0)) 61 9 (i32 0) = gIs I1 (1, 0, 0) := rfl
    simp (disch := first | assumption | omega) only [in77, k77_0, k77_1, k77_4, k77_5, k77_6, k77_9, k77_10, k77_11, k77_14, k77_15, k77_16, k77_19, k77_20, k77_22, k77_23, k77_26, k77_29, k77_32, k77_33, k77_36, k77_37, k77_40, k77_43, k77_44, k77_45, k77_48, k77_49, k77_52, k77_53, k77_56, k77_59, k77_60, k77_61, k77_64, k77_67, k77_68, k77_68r, k77_69, k77_72, k77_73, k77_76, k77_77, k77_80, k77_83, k77_84, k77_87, k77_90, k77_93, k77_94, k77_97, k77_100, k77_101, k77_102, k77_105, k77_106, k77_107, k77_110, c_0, c_1, hS, t_16, f_16_0, f_16_1, f_16_2, f_16_3, f_16_4, f_16_5, f_16_6, f_16_7, f_16_8, f_16_9, f_16_10, f_16_11, f_16_12, f_16_13, t_17, f_17_0, t_18, l_18, t_19, f_19_0, f_19_1, f_19_2, f_19_3, f_19_4, f_19_5, f_19_6, t_20, l_20, t_21, l_21, t_22, l_22, t_23, l_23, t_24, l_24, t_25, l_25, t_26, l_26, t_27, f_27_0, f_27_1, f_27_2, f_27_3, f_27_4, f_27_5, f_27_6, t_28, l_28, t_29, l_29, t_30, l_30, t_31, l_31, t_32, l_32, t_33, l_33, t_34, l_34, t_35, f_35_0, f_35_1, t_36, l_36, t_37, l_37, t_38, f_38_0, f_38_1, t_39, l_39, t_40, l_40, t_41, f_41_0, t_42, l_42, t_43, f_43_0, t_44, l_44, t_45, f_45_0, f_45_1, f_45_2, f_45_3, t_46, l_46, t_47, l_47, t_48, l_48, t_49, l_49, t_50, l_50, t_51, f_51_0, f_51_1, f_51_2, f_51_3, t_52, l_52, t_53, l_53, t_54, f_54_0, f_54_1, f_54_2, f_54_3, t_55, l_55, t_56, l_56, t_57, f_57_0, f_57_1, f_57_2, f_57_3, t_58, l_58, t_59, l_59, t_60, l_60, t_61, f_61_0, f_61_1, f_61_2, f_61_3, f_61_4, f_61_5, f_61_6, t_62, l_62, t_63, f_63_0, f_63_1, t_64, l_64, t_65, l_65, t_66, f_66_0, f_66_1, t_67, l_67, t_68, l_68, t_69, l_69, t_70, f_70_0, f_70_1, t_1, l_1, t_2, l_2, m_t, m_f0, m_f1, m_f2, m_f3, m_t1, m_l1, m_t2, m_l2, rowX_s, rowX_n, rowX_f, rowX_2, up_s, up_n, Nat.zero_add, n_m1, i_dec, cat_n, cat_i, cat_r, cat_l, i_add, i_tn, i_vi, i_lt, i_eq, i_shl, n_ltT, n_ltF, n_eqT, n_eqF, n_leT, t_and, nb_0, nb_1, b2_0, b2_n, cont_v, cont_n, ex_eq, u_s, u_c, u_j, ↓reduceIte, ite_not, not_true_eq_false, not_false_eq_true, Bool.false_eq_true, Bool.true_eq_false, false_and, true_and, and_false, and_true, or_self, or_false, false_or, or_true, true_or, cont_x, n_leF, c_1, h68, eg]
  by_cases h0 : s.1 = 0
  · refine ⟨u2 (u2 (gIs I1 s) 61 8 m1) 61 9 (i32 0), s, rfl, fun c j hc => ?_, fun k hk => ?_, ?_, ?_, ?_, fun r => (start r).trans ((run r).trans ?_)⟩
    · rw [u_c (by omega), u_c (by omega), gI_n (by omega)]; exact k1 c j (by omega)
    · rw [u_c (by omega), u_c (by omega), u_c (by omega), u_c (by omega)]; exact gf s k hk
    · rw [u_j (by omega), u_j (by omega)]; exact g7 s
    · rw [if_pos h0, u_j (by omega), u_s]
    · rw [if_pos h0, u_s]
    · (rw [k77_21]; simp (disch := first | assumption | omega) only [in77, k77_0, k77_1, k77_4, k77_5, k77_6, k77_9, k77_10, k77_11, k77_14, k77_15, k77_16, k77_19, k77_20, k77_22, k77_23, k77_26, k77_29, k77_32, k77_33, k77_36, k77_37, k77_40, k77_43, k77_44, k77_45, k77_48, k77_49, k77_52, k77_53, k77_56, k77_59, k77_60, k77_61, k77_64, k77_67, k77_68, k77_68r, k77_69, k77_72, k77_73, k77_76, k77_77, k77_80, k77_83, k77_84, k77_87, k77_90, k77_93, k77_94, k77_97, k77_100, k77_101, k77_102, k77_105, k77_106, k77_107, k77_110, c_0, c_1, hS, t_16, f_16_0, f_16_1, f_16_2, f_16_3, f_16_4, f_16_5, f_16_6, f_16_7, f_16_8, f_16_9, f_16_10, f_16_11, f_16_12, f_16_13, t_17, f_17_0, t_18, l_18, t_19, f_19_0, f_19_1, f_19_2, f_19_3, f_19_4, f_19_5, f_19_6, t_20, l_20, t_21, l_21, t_22, l_22, t_23, l_23, t_24, l_24, t_25, l_25, t_26, l_26, t_27, f_27_0, f_27_1, f_27_2, f_27_3, f_27_4, f_27_5, f_27_6, t_28, l_28, t_29, l_29, t_30, l_30, t_31, l_31, t_32, l_32, t_33, l_33, t_34, l_34, t_35, f_35_0, f_35_1, t_36, l_36, t_37, l_37, t_38, f_38_0, f_38_1, t_39, l_39, t_40, l_40, t_41, f_41_0, t_42, l_42, t_43, f_43_0, t_44, l_44, t_45, f_45_0, f_45_1, f_45_2, f_45_3, t_46, l_46, t_47, l_47, t_48, l_48, t_49, l_49, t_50, l_50, t_51, f_51_0, f_51_1, f_51_2, f_51_3, t_52, l_52, t_53, l_53, t_54, f_54_0, f_54_1, f_54_2, f_54_3, t_55, l_55, t_56, l_56, t_57, f_57_0, f_57_1, f_57_2, f_57_3, t_58, l_58, t_59, l_59, t_60, l_60, t_61, f_61_0, f_61_1, f_61_2, f_61_3, f_61_4, f_61_5, f_61_6, t_62, l_62, t_63, f_63_0, f_63_1, t_64, l_64, t_65, l_65, t_66, f_66_0, f_66_1, t_67, l_67, t_68, l_68, t_69, l_69, t_70, f_70_0, f_70_1, t_1, l_1, t_2, l_2, m_t, m_f0, m_f1, m_f2, m_f3, m_t1, m_l1, m_t2, m_l2, rowX_s, rowX_n, rowX_f, rowX_2, up_s, up_n, Nat.zero_add, n_m1, i_dec, cat_n, cat_i, cat_r, cat_l, i_add, i_tn, i_vi, i_lt, i_eq, i_shl, n_ltT, n_ltF, n_eqT, n_eqF, n_leT, t_and, nb_0, nb_1, b2_0, b2_n, cont_v, cont_n, ex_eq, u_s, u_c, u_j, ↓reduceIte, ite_not, not_true_eq_false, not_false_eq_true, Bool.false_eq_true, Bool.true_eq_false, false_and, true_and, and_false, and_true, or_self, or_false, false_or, or_true, true_or, cont_x, n_leF, c_1, gh s, g7 s, h0])
  · refine ⟨gIs I1 s, s, rfl, fun c j hc => ?_, fun k hk => gf s k hk, g7 s, ?_, ?_, fun r => (start r).trans ((run r).trans ?_)⟩
    · rw [gI_n (by omega)]; exact k1 c j (by omega)
    · rw [if_neg h0]; exact g8 s
    · rw [if_neg h0]; exact g9 s
    · (rw [k77_21]; simp (disch := first | assumption | omega) only [in77, k77_0, k77_1, k77_4, k77_5, k77_6, k77_9, k77_10, k77_11, k77_14, k77_15, k77_16, k77_19, k77_20, k77_22, k77_23, k77_26, k77_29, k77_32, k77_33, k77_36, k77_37, k77_40, k77_43, k77_44, k77_45, k77_48, k77_49, k77_52, k77_53, k77_56, k77_59, k77_60, k77_61, k77_64, k77_67, k77_68, k77_68r, k77_69, k77_72, k77_73, k77_76, k77_77, k77_80, k77_83, k77_84, k77_87, k77_90, k77_93, k77_94, k77_97, k77_100, k77_101, k77_102, k77_105, k77_106, k77_107, k77_110, c_0, c_1, hS, t_16, f_16_0, f_16_1, f_16_2, f_16_3, f_16_4, f_16_5, f_16_6, f_16_7, f_16_8, f_16_9, f_16_10, f_16_11, f_16_12, f_16_13, t_17, f_17_0, t_18, l_18, t_19, f_19_0, f_19_1, f_19_2, f_19_3, f_19_4, f_19_5, f_19_6, t_20, l_20, t_21, l_21, t_22, l_22, t_23, l_23, t_24, l_24, t_25, l_25, t_26, l_26, t_27, f_27_0, f_27_1, f_27_2, f_27_3, f_27_4, f_27_5, f_27_6, t_28, l_28, t_29, l_29, t_30, l_30, t_31, l_31, t_32, l_32, t_33, l_33, t_34, l_34, t_35, f_35_0, f_35_1, t_36, l_36, t_37, l_37, t_38, f_38_0, f_38_1, t_39, l_39, t_40, l_40, t_41, f_41_0, t_42, l_42, t_43, f_43_0, t_44, l_44, t_45, f_45_0, f_45_1, f_45_2, f_45_3, t_46, l_46, t_47, l_47, t_48, l_48, t_49, l_49, t_50, l_50, t_51, f_51_0, f_51_1, f_51_2, f_51_3, t_52, l_52, t_53, l_53, t_54, f_54_0, f_54_1, f_54_2, f_54_3, t_55, l_55, t_56, l_56, t_57, f_57_0, f_57_1, f_57_2, f_57_3, t_58, l_58, t_59, l_59, t_60, l_60, t_61, f_61_0, f_61_1, f_61_2, f_61_3, f_61_4, f_61_5, f_61_6, t_62, l_62, t_63, f_63_0, f_63_1, t_64, l_64, t_65, l_65, t_66, f_66_0, f_66_1, t_67, l_67, t_68, l_68, t_69, l_69, t_70, f_70_0, f_70_1, t_1, l_1, t_2, l_2, m_t, m_f0, m_f1, m_f2, m_f3, m_t1, m_l1, m_t2, m_l2, rowX_s, rowX_n, rowX_f, rowX_2, up_s, up_n, Nat.zero_add, n_m1, i_dec, cat_n, cat_i, cat_r, cat_l, i_add, i_tn, i_vi, i_lt, i_eq, i_shl, n_ltT, n_ltF, n_eqT, n_eqF, n_leT, t_and, nb_0, nb_1, b2_0, b2_n, cont_v, cont_n, ex_eq, u_s, u_c, u_j, ↓reduceIte, ite_not, not_true_eq_false, not_false_eq_true, Bool.false_eq_true, Bool.true_eq_false, false_and, true_and, and_false, and_true, or_self, or_false, false_or, or_true, true_or, cont_x, n_leF, c_1, gh s, g7 s, h0])
end Gr
