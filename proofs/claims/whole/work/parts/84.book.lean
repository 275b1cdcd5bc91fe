/-! THE BOOK: a line of it -/
def updN (f : Nat → Nat) (k x : Nat) : Nat → Nat := fun i => if i = k then x else f i
def bkL (tb : Nat → Nat) (m nh : Nat) (been : Nat → Bool) (p : Nat) : (Nat × Nat × Nat) ⊕ (Nat × Nat) :=
  if ¬ numF tb m (i32 0) (i32 nh - i32 1) p = 0 then .inr (numF tb m (i32 0) (i32 nh - i32 1) p, p)
  else if been (numV tb m p) = true then .inr (2, p)
  else if ¬ numF tb m (i32 0) (i32 999) (sk tb m (dgE tb m p)) = 0 then .inr (numF tb m (i32 0) (i32 999) (sk tb m (dgE tb m p)), sk tb m (dgE tb m p))
  else if sk tb m (dgE tb m (sk tb m (dgE tb m p))) < m ∧ tb (sk tb m (dgE tb m (sk tb m (dgE tb m p)))) = 59 then .inl (numV tb m p, numV tb m (sk tb m (dgE tb m p)), sk tb m (sk tb m (dgE tb m (sk tb m (dgE tb m p))) + 1))
  else .inr (1, sk tb m (dgE tb m (sk tb m (dgE tb m p))))
theorem numF_lt {tb : Nat → Nat} {m p : Nat} {lo hi : Int32} : numF tb m lo hi p < 9 := by unfold numF; (repeat' split) <;> omega
theorem nv_100 {tb : Nat → Nat} {m p : Nat} : numV tb m p ≤ 100000 := nv_le
theorem numF_0 {tb : Nat → Nat} {m p : Nat} {lo hi : Int32} (h : numF tb m lo hi p = 0) : ¬ i32 (numV tb m p) < lo ∧ ¬ hi < i32 (numV tb m p) := by
  unfold numF at h
  split at h
  · omega
  · split at h
    · omega
    · rename_i h2; exact not_or.mp h2
theorem numF_h {tb : Nat → Nat} {m p a : Nat} {lo : Int32} (ha : a < 1000) (h : numF tb m lo (i32 a - i32 1) p = 0) : numV tb m p < a := by
  have h1 := (numF_0 h).2
  have h2 := nv_100 (tb := tb) (m := m) (p := p)
  rw [lt_pred ha, Classical.not_not, i_lt (by omega) (by omega)] at h1
  exact h1
theorem numF_b {tb : Nat → Nat} {m p b : Nat} {lo : Int32} (hb : b < 1000) (h : numF tb m lo (i32 b) p = 0) : numV tb m p ≤ b := by
  have h1 := (numF_0 h).2
  have h2 := nv_100 (tb := tb) (m := m) (p := p)
  rw [i_lt (by omega) (by omega)] at h1
  omega
theorem numF_l {tb : Nat → Nat} {m p a : Nat} {hi : Int32} (ha : a < 1000) (h : numF tb m (i32 a) hi p = 0) : a ≤ numV tb m p := by
  have h1 := (numF_0 h).1
  have h2 := nv_100 (tb := tb) (m := m) (p := p)
  rw [i_lt (by omega) (by omega)] at h1
  omega
theorem tc5 {tb : Nat → Nat} {m p f pl t : Nat} {I : VI} (h : TC tb m p f pl t I) : I 17 5 = i32 f := by obtain ⟨_, _, _, _, _, _, h5, _⟩ := h; exact h5
theorem tc_c {tb : Nat → Nat} {m p f pl t : Nat} {I I' : VI} (h17 : I' 17 = I 17) (h18 : I' 18 = I 18) (h : TC tb m p f pl t I) : TC tb m p f pl t I' := by
  unfold TC Tx at *
  rw [h17, h18]; exact h
theorem lst_upd {bh : Nat → Nat} {k h x : Nat} : lst (updN bh k h) (k + 1) x = (lst bh k x || decide (h = x)) := by
  have e : ∀ j, j ≤ k → lst (updN bh k h) j x = lst bh j x := by
    intro j
    induction j with
    | zero => intro _; rfl
    | succ j ih =>
      intro hj
      rw [lst, lst, ih (by omega)]
      unfold updN
      rw [if_neg (by omega)]
  rw [lst, e k (Nat.le_refl _)]
  unfold updN
  rw [if_pos rfl]
theorem bits_or {n h : Nat} {p : Nat → Bool} (hh : h < n) : bitsN n p ||| 2 ^ h = bitsN n (fun x => p x || decide (h = x)) := by
  apply Nat.eq_of_testBit_eq
  intro j
  rw [Nat.testBit_or, bits_test, bits_test, Nat.testBit_two_pow]
  by_cases e : h = j
  · subst e; simp [hh]
  · simp [e]
theorem bits_lst {bh : Nat → Nat} {k h : Nat} (hh : h < 6) : i32 (bitsN 6 (lst bh k)) ||| i32 (2 ^ h) = i32 (bitsN 6 (lst (updN bh k h) (k + 1))) := by
  rw [i_or, bits_or hh]
  congr 1
  exact bits_congr fun x _ => lst_upd.symm
theorem c3 {d n : Nat} {I : VI} {L : VL} {S : SW} {r : Res} (hS : S.1 = W0 n) {x : Int32} : EvD (d + 1) 3 [.ref 43, .int x] I L S r ↔ r = (.inl (some (.int (b2 (¬ I 43 1 &&& i32 1 <<< (x &&& i32 31) = i32 0)))), I, L, S) := by
  by_cases h : I 43 1 &&& i32 1 <<< (x &&& i32 31) = i32 0
  · simp (disch := first | assumption | omega) only [in3, k3_0, k3_1, k3_4, k3_5, k3_6, k3_7, k3_8, k3_11, k3_12, k3_15, k3_16, c_0, c_1, c_31, hS, t_16, f_16_0, f_16_1, f_16_2, f_16_3, f_16_4, f_16_5, f_16_6, f_16_7, f_16_8, f_16_9, f_16_10, f_16_11, f_16_12, f_16_13, t_17, f_17_0, t_18, l_18, t_19, f_19_0, f_19_1, f_19_2, f_19_3, f_19_4, f_19_5, f_19_6, t_20, l_20, t_21, l_21, t_22, l_22, t_23, l_23, t_24, l_24, t_25, l_25, t_26, l_26, t_27, f_27_0, f_27_1, f_27_2, f_27_3, f_27_4, f_27_5, f_27_6, t_28, l_28, t_29, l_29, t_30, l_30, t_31, l_31, t_32, l_32, t_33, l_33, t_34, l_34, t_35, f_35_0, f_35_1, t_36, l_36, t_37, l_37, t_38, f_38_0, f_38_1, t_39, l_39, t_40, l_40, t_41, f_41_0, t_42, l_42, t_43, f_43_0, t_44, l_44, t_45, f_45_0, f_45_1, f_45_2, f_45_3, t_46, l_46, t_47, l_47, t_48, l_48, t_49, l_49, t_50, l_50, t_51, f_51_0, f_51_1, f_51_2, f_51_3, t_52, l_52, t_53, l_53, t_54, f_54_0, f_54_1, f_54_2, f_54_3, t_55, l_55, t_56, l_56, t_57, f_57_0, f_57_1, f_57_2, f_57_3, t_58, l_58, t_59, l_59, t_60, l_60, t_61, f_61_0, f_61_1, f_61_2, f_61_3, f_61_4, f_61_5, f_61_6, t_62, l_62, t_63, f_63_0, f_63_1, t_64, l_64, t_65, l_65, t_66, f_66_0, f_66_1, t_67, l_67, t_68, l_68, t_69, l_69, t_70, f_70_0, f_70_1, t_1, l_1, t_2, l_2, m_t, m_f0, m_f1, m_f2, m_f3, m_t1, m_l1, m_t2, m_l2, rowX_s, rowX_n, rowX_f, rowX_2, up_s, up_n, Nat.zero_add, n_m1, i_dec, cat_n, cat_i, cat_r, cat_l, i_add, i_tn, i_vi, i_lt, i_eq, i_shl, n_ltT, n_ltF, n_eqT, n_eqF, n_leT, t_and, nb_0, nb_1, b2_0, b2_n, cont_v, cont_n, ex_eq, u_s, u_c, u_j, ↓reduceIte, ite_not, not_true_eq_false, not_false_eq_true, Bool.false_eq_true, Bool.true_eq_false, false_and, true_and, and_false, and_true, or_self, or_false, false_or, or_true, true_or, cont_x, n_leF, c_1, c_31, h, b2]
  · simp (disch := first | assumption | omega) only [in3, k3_0, k3_1, k3_4, k3_5, k3_6, k3_7, k3_8, k3_11, k3_12, k3_15, k3_16, c_0, c_1, c_31, hS, t_16, f_16_0, f_16_1, f_16_2, f_16_3, f_16_4, f_16_5, f_16_6, f_16_7, f_16_8, f_16_9, f_16_10, f_16_11, f_16_12, f_16_13, t_17, f_17_0, t_18, l_18, t_19, f_19_0, f_19_1, f_19_2, f_19_3, f_19_4, f_19_5, f_19_6, t_20, l_20, t_21, l_21, t_22, l_22, t_23, l_23, t_24, l_24, t_25, l_25, t_26, l_26, t_27, f_27_0, f_27_1, f_27_2, f_27_3, f_27_4, f_27_5, f_27_6, t_28, l_28, t_29, l_29, t_30, l_30, t_31, l_31, t_32, l_32, t_33, l_33, t_34, l_34, t_35, f_35_0, f_35_1, t_36, l_36, t_37, l_37, t_38, f_38_0, f_38_1, t_39, l_39, t_40, l_40, t_41, f_41_0, t_42, l_42, t_43, f_43_0, t_44, l_44, t_45, f_45_0, f_45_1, f_45_2, f_45_3, t_46, l_46, t_47, l_47, t_48, l_48, t_49, l_49, t_50, l_50, t_51, f_51_0, f_51_1, f_51_2, f_51_3, t_52, l_52, t_53, l_53, t_54, f_54_0, f_54_1, f_54_2, f_54_3, t_55, l_55, t_56, l_56, t_57, f_57_0, f_57_1, f_57_2, f_57_3, t_58, l_58, t_59, l_59, t_60, l_60, t_61, f_61_0, f_61_1, f_61_2, f_61_3, f_61_4, f_61_5, f_61_6, t_62, l_62, t_63, f_63_0, f_63_1, t_64, l_64, t_65, l_65, t_66, f_66_0, f_66_1, t_67, l_67, t_68, l_68, t_69, l_69, t_70, f_70_0, f_70_1, t_1, l_1, t_2, l_2, m_t, m_f0, m_f1, m_f2, m_f3, m_t1, m_l1, m_t2, m_l2, rowX_s, rowX_n, rowX_f, rowX_2, up_s, up_n, Nat.zero_add, n_m1, i_dec, cat_n, cat_i, cat_r, cat_l, i_add, i_tn, i_vi, i_lt, i_eq, i_shl, n_ltT, n_ltF, n_eqT, n_eqF, n_leT, t_and, nb_0, nb_1, b2_0, b2_n, cont_v, cont_n, ex_eq, u_s, u_c, u_j, ↓reduceIte, ite_not, not_true_eq_false, not_false_eq_true, Bool.false_eq_true, Bool.true_eq_false, false_and, true_and, and_false, and_true, or_self, or_false, false_or, or_true, true_or, cont_x, n_leF, c_1, c_31, h, b2]
def BC (I : VI) (k : Nat) (bh bv : Nat → Nat) : Prop := I 43 1 = i32 (bitsN 6 (lst bh k)) ∧ I 43 2 = i32 k ∧ ∀ i, i < k → I 44 (bh i) = i32 (bv i)
theorem bc_c {I I' : VI} {k : Nat} {bh bv : Nat → Nat} (h43 : I' 43 = I 43) (h44 : I' 44 = I 44) (h : BC I k bh bv) : BC I' k bh bv := by unfold BC at *; rw [h43, h44]; exact h
section Book
variable {tb : Nat → Nat} {m : Nat}
def bcQ (tb : Nat → Nat) (m k : Nat) (bh bv : Nat → Nat) (I : VI) : (Nat × Nat × Nat) ⊕ (Nat × Nat) → Prop
  | .inl (h, v, p) => (∃ t, TC tb m p 0 0 t I) ∧ BC I (k + 1) (updN bh k h) (updN bv k v)
  | .inr (f, pl) => (f ≠ 0 ∧ f < 9) ∧ TC tb m 0 f pl 0 I
theorem p5 {d n nh k p t : Nat} {bh bv : Nat → Nat} {I : VI} {L : VL} {S : SW} (hS : S.1 = W0 n) (hm : m ≤ 600) (htb : ∀ k, tb k < 256) (h6 : nh ≤ 6) (hk : k < 1000) (h : TC tb m p 0 0 t I) (hB : BC I k bh bv) (hdis : ∀ i, i < k → ∀ h, lst bh k h = false → bh i ≠ h) : ∃ I', (∀ c j, (c ≠ 17 ∨ j < 3) → c ≠ 43 → c ≠ 44 → I' c j = I c j) ∧ bcQ tb m k bh bv I' (bkL tb m nh (lst bh k) p) ∧ ∀ r, EvD (d + 4) 5 [.ref 43, .ref 17, .int (i32 nh)] I L S r ↔ r = (.inl none, I', L, S) := by
  obtain ⟨K1, f1, t1, h1⟩ := p105 (d := d) (L := L) (lo := i32 0) (hi := i32 nh - i32 1) hS hm htb h
  have hf9 := numF_lt (tb := tb) (m := m) (p := p) (lo := i32 0) (hi := i32 nh - i32 1)
  unfold bkL
  have fr : ∀ {K : VI}, fr17 I K → ∀ c j, (c ≠ 17 ∨ j < 3) → c ≠ 43 → c ≠ 44 → K c j = I c j := fun hf c j hcj _ _ => hf c j hcj
  by_cases hn1 : numF tb m (i32 0) (i32 nh - i32 1) p = 0
  · rw [if_pos hn1] at t1
    rw [if_neg (fun z => z hn1)]
    have hlt := numF_h (by omega) hn1
    have k43 : K1 43 1 = i32 (bitsN 6 (lst bh k)) := by rw [f1 43 1 (by omega)]; exact hB.1
    have hbt : (K1 43 1 &&& i32 (2 ^ numV tb m p) = i32 0) = ¬ lst bh k (numV tb m p) = true := by
      rw [k43, i_bt (by omega)]
      refine propext ⟨fun z w => z ⟨by omega, w⟩, fun z w => z w.2⟩
    have s1 := tc5 t1
    by_cases hl : lst bh k (numV tb m p) = true
    · rw [if_pos hl]
      obtain ⟨K2, f2, t2, h2⟩ := p99 (d := d + 2) (L := L) (c := 2) hS (by omega) t1
      obtain ⟨K3, f3, t3, h3⟩ := p104f (d := d + 1) (L := L) (c := 59) hS hm htb (by omega) (by omega) (by omega) t2
      refine ⟨K3, fr (fr17_trans f1 (fr17_trans f2 f3)), ⟨⟨by omega, by omega⟩, t3⟩, fun r => ?_⟩
      simp (disch := first | assumption | omega) only [in5, k5_0, k5_1, k5_2, k5_3, k5_4, k5_5, k5_8, k5_9, k5_10, k5_11, k5_14, k5_17, k5_18, k5_19, k5_22, k5_23, k5_24, k5_27, k5_30, k5_32, k5_33, k5_35, k5_38, k5_39, k5_42, k5_45, k5_46, k5_48, k5_51, k5_52, k5_55, k5_56, k5_58, k5_59, k5_60, k5_60r, k5_61, k5_64, k5_65, k5_66, k5_67, k5_68, k5_71, k5_72, k5_72r, k5_73, k5_76, k5_77, k5_78, k5_81, c_0, c_1, c_2, c_6, c_31, c_59, c_999, hS, t_16, f_16_0, f_16_1, f_16_2, f_16_3, f_16_4, f_16_5, f_16_6, f_16_7, f_16_8, f_16_9, f_16_10, f_16_11, f_16_12, f_16_13, t_17, f_17_0, t_18, l_18, t_19, f_19_0, f_19_1, f_19_2, f_19_3, f_19_4, f_19_5, f_19_6, t_20, l_20, t_21, l_21, t_22, l_22, t_23, l_23, t_24, l_24, t_25, l_25, t_26, l_26, t_27, f_27_0, f_27_1, f_27_2, f_27_3, f_27_4, f_27_5, f_27_6, t_28, l_28, t_29, l_29, t_30, l_30, t_31, l_31, t_32, l_32, t_33, l_33, t_34, l_34, t_35, f_35_0, f_35_1, t_36, l_36, t_37, l_37, t_38, f_38_0, f_38_1, t_39, l_39, t_40, l_40, t_41, f_41_0, t_42, l_42, t_43, f_43_0, t_44, l_44, t_45, f_45_0, f_45_1, f_45_2, f_45_3, t_46, l_46, t_47, l_47, t_48, l_48, t_49, l_49, t_50, l_50, t_51, f_51_0, f_51_1, f_51_2, f_51_3, t_52, l_52, t_53, l_53, t_54, f_54_0, f_54_1, f_54_2, f_54_3, t_55, l_55, t_56, l_56, t_57, f_57_0, f_57_1, f_57_2, f_57_3, t_58, l_58, t_59, l_59, t_60, l_60, t_61, f_61_0, f_61_1, f_61_2, f_61_3, f_61_4, f_61_5, f_61_6, t_62, l_62, t_63, f_63_0, f_63_1, t_64, l_64, t_65, l_65, t_66, f_66_0, f_66_1, t_67, l_67, t_68, l_68, t_69, l_69, t_70, f_70_0, f_70_1, t_1, l_1, t_2, l_2, m_t, m_f0, m_f1, m_f2, m_f3, m_t1, m_l1, m_t2, m_l2, rowX_s, rowX_n, rowX_f, rowX_2, up_s, up_n, Nat.zero_add, n_m1, i_dec, cat_n, cat_i, cat_r, cat_l, i_add, i_tn, i_vi, i_lt, i_eq, i_shl, n_ltT, n_ltF, n_eqT, n_eqF, n_leT, t_and, nb_0, nb_1, b2_0, b2_n, cont_v, cont_n, ex_eq, u_s, u_c, u_j, ↓reduceIte, ite_not, not_true_eq_false, not_false_eq_true, Bool.false_eq_true, Bool.true_eq_false, false_and, true_and, and_false, and_true, or_self, or_false, false_or, or_true, true_or, cont_x, n_leF, c_1, h1, c3 hS, hbt, hl, h2, p105f hS (by omega : 2 ≠ 0) (by omega) t2, h3, c98 hS (by omega : 2 < 9) (tc5 t3), b2]
    · rw [if_neg hl]
      have hl2 : (lst bh k (numV tb m p) = true) = False := eq_false hl
      obtain ⟨K2, f2, t2, h2⟩ := p105 (d := d) (L := L) (lo := i32 0) (hi := i32 999) hS hm htb t1
      have hg9 := numF_lt (tb := tb) (m := m) (p := sk tb m (dgE tb m p)) (lo := i32 0) (hi := i32 999)
      by_cases hn2 : numF tb m (i32 0) (i32 999) (sk tb m (dgE tb m p)) = 0
      · rw [if_pos hn2] at t2
        rw [if_neg (fun z => z hn2)]
        have hv9 := numF_b (by omega) hn2
        obtain ⟨K3, f3, t3, h3⟩ := p104 (d := d + 1) (L := L) (c := 59) hS hm htb (by omega) t2
        by_cases hse : sk tb m (dgE tb m (sk tb m (dgE tb m p))) < m ∧ tb (sk tb m (dgE tb m (sk tb m (dgE tb m p)))) = 59
        · rw [if_pos hse] at t3
          rw [if_pos hse]
          have f13 := fr17_trans f1 (fr17_trans f2 f3)
          have e431 : K3 43 1 = i32 (bitsN 6 (lst bh k)) := by rw [f13 43 1 (by omega)]; exact hB.1
          have e432 : K3 43 2 = i32 k := by rw [f13 43 2 (by omega)]; exact hB.2.1
          have eb := bits_lst (bh := bh) (k := k) (h := numV tb m p) (by omega)
          refine ⟨u2 (u2 (u2 K3 44 (numV tb m p) (i32 (numV tb m (sk tb m (dgE tb m p))))) 43 1 (i32 (bitsN 6 (lst (updN bh k (numV tb m p)) (k + 1))))) 43 2 (i32 (k + 1)), fun c j hcj h43 h44 => ?_, ⟨⟨_, tc_c ?_ ?_ t3⟩, ?_, ?_, fun i hi => ?_⟩, fun r => ?_⟩
          · rw [u_c h43, u_c h43, u_c h44]; exact f13 c j hcj
          · rw [u_row (by omega), u_row (by omega), u_row (by omega)]
          · rw [u_row (by omega), u_row (by omega), u_row (by omega)]
          · rw [u_j (by omega), u_s]
          · rw [u_s]
          · rw [u_c (by omega), u_c (by omega)]
            unfold updN
            by_cases e : i = k
            · subst e; rw [if_pos rfl, if_pos rfl, u_s]
            · rw [if_neg e, if_neg e, u_j (hdis i (by omega) _ (by simpa using hl)), f13 44 _ (by omega)]
              exact hB.2.2 i (by omega)
          · simp (disch := first | assumption | omega) only [in5, k5_0, k5_1, k5_2, k5_3, k5_4, k5_5, k5_8, k5_9, k5_10, k5_11, k5_14, k5_17, k5_18, k5_19, k5_22, k5_23, k5_24, k5_27, k5_30, k5_32, k5_33, k5_35, k5_38, k5_39, k5_42, k5_45, k5_46, k5_48, k5_51, k5_52, k5_55, k5_56, k5_58, k5_59, k5_60, k5_60r, k5_61, k5_64, k5_65, k5_66, k5_67, k5_68, k5_71, k5_72, k5_72r, k5_73, k5_76, k5_77, k5_78, k5_81, c_0, c_1, c_2, c_6, c_31, c_59, c_999, hS, t_16, f_16_0, f_16_1, f_16_2, f_16_3, f_16_4, f_16_5, f_16_6, f_16_7, f_16_8, f_16_9, f_16_10, f_16_11, f_16_12, f_16_13, t_17, f_17_0, t_18, l_18, t_19, f_19_0, f_19_1, f_19_2, f_19_3, f_19_4, f_19_5, f_19_6, t_20, l_20, t_21, l_21, t_22, l_22, t_23, l_23, t_24, l_24, t_25, l_25, t_26, l_26, t_27, f_27_0, f_27_1, f_27_2, f_27_3, f_27_4, f_27_5, f_27_6, t_28, l_28, t_29, l_29, t_30, l_30, t_31, l_31, t_32, l_32, t_33, l_33, t_34, l_34, t_35, f_35_0, f_35_1, t_36, l_36, t_37, l_37, t_38, f_38_0, f_38_1, t_39, l_39, t_40, l_40, t_41, f_41_0, t_42, l_42, t_43, f_43_0, t_44, l_44, t_45, f_45_0, f_45_1, f_45_2, f_45_3, t_46, l_46, t_47, l_47, t_48, l_48, t_49, l_49, t_50, l_50, t_51, f_51_0, f_51_1, f_51_2, f_51_3, t_52, l_52, t_53, l_53, t_54, f_54_0, f_54_1, f_54_2, f_54_3, t_55, l_55, t_56, l_56, t_57, f_57_0, f_57_1, f_57_2, f_57_3, t_58, l_58, t_59, l_59, t_60, l_60, t_61, f_61_0, f_61_1, f_61_2, f_61_3, f_61_4, f_61_5, f_61_6, t_62, l_62, t_63, f_63_0, f_63_1, t_64, l_64, t_65, l_65, t_66, f_66_0, f_66_1, t_67, l_67, t_68, l_68, t_69, l_69, t_70, f_70_0, f_70_1, t_1, l_1, t_2, l_2, m_t, m_f0, m_f1, m_f2, m_f3, m_t1, m_l1, m_t2, m_l2, rowX_s, rowX_n, rowX_f, rowX_2, up_s, up_n, Nat.zero_add, n_m1, i_dec, cat_n, cat_i, cat_r, cat_l, i_add, i_tn, i_vi, i_lt, i_eq, i_shl, n_ltT, n_ltF, n_eqT, n_eqF, n_leT, t_and, nb_0, nb_1, b2_0, b2_n, cont_v, cont_n, ex_eq, u_s, u_c, u_j, ↓reduceIte, ite_not, not_true_eq_false, not_false_eq_true, Bool.false_eq_true, Bool.true_eq_false, false_and, true_and, and_false, and_true, or_self, or_false, false_or, or_true, true_or, cont_x, n_leF, c_1, h1, c3 hS, hbt, hl2, h2, h3, c98 hS (by omega : 0 < 9) (tc5 t3), e431, e432, eb, b2]
        · rw [if_neg hse] at t3
          rw [if_neg hse]
          refine ⟨K3, fr (fr17_trans f1 (fr17_trans f2 f3)), ⟨⟨by omega, by omega⟩, t3⟩, fun r => ?_⟩
          simp (disch := first | assumption | omega) only [in5, k5_0, k5_1, k5_2, k5_3, k5_4, k5_5, k5_8, k5_9, k5_10, k5_11, k5_14, k5_17, k5_18, k5_19, k5_22, k5_23, k5_24, k5_27, k5_30, k5_32, k5_33, k5_35, k5_38, k5_39, k5_42, k5_45, k5_46, k5_48, k5_51, k5_52, k5_55, k5_56, k5_58, k5_59, k5_60, k5_60r, k5_61, k5_64, k5_65, k5_66, k5_67, k5_68, k5_71, k5_72, k5_72r, k5_73, k5_76, k5_77, k5_78, k5_81, c_0, c_1, c_2, c_6, c_31, c_59, c_999, hS, t_16, f_16_0, f_16_1, f_16_2, f_16_3, f_16_4, f_16_5, f_16_6, f_16_7, f_16_8, f_16_9, f_16_10, f_16_11, f_16_12, f_16_13, t_17, f_17_0, t_18, l_18, t_19, f_19_0, f_19_1, f_19_2, f_19_3, f_19_4, f_19_5, f_19_6, t_20, l_20, t_21, l_21, t_22, l_22, t_23, l_23, t_24, l_24, t_25, l_25, t_26, l_26, t_27, f_27_0, f_27_1, f_27_2, f_27_3, f_27_4, f_27_5, f_27_6, t_28, l_28, t_29, l_29, t_30, l_30, t_31, l_31, t_32, l_32, t_33, l_33, t_34, l_34, t_35, f_35_0, f_35_1, t_36, l_36, t_37, l_37, t_38, f_38_0, f_38_1, t_39, l_39, t_40, l_40, t_41, f_41_0, t_42, l_42, t_43, f_43_0, t_44, l_44, t_45, f_45_0, f_45_1, f_45_2, f_45_3, t_46, l_46, t_47, l_47, t_48, l_48, t_49, l_49, t_50, l_50, t_51, f_51_0, f_51_1, f_51_2, f_51_3, t_52, l_52, t_53, l_53, t_54, f_54_0, f_54_1, f_54_2, f_54_3, t_55, l_55, t_56, l_56, t_57, f_57_0, f_57_1, f_57_2, f_57_3, t_58, l_58, t_59, l_59, t_60, l_60, t_61, f_61_0, f_61_1, f_61_2, f_61_3, f_61_4, f_61_5, f_61_6, t_62, l_62, t_63, f_63_0, f_63_1, t_64, l_64, t_65, l_65, t_66, f_66_0, f_66_1, t_67, l_67, t_68, l_68, t_69, l_69, t_70, f_70_0, f_70_1, t_1, l_1, t_2, l_2, m_t, m_f0, m_f1, m_f2, m_f3, m_t1, m_l1, m_t2, m_l2, rowX_s, rowX_n, rowX_f, rowX_2, up_s, up_n, Nat.zero_add, n_m1, i_dec, cat_n, cat_i, cat_r, cat_l, i_add, i_tn, i_vi, i_lt, i_eq, i_shl, n_ltT, n_ltF, n_eqT, n_eqF, n_leT, t_and, nb_0, nb_1, b2_0, b2_n, cont_v, cont_n, ex_eq, u_s, u_c, u_j, ↓reduceIte, ite_not, not_true_eq_false, not_false_eq_true, Bool.false_eq_true, Bool.true_eq_false, false_and, true_and, and_false, and_true, or_self, or_false, false_or, or_true, true_or, cont_x, n_leF, c_1, h1, c3 hS, hbt, hl2, h2, h3, c98 hS (by omega : 1 < 9) (tc5 t3), b2]
      · rw [if_neg hn2] at t2
        rw [if_pos hn2]
        obtain ⟨K3, f3, t3, h3⟩ := p104f (d := d + 1) (L := L) (c := 59) hS hm htb (by omega) hn2 hg9 t2
        refine ⟨K3, fr (fr17_trans f1 (fr17_trans f2 f3)), ⟨⟨hn2, hg9⟩, t3⟩, fun r => ?_⟩
        simp (disch := first | assumption | omega) only [in5, k5_0, k5_1, k5_2, k5_3, k5_4, k5_5, k5_8, k5_9, k5_10, k5_11, k5_14, k5_17, k5_18, k5_19, k5_22, k5_23, k5_24, k5_27, k5_30, k5_32, k5_33, k5_35, k5_38, k5_39, k5_42, k5_45, k5_46, k5_48, k5_51, k5_52, k5_55, k5_56, k5_58, k5_59, k5_60, k5_60r, k5_61, k5_64, k5_65, k5_66, k5_67, k5_68, k5_71, k5_72, k5_72r, k5_73, k5_76, k5_77, k5_78, k5_81, c_0, c_1, c_2, c_6, c_31, c_59, c_999, hS, t_16, f_16_0, f_16_1, f_16_2, f_16_3, f_16_4, f_16_5, f_16_6, f_16_7, f_16_8, f_16_9, f_16_10, f_16_11, f_16_12, f_16_13, t_17, f_17_0, t_18, l_18, t_19, f_19_0, f_19_1, f_19_2, f_19_3, f_19_4, f_19_5, f_19_6, t_20, l_20, t_21, l_21, t_22, l_22, t_23, l_23, t_24, l_24, t_25, l_25, t_26, l_26, t_27, f_27_0, f_27_1, f_27_2, f_27_3, f_27_4, f_27_5, f_27_6, t_28, l_28, t_29, l_29, t_30, l_30, t_31, l_31, t_32, l_32, t_33, l_33, t_34, l_34, t_35, f_35_0, f_35_1, t_36, l_36, t_37, l_37, t_38, f_38_0, f_38_1, t_39, l_39, t_40, l_40, t_41, f_41_0, t_42, l_42, t_43, f_43_0, t_44, l_44, t_45, f_45_0, f_45_1, f_45_2, f_45_3, t_46, l_46, t_47, l_47, t_48, l_48, t_49, l_49, t_50, l_50, t_51, f_51_0, f_51_1, f_51_2, f_51_3, t_52, l_52, t_53, l_53, t_54, f_54_0, f_54_1, f_54_2, f_54_3, t_55, l_55, t_56, l_56, t_57, f_57_0, f_57_1, f_57_2, f_57_3, t_58, l_58, t_59, l_59, t_60, l_60, t_61, f_61_0, f_61_1, f_61_2, f_61_3, f_61_4, f_61_5, f_61_6, t_62, l_62, t_63, f_63_0, f_63_1, t_64, l_64, t_65, l_65, t_66, f_66_0, f_66_1, t_67, l_67, t_68, l_68, t_69, l_69, t_70, f_70_0, f_70_1, t_1, l_1, t_2, l_2, m_t, m_f0, m_f1, m_f2, m_f3, m_t1, m_l1, m_t2, m_l2, rowX_s, rowX_n, rowX_f, rowX_2, up_s, up_n, Nat.zero_add, n_m1, i_dec, cat_n, cat_i, cat_r, cat_l, i_add, i_tn, i_vi, i_lt, i_eq, i_shl, n_ltT, n_ltF, n_eqT, n_eqF, n_leT, t_and, nb_0, nb_1, b2_0, b2_n, cont_v, cont_n, ex_eq, u_s, u_c, u_j, ↓reduceIte, ite_not, not_true_eq_false, not_false_eq_true, Bool.false_eq_true, Bool.true_eq_false, false_and, true_and, and_false, and_true, or_self, or_false, false_or, or_true, true_or, cont_x, n_leF, c_1, h1, c3 hS, hbt, hl2, h2, h3, c98 hS hg9 (tc5 t3), hn2, b2]
  · rw [if_neg hn1] at t1
    rw [if_pos hn1]
    obtain ⟨K3, f3, t3, h3⟩ := p104f (d := d + 1) (L := L) (c := 59) hS hm htb (by omega) hn1 hf9 t1
    refine ⟨K3, fr (fr17_trans f1 f3), ⟨⟨hn1, hf9⟩, t3⟩, fun r => ?_⟩
    by_cases hz : K1 43 1 &&& i32 1 <<< (i32 (numV tb m p) &&& i32 31) = i32 0
    · simp (disch := first | assumption | omega) only [in5, k5_0, k5_1, k5_2, k5_3, k5_4, k5_5, k5_8, k5_9, k5_10, k5_11, k5_14, k5_17, k5_18, k5_19, k5_22, k5_23, k5_24, k5_27, k5_30, k5_32, k5_33, k5_35, k5_38, k5_39, k5_42, k5_45, k5_46, k5_48, k5_51, k5_52, k5_55, k5_56, k5_58, k5_59, k5_60, k5_60r, k5_61, k5_64, k5_65, k5_66, k5_67, k5_68, k5_71, k5_72, k5_72r, k5_73, k5_76, k5_77, k5_78, k5_81, c_0, c_1, c_2, c_6, c_31, c_59, c_999, hS, t_16, f_16_0, f_16_1, f_16_2, f_16_3, f_16_4, f_16_5, f_16_6, f_16_7, f_16_8, f_16_9, f_16_10, f_16_11, f_16_12, f_16_13, t_17, f_17_0, t_18, l_18, t_19, f_19_0, f_19_1, f_19_2, f_19_3, f_19_4, f_19_5, f_19_6, t_20, l_20, t_21, l_21, t_22, l_22, t_23, l_23, t_24, l_24, t_25, l_25, t_26, l_26, t_27, f_27_0, f_27_1, f_27_2, f_27_3, f_27_4, f_27_5, f_27_6, t_28, l_28, t_29, l_29, t_30, l_30, t_31, l_31, t_32, l_32, t_33, l_33, t_34, l_34, t_35, f_35_0, f_35_1, t_36, l_36, t_37, l_37, t_38, f_38_0, f_38_1, t_39, l_39, t_40, l_40, t_41, f_41_0, t_42, l_42, t_43, f_43_0, t_44, l_44, t_45, f_45_0, f_45_1, f_45_2, f_45_3, t_46, l_46, t_47, l_47, t_48, l_48, t_49, l_49, t_50, l_50, t_51, f_51_0, f_51_1, f_51_2, f_51_3, t_52, l_52, t_53, l_53, t_54, f_54_0, f_54_1, f_54_2, f_54_3, t_55, l_55, t_56, l_56, t_57, f_57_0, f_57_1, f_57_2, f_57_3, t_58, l_58, t_59, l_59, t_60, l_60, t_61, f_61_0, f_61_1, f_61_2, f_61_3, f_61_4, f_61_5, f_61_6, t_62, l_62, t_63, f_63_0, f_63_1, t_64, l_64, t_65, l_65, t_66, f_66_0, f_66_1, t_67, l_67, t_68, l_68, t_69, l_69, t_70, f_70_0, f_70_1, t_1, l_1, t_2, l_2, m_t, m_f0, m_f1, m_f2, m_f3, m_t1, m_l1, m_t2, m_l2, rowX_s, rowX_n, rowX_f, rowX_2, up_s, up_n, Nat.zero_add, n_m1, i_dec, cat_n, cat_i, cat_r, cat_l, i_add, i_tn, i_vi, i_lt, i_eq, i_shl, n_ltT, n_ltF, n_eqT, n_eqF, n_leT, t_and, nb_0, nb_1, b2_0, b2_n, cont_v, cont_n, ex_eq, u_s, u_c, u_j, ↓reduceIte, ite_not, not_true_eq_false, not_false_eq_true, Bool.false_eq_true, Bool.true_eq_false, false_and, true_and, and_false, and_true, or_self, or_false, false_or, or_true, true_or, cont_x, n_leF, c_1, h1, c3 hS, hz, p105f hS hn1 hf9 t1, h3, c98 hS hf9 (tc5 t3), hn1, b2]
    · simp (disch := first | assumption | omega) only [in5, k5_0, k5_1, k5_2, k5_3, k5_4, k5_5, k5_8, k5_9, k5_10, k5_11, k5_14, k5_17, k5_18, k5_19, k5_22, k5_23, k5_24, k5_27, k5_30, k5_32, k5_33, k5_35, k5_38, k5_39, k5_42, k5_45, k5_46, k5_48, k5_51, k5_52, k5_55, k5_56, k5_58, k5_59, k5_60, k5_60r, k5_61, k5_64, k5_65, k5_66, k5_67, k5_68, k5_71, k5_72, k5_72r, k5_73, k5_76, k5_77, k5_78, k5_81, c_0, c_1, c_2, c_6, c_31, c_59, c_999, hS, t_16, f_16_0, f_16_1, f_16_2, f_16_3, f_16_4, f_16_5, f_16_6, f_16_7, f_16_8, f_16_9, f_16_10, f_16_11, f_16_12, f_16_13, t_17, f_17_0, t_18, l_18, t_19, f_19_0, f_19_1, f_19_2, f_19_3, f_19_4, f_19_5, f_19_6, t_20, l_20, t_21, l_21, t_22, l_22, t_23, l_23, t_24, l_24, t_25, l_25, t_26, l_26, t_27, f_27_0, f_27_1, f_27_2, f_27_3, f_27_4, f_27_5, f_27_6, t_28, l_28, t_29, l_29, t_30, l_30, t_31, l_31, t_32, l_32, t_33, l_33, t_34, l_34, t_35, f_35_0, f_35_1, t_36, l_36, t_37, l_37, t_38, f_38_0, f_38_1, t_39, l_39, t_40, l_40, t_41, f_41_0, t_42, l_42, t_43, f_43_0, t_44, l_44, t_45, f_45_0, f_45_1, f_45_2, f_45_3, t_46, l_46, t_47, l_47, t_48, l_48, t_49, l_49, t_50, l_50, t_51, f_51_0, f_51_1, f_51_2, f_51_3, t_52, l_52, t_53, l_53, t_54, f_54_0, f_54_1, f_54_2, f_54_3, t_55, l_55, t_56, l_56, t_57, f_57_0, f_57_1, f_57_2, f_57_3, t_58, l_58, t_59, l_59, t_60, l_60, t_61, f_61_0, f_61_1, f_61_2, f_61_3, f_61_4, f_61_5, f_61_6, t_62, l_62, t_63, f_63_0, f_63_1, t_64, l_64, t_65, l_65, t_66, f_66_0, f_66_1, t_67, l_67, t_68, l_68, t_69, l_69, t_70, f_70_0, f_70_1, t_1, l_1, t_2, l_2, m_t, m_f0, m_f1, m_f2, m_f3, m_t1, m_l1, m_t2, m_l2, rowX_s, rowX_n, rowX_f, rowX_2, up_s, up_n, Nat.zero_add, n_m1, i_dec, cat_n, cat_i, cat_r, cat_l, i_add, i_tn, i_vi, i_lt, i_eq, i_shl, n_ltT, n_ltF, n_eqT, n_eqF, n_leT, t_and, nb_0, nb_1, b2_0, b2_n, cont_v, cont_n, ex_eq, u_s, u_c, u_j, ↓reduceIte, ite_not, not_true_eq_false, not_false_eq_true, Bool.false_eq_true, Bool.true_eq_false, false_and, true_and, and_false, and_true, or_self, or_false, false_or, or_true, true_or, cont_x, n_leF, c_1, h1, c3 hS, hz, p99f hS hn1 hf9 t1, p105f hS hn1 hf9 t1, h3, c98 hS hf9 (tc5 t3), hn1, b2]
end Book
