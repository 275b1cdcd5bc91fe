/-! THE WHEEL: longs, and the numbers purely -/
def l64 (a : Nat) : Int64 := Int64.ofNat a
theorem l64_0 : (0 : Int64) = l64 0 := rfl
theorem l64_1 : (1 : Int64) = l64 1 := rfl
theorem l64_2 : (2 : Int64) = l64 2 := rfl
theorem l64_add {a b : Nat} : l64 a + l64 b = l64 (a + b) := (Int64.ofNat_add a b).symm
theorem l64_mul {a b : Nat} : l64 a * l64 b = l64 (a * b) := (Int64.ofNat_mul a b).symm
theorem l64_sub {a b : Nat} (h : b ≤ a) : l64 a - l64 b = l64 (a - b) := (Int64.ofNat_sub a b h).symm
theorem l64_div {a b : Nat} (ha : a < 9223372036854775808) (hb : b < 9223372036854775808) : l64 a / l64 b = l64 (a / b) := (Int64.ofNat_div ha hb).symm
theorem l64_int {a : Nat} (h : a < 9223372036854775808) : (l64 a).toInt = a := Int64.toInt_ofNat_of_lt h
theorem l64_eq {a b : Nat} (ha : a < 9223372036854775808) (hb : b < 9223372036854775808) : (l64 a = l64 b) = (a = b) := by
  refine propext ⟨fun h => ?_, fun h => by rw [h]⟩
  have := congrArg Int64.toInt h
  rw [l64_int ha, l64_int hb] at this
  omega
theorem lc_gt {a b : Nat} (ha : a < 9223372036854775808) (hb : b < 9223372036854775808) : (i32 0 < lg_cmp (l64 a) (l64 b)) = (b < a) := by
  unfold lg_cmp
  by_cases h : b < a
  · rw [if_pos (by show l64 b < l64 a; rw [Int64.lt_iff_toInt_lt, l64_int ha, l64_int hb]; omega)]
    exact propext ⟨fun _ => h, fun _ => by decide⟩
  · rw [if_neg (by show ¬ l64 b < l64 a; rw [Int64.lt_iff_toInt_lt, l64_int ha, l64_int hb]; omega)]
    refine propext ⟨fun z => ?_, fun z => absurd z h⟩
    split at z
    · exact absurd z (by decide)
    · exact absurd z (by decide)
theorem lc_eq {a b : Nat} (ha : a < 9223372036854775808) (hb : b < 9223372036854775808) : (lg_cmp (l64 a) (l64 b) = i32 0) = (a = b) := by
  unfold lg_cmp
  by_cases h : a = b
  · subst h
    rw [if_neg (by show ¬ l64 a < l64 a; rw [Int64.lt_iff_toInt_lt]; omega), if_pos rfl]
    exact propext ⟨fun _ => rfl, fun _ => rfl⟩
  · refine propext ⟨fun z => ?_, fun z => absurd z h⟩
    split at z
    · exact absurd z (by decide)
    · rw [if_neg (fun w => by rw [l64_eq ha hb] at w; exact h w)] at z
      exact absurd z (by decide)
theorem i_64 {a : Nat} (h : a < 2147483648) : (i32 a).toInt64 = l64 a := by
  apply Int64.toInt_inj.mp
  rw [Int32.toInt_toInt64, i_int h, l64_int (by omega)]
theorem sh_4 : ∀ n, n < 13 → l64 1 <<< ((i32 (4 * n)).toInt64 &&& 63) = l64 (2 ^ (4 * n)) := by decide
def chN (n : Nat) : Nat → Nat
  | 0 => 1
  | t + 1 => chN n t * (n - t) / (t + 1)
def wyN (n k q : Nat) : Nat → Nat
  | 0 => 0
  | t + 1 => wyN n k q t + (if k ≤ t then chN n t * q ^ t * (16 - q) ^ (n - t) else 0)
def exQ (q : Nat) : Nat → Nat → Nat
  | 0, i => if i = 0 then 1 else 0
  | e + 1, i => exQ q e i * (16 - q) + (if i = 0 then 0 else exQ q e (i - 1) * q)
def bcN : Nat → Nat → Nat
  | 0, i => if i = 0 then 1 else 0
  | n + 1, i => bcN n i + (if i = 0 then 0 else bcN n (i - 1))
def upN (q n k : Nat) : Nat → Nat
  | 0 => 0
  | j + 1 => upN q n k j + (if k ≤ j then exQ q n j else 0)
theorem ch_b : ∀ n, n < 13 → ∀ t, t < 14 → chN n t * (n - t) < 100000 ∧ chN n t = bcN n t := by decide +kernel
theorem bc_0 : ∀ e i, e < i → bcN e i = 0 := by
  intro e
  induction e with
  | zero => intro i h; rw [bcN, if_neg (by omega)]
  | succ e ih => intro i h; rw [bcN, ih i (by omega), if_neg (by omega), ih (i - 1) (by omega)]
theorem ex_bc {q : Nat} : ∀ e i, exQ q e i = bcN e i * q ^ i * (16 - q) ^ (e - i) := by
  intro e
  induction e with
  | zero =>
    intro i
    rw [exQ, bcN]
    by_cases h : i = 0
    · subst h; rfl
    · rw [if_neg h]; simp
  | succ e ih =>
    intro i
    rw [exQ, bcN, ih i]
    match i with
    | 0 =>
      rw [if_pos rfl, if_pos rfl]
      simp only [Nat.pow_zero, Nat.mul_one, Nat.sub_zero, Nat.add_zero, Nat.pow_succ, Nat.mul_assoc]
    | j + 1 =>
      rw [if_neg (by omega), if_neg (by omega), Nat.add_sub_cancel, ih j, Nat.add_sub_add_right]
      by_cases h1 : j + 1 ≤ e
      · have e1 : e - j = e - (j + 1) + 1 := by omega
        rw [e1, Nat.pow_succ, Nat.pow_succ]
        simp only [Nat.mul_add, Nat.mul_assoc, Nat.mul_comm, Nat.mul_left_comm]
      · rw [bc_0 e (j + 1) (by omega)]
        simp only [Nat.zero_mul, Nat.mul_zero, Nat.zero_add, Nat.pow_succ, Nat.mul_assoc, Nat.mul_comm, Nat.mul_left_comm]
theorem ex_0 {q e i : Nat} (h : e < i) : exQ q e i = 0 := by rw [ex_bc, bc_0 e i h, Nat.zero_mul, Nat.zero_mul]
theorem ex_le {q : Nat} (hq : q ≤ 16) : ∀ e i, exQ q e i ≤ 16 ^ e := by
  intro e
  induction e with
  | zero => intro i; rw [exQ]; split <;> simp
  | succ e ih =>
    intro i
    rw [exQ, Nat.pow_succ]
    have h1 := Nat.mul_le_mul_right (16 - q) (ih i)
    have h2 : (if i = 0 then 0 else exQ q e (i - 1) * q) ≤ 16 ^ e * q := by
      split
      · exact Nat.zero_le _
      · exact Nat.mul_le_mul_right q (ih (i - 1))
    have h3 : 16 ^ e * 16 = 16 ^ e * (16 - q) + 16 ^ e * q := by rw [← Nat.mul_add]; congr 1; omega
    omega
theorem up_le {q n k : Nat} (hq : q ≤ 16) (hn : n ≤ 12) : ∀ j, j ≤ 14 → upN q n k j ≤ j * 281474976710656 := by
  intro j
  induction j with
  | zero => intro _; exact Nat.le_refl _
  | succ j ih =>
    intro hj
    rw [upN]
    have h1 := ih (by omega)
    have h2 := ex_le hq n j
    have h3 : 16 ^ n ≤ 16 ^ 12 := Nat.pow_le_pow_right (by omega) hn
    have h4 : (16 : Nat) ^ 12 = 281474976710656 := by decide
    rw [h4] at h3
    generalize exQ q n j = y at *
    generalize 16 ^ n = z at *
    generalize upN q n k j = w at *
    rw [Nat.succ_mul]
    generalize j * 281474976710656 = v at *
    generalize (281474976710656 : Nat) = c at *
    split <;> omega
theorem up_k {q n k : Nat} : ∀ j, j ≤ k → upN q n k j = 0 := by
  intro j
  induction j with
  | zero => intro _; rfl
  | succ j ih => intro h; rw [upN, ih (by omega), if_neg (by omega)]
theorem wy_up {q n k : Nat} (hn : n ≤ 12) : wyN n k q (n + 1) = upN q n k 14 := by
  have h1 : ∀ j, j ≤ n + 1 → wyN n k q j = upN q n k j := by
    intro j
    induction j with
    | zero => intro _; rfl
    | succ j ih =>
      intro hj
      rw [wyN, upN, ih (by omega), ex_bc, (ch_b n (by omega) j (by omega)).2]
  have h2 : ∀ j, upN q n k (n + 1 + j) = upN q n k (n + 1) := by
    intro j
    induction j with
    | zero => rfl
    | succ j ih => rw [← Nat.add_assoc, upN, ih, ex_0 (by omega)]; split <;> rfl
  rw [h1 _ (Nat.le_refl _), ← h2 (13 - n)]
  congr 1; omega
/-- halving as long as it goes -/
def hvN : Nat → Nat → Nat × Nat
  | 0, a => (a, 1)
  | m + 1, a => if a % 2 = 0 then hvN m (a / 2) else (a, 2 ^ (m + 1))
theorem hv_g : ∀ m a, hvN m a = (a / Nat.gcd a (2 ^ m), 2 ^ m / Nat.gcd a (2 ^ m)) := by
  intro m
  induction m with
  | zero => intro a; rw [hvN, Nat.pow_zero, Nat.gcd_one_right, Nat.div_one]
  | succ m ih =>
    intro a
    rw [hvN]
    by_cases h : a % 2 = 0
    · rw [if_pos h, ih]
      obtain ⟨c, hc⟩ : ∃ c, a = 2 * c := ⟨a / 2, by omega⟩
      subst hc
      have e : 2 ^ (m + 1) = 2 * 2 ^ m := by rw [Nat.pow_succ, Nat.mul_comm]
      rw [e, Nat.gcd_mul_left, Nat.mul_div_mul_left _ _ (by omega), Nat.mul_div_mul_left _ _ (by omega), Nat.mul_div_cancel_left _ (by omega)]
    · rw [if_neg h]
      have hc : Nat.Coprime a (2 ^ (m + 1)) := by
        apply Nat.Coprime.pow_right
        have h1 : Nat.gcd a 2 ∣ 2 := Nat.gcd_dvd_right _ _
        have h2 : Nat.gcd a 2 ∣ a := Nat.gcd_dvd_left _ _
        have h3 : Nat.gcd a 2 ≤ 2 := Nat.le_of_dvd (by omega) h1
        have h4 : Nat.gcd a 2 ≠ 2 := fun z => by rw [z] at h2; omega
        have h5 : 0 < Nat.gcd a 2 := Nat.gcd_pos_of_pos_right _ (by omega)
        show Nat.gcd a 2 = 1
        omega
      have hc2 : Nat.gcd a (2 ^ (m + 1)) = 1 := hc
      rw [hc2, Nat.div_one, Nat.div_one]
theorem c165 {d n : Nat} {I : VI} {L : VL} {S : SW} {r : Res} (hS : S.1 = W0 n) {b e : Nat} (hb : b < 100) (he : e < 100) : EvD (d + 1) 165 [.int (i32 b), .int (i32 e)] I L S r ↔ r = (.inl (some (.long (l64 (b ^ e)))), I, L, S) := by
  have h := up_to (P := fun k => Ev d 165 5 [.int (i32 b), .int (i32 e), .long (l64 (b ^ k)), .retAddr 1, .int (i32 k)] [] I L S r) (n := e) (fun k hk => by
    have ep : b ^ k * b = b ^ (k + 1) := (Nat.pow_succ b k).symm
    (rw [k165_5]; simp (disch := first | assumption | omega) only [in165, k165_0, k165_1, k165_2, k165_3, k165_7, k165_8, k165_11, k165_12, k165_13, k165_14, k165_15, k165_16, k165_19, k165_22, k165_23, c_0, c_1, hS, t_16, f_16_0, f_16_1, f_16_2, f_16_3, f_16_4, f_16_5, f_16_6, f_16_7, f_16_8, f_16_9, f_16_10, f_16_11, f_16_12, f_16_13, t_17, f_17_0, t_18, l_18, t_19, f_19_0, f_19_1, f_19_2, f_19_3, f_19_4, f_19_5, f_19_6, t_20, l_20, t_21, l_21, t_22, l_22, t_23, l_23, t_24, l_24, t_25, l_25, t_26, l_26, t_27, f_27_0, f_27_1, f_27_2, f_27_3, f_27_4, f_27_5, f_27_6, t_28, l_28, t_29, l_29, t_30, l_30, t_31, l_31, t_32, l_32, t_33, l_33, t_34, l_34, t_35, f_35_0, f_35_1, t_36, l_36, t_37, l_37, t_38, f_38_0, f_38_1, t_39, l_39, t_40, l_40, t_41, f_41_0, t_42, l_42, t_43, f_43_0, t_44, l_44, t_45, f_45_0, f_45_1, f_45_2, f_45_3, t_46, l_46, t_47, l_47, t_48, l_48, t_49, l_49, t_50, l_50, t_51, f_51_0, f_51_1, f_51_2, f_51_3, t_52, l_52, t_53, l_53, t_54, f_54_0, f_54_1, f_54_2, f_54_3, t_55, l_55, t_56, l_56, t_57, f_57_0, f_57_1, f_57_2, f_57_3, t_58, l_58, t_59, l_59, t_60, l_60, t_61, f_61_0, f_61_1, f_61_2, f_61_3, f_61_4, f_61_5, f_61_6, t_62, l_62, t_63, f_63_0, f_63_1, t_64, l_64, t_65, l_65, t_66, f_66_0, f_66_1, t_67, l_67, t_68, l_68, t_69, l_69, t_70, f_70_0, f_70_1, t_1, l_1, t_2, l_2, m_t, m_f0, m_f1, m_f2, m_f3, m_t1, m_l1, m_t2, m_l2, rowX_s, rowX_n, rowX_f, rowX_2, up_s, up_n, Nat.zero_add, n_m1, i_dec, cat_n, cat_i, cat_r, cat_l, i_add, i_tn, i_vi, i_lt, i_eq, i_shl, n_ltT, n_ltF, n_eqT, n_eqF, n_leT, t_and, nb_0, nb_1, b2_0, b2_n, cont_v, cont_n, ex_eq, u_s, u_c, u_j, ↓reduceIte, ite_not, not_true_eq_false, not_false_eq_true, Bool.false_eq_true, Bool.true_eq_false, false_and, true_and, and_false, and_true, or_self, or_false, false_or, or_true, true_or, cont_x, n_leF, c_1, i_64, l64_mul, ep])) 0 (Nat.zero_le _)
  refine Iff.trans ?_ (h.trans ?_)
  · simp (disch := first | assumption | omega) only [in165, k165_0, k165_1, k165_2, k165_3, k165_7, k165_8, k165_11, k165_12, k165_13, k165_14, k165_15, k165_16, k165_19, k165_22, k165_23, c_0, c_1, hS, t_16, f_16_0, f_16_1, f_16_2, f_16_3, f_16_4, f_16_5, f_16_6, f_16_7, f_16_8, f_16_9, f_16_10, f_16_11, f_16_12, f_16_13, t_17, f_17_0, t_18, l_18, t_19, f_19_0, f_19_1, f_19_2, f_19_3, f_19_4, f_19_5, f_19_6, t_20, l_20, t_21, l_21, t_22, l_22, t_23, l_23, t_24, l_24, t_25, l_25, t_26, l_26, t_27, f_27_0, f_27_1, f_27_2, f_27_3, f_27_4, f_27_5, f_27_6, t_28, l_28, t_29, l_29, t_30, l_30, t_31, l_31, t_32, l_32, t_33, l_33, t_34, l_34, t_35, f_35_0, f_35_1, t_36, l_36, t_37, l_37, t_38, f_38_0, f_38_1, t_39, l_39, t_40, l_40, t_41, f_41_0, t_42, l_42, t_43, f_43_0, t_44, l_44, t_45, f_45_0, f_45_1, f_45_2, f_45_3, t_46, l_46, t_47, l_47, t_48, l_48, t_49, l_49, t_50, l_50, t_51, f_51_0, f_51_1, f_51_2, f_51_3, t_52, l_52, t_53, l_53, t_54, f_54_0, f_54_1, f_54_2, f_54_3, t_55, l_55, t_56, l_56, t_57, f_57_0, f_57_1, f_57_2, f_57_3, t_58, l_58, t_59, l_59, t_60, l_60, t_61, f_61_0, f_61_1, f_61_2, f_61_3, f_61_4, f_61_5, f_61_6, t_62, l_62, t_63, f_63_0, f_63_1, t_64, l_64, t_65, l_65, t_66, f_66_0, f_66_1, t_67, l_67, t_68, l_68, t_69, l_69, t_70, f_70_0, f_70_1, t_1, l_1, t_2, l_2, m_t, m_f0, m_f1, m_f2, m_f3, m_t1, m_l1, m_t2, m_l2, rowX_s, rowX_n, rowX_f, rowX_2, up_s, up_n, Nat.zero_add, n_m1, i_dec, cat_n, cat_i, cat_r, cat_l, i_add, i_tn, i_vi, i_lt, i_eq, i_shl, n_ltT, n_ltF, n_eqT, n_eqF, n_leT, t_and, nb_0, nb_1, b2_0, b2_n, cont_v, cont_n, ex_eq, u_s, u_c, u_j, ↓reduceIte, ite_not, not_true_eq_false, not_false_eq_true, Bool.false_eq_true, Bool.true_eq_false, false_and, true_and, and_false, and_true, or_self, or_false, false_or, or_true, true_or, cont_x, n_leF, c_1, l64_1, Nat.pow_zero]
  · (rw [k165_5]; simp (disch := first | assumption | omega) only [in165, k165_0, k165_1, k165_2, k165_3, k165_7, k165_8, k165_11, k165_12, k165_13, k165_14, k165_15, k165_16, k165_19, k165_22, k165_23, c_0, c_1, hS, t_16, f_16_0, f_16_1, f_16_2, f_16_3, f_16_4, f_16_5, f_16_6, f_16_7, f_16_8, f_16_9, f_16_10, f_16_11, f_16_12, f_16_13, t_17, f_17_0, t_18, l_18, t_19, f_19_0, f_19_1, f_19_2, f_19_3, f_19_4, f_19_5, f_19_6, t_20, l_20, t_21, l_21, t_22, l_22, t_23, l_23, t_24, l_24, t_25, l_25, t_26, l_26, t_27, f_27_0, f_27_1, f_27_2, f_27_3, f_27_4, f_27_5, f_27_6, t_28, l_28, t_29, l_29, t_30, l_30, t_31, l_31, t_32, l_32, t_33, l_33, t_34, l_34, t_35, f_35_0, f_35_1, t_36, l_36, t_37, l_37, t_38, f_38_0, f_38_1, t_39, l_39, t_40, l_40, t_41, f_41_0, t_42, l_42, t_43, f_43_0, t_44, l_44, t_45, f_45_0, f_45_1, f_45_2, f_45_3, t_46, l_46, t_47, l_47, t_48, l_48, t_49, l_49, t_50, l_50, t_51, f_51_0, f_51_1, f_51_2, f_51_3, t_52, l_52, t_53, l_53, t_54, f_54_0, f_54_1, f_54_2, f_54_3, t_55, l_55, t_56, l_56, t_57, f_57_0, f_57_1, f_57_2, f_57_3, t_58, l_58, t_59, l_59, t_60, l_60, t_61, f_61_0, f_61_1, f_61_2, f_61_3, f_61_4, f_61_5, f_61_6, t_62, l_62, t_63, f_63_0, f_63_1, t_64, l_64, t_65, l_65, t_66, f_66_0, f_66_1, t_67, l_67, t_68, l_68, t_69, l_69, t_70, f_70_0, f_70_1, t_1, l_1, t_2, l_2, m_t, m_f0, m_f1, m_f2, m_f3, m_t1, m_l1, m_t2, m_l2, rowX_s, rowX_n, rowX_f, rowX_2, up_s, up_n, Nat.zero_add, n_m1, i_dec, cat_n, cat_i, cat_r, cat_l, i_add, i_tn, i_vi, i_lt, i_eq, i_shl, n_ltT, n_ltF, n_eqT, n_eqF, n_leT, t_and, nb_0, nb_1, b2_0, b2_n, cont_v, cont_n, ex_eq, u_s, u_c, u_j, ↓reduceIte, ite_not, not_true_eq_false, not_false_eq_true, Bool.false_eq_true, Bool.true_eq_false, false_and, true_and, and_false, and_true, or_self, or_false, false_or, or_true, true_or, cont_x, n_leF, c_1])
theorem c164 {d n : Nat} {I : VI} {L : VL} {S : SW} {r : Res} (hS : S.1 = W0 n) {m k q : Nat} (hm : m ≤ 12) (hk : k ≤ 13) (hq : q ≤ 16) : EvD (d + 2) 164 [.int (i32 m), .int (i32 k), .int (i32 q)] I L S r ↔ r = (.inl (some (.long (l64 (wyN m k q (m + 1))))), I, L, S) := by
  have h := up_to (P := fun t => Ev (d + 1) 164 8 [.int (i32 m), .int (i32 k), .int (i32 q), .long (l64 (wyN m k q t)), .retAddr 1, .long (l64 (chN m t)), .retAddr 1, .int (i32 t)] [] I L S r) (n := m + 1) (fun t ht => by
    have hb := (ch_b m (by omega) t (by omega)).1
    have h0 : ¬ t + 1 = 0 := by omega
    have ec : chN m t * (m - t) / (t + 1) = chN m (t + 1) := rfl
    by_cases hkt : k ≤ t
    · have ew : wyN m k q t + chN m t * q ^ t * (16 - q) ^ (m - t) = wyN m k q (t + 1) := by rw [wyN, if_pos hkt]
      (rw [k164_8]; simp (disch := first | assumption | omega) only [in164, k164_0, k164_1, k164_2, k164_3, k164_5, k164_6, k164_10, k164_11, k164_14, k164_16, k164_17, k164_20, k164_21, k164_23, k164_24, k164_26, k164_29, k164_30, k164_32, k164_33, k164_34, k164_35, k164_37, k164_38, k164_41, k164_42, k164_43, k164_44, k164_46, k164_47, k164_49, k164_50, k164_51, k164_52, k164_54, k164_55, k164_56, k164_57, k164_58, k164_60, k164_63, k164_66, k164_67, c_0, c_1, c_16, hS, t_16, f_16_0, f_16_1, f_16_2, f_16_3, f_16_4, f_16_5, f_16_6, f_16_7, f_16_8, f_16_9, f_16_10, f_16_11, f_16_12, f_16_13, t_17, f_17_0, t_18, l_18, t_19, f_19_0, f_19_1, f_19_2, f_19_3, f_19_4, f_19_5, f_19_6, t_20, l_20, t_21, l_21, t_22, l_22, t_23, l_23, t_24, l_24, t_25, l_25, t_26, l_26, t_27, f_27_0, f_27_1, f_27_2, f_27_3, f_27_4, f_27_5, f_27_6, t_28, l_28, t_29, l_29, t_30, l_30, t_31, l_31, t_32, l_32, t_33, l_33, t_34, l_34, t_35, f_35_0, f_35_1, t_36, l_36, t_37, l_37, t_38, f_38_0, f_38_1, t_39, l_39, t_40, l_40, t_41, f_41_0, t_42, l_42, t_43, f_43_0, t_44, l_44, t_45, f_45_0, f_45_1, f_45_2, f_45_3, t_46, l_46, t_47, l_47, t_48, l_48, t_49, l_49, t_50, l_50, t_51, f_51_0, f_51_1, f_51_2, f_51_3, t_52, l_52, t_53, l_53, t_54, f_54_0, f_54_1, f_54_2, f_54_3, t_55, l_55, t_56, l_56, t_57, f_57_0, f_57_1, f_57_2, f_57_3, t_58, l_58, t_59, l_59, t_60, l_60, t_61, f_61_0, f_61_1, f_61_2, f_61_3, f_61_4, f_61_5, f_61_6, t_62, l_62, t_63, f_63_0, f_63_1, t_64, l_64, t_65, l_65, t_66, f_66_0, f_66_1, t_67, l_67, t_68, l_68, t_69, l_69, t_70, f_70_0, f_70_1, t_1, l_1, t_2, l_2, m_t, m_f0, m_f1, m_f2, m_f3, m_t1, m_l1, m_t2, m_l2, rowX_s, rowX_n, rowX_f, rowX_2, up_s, up_n, Nat.zero_add, n_m1, i_dec, cat_n, cat_i, cat_r, cat_l, i_add, i_tn, i_vi, i_lt, i_eq, i_shl, n_ltT, n_ltF, n_eqT, n_eqF, n_leT, t_and, nb_0, nb_1, b2_0, b2_n, cont_v, cont_n, ex_eq, u_s, u_c, u_j, ↓reduceIte, ite_not, not_true_eq_false, not_false_eq_true, Bool.false_eq_true, Bool.true_eq_false, false_and, true_and, and_false, and_true, or_self, or_false, false_or, or_true, true_or, cont_x, n_leF, c_1, hkt, i_sub, c165 hS, l64_mul, l64_add, ew, i_64, l64_0, l64_eq, h0, l64_div, ec])
    · have ew : wyN m k q (t + 1) = wyN m k q t := by rw [wyN, if_neg hkt, Nat.add_zero]
      rw [ew]
      (rw [k164_8]; simp (disch := first | assumption | omega) only [in164, k164_0, k164_1, k164_2, k164_3, k164_5, k164_6, k164_10, k164_11, k164_14, k164_16, k164_17, k164_20, k164_21, k164_23, k164_24, k164_26, k164_29, k164_30, k164_32, k164_33, k164_34, k164_35, k164_37, k164_38, k164_41, k164_42, k164_43, k164_44, k164_46, k164_47, k164_49, k164_50, k164_51, k164_52, k164_54, k164_55, k164_56, k164_57, k164_58, k164_60, k164_63, k164_66, k164_67, c_0, c_1, c_16, hS, t_16, f_16_0, f_16_1, f_16_2, f_16_3, f_16_4, f_16_5, f_16_6, f_16_7, f_16_8, f_16_9, f_16_10, f_16_11, f_16_12, f_16_13, t_17, f_17_0, t_18, l_18, t_19, f_19_0, f_19_1, f_19_2, f_19_3, f_19_4, f_19_5, f_19_6, t_20, l_20, t_21, l_21, t_22, l_22, t_23, l_23, t_24, l_24, t_25, l_25, t_26, l_26, t_27, f_27_0, f_27_1, f_27_2, f_27_3, f_27_4, f_27_5, f_27_6, t_28, l_28, t_29, l_29, t_30, l_30, t_31, l_31, t_32, l_32, t_33, l_33, t_34, l_34, t_35, f_35_0, f_35_1, t_36, l_36, t_37, l_37, t_38, f_38_0, f_38_1, t_39, l_39, t_40, l_40, t_41, f_41_0, t_42, l_42, t_43, f_43_0, t_44, l_44, t_45, f_45_0, f_45_1, f_45_2, f_45_3, t_46, l_46, t_47, l_47, t_48, l_48, t_49, l_49, t_50, l_50, t_51, f_51_0, f_51_1, f_51_2, f_51_3, t_52, l_52, t_53, l_53, t_54, f_54_0, f_54_1, f_54_2, f_54_3, t_55, l_55, t_56, l_56, t_57, f_57_0, f_57_1, f_57_2, f_57_3, t_58, l_58, t_59, l_59, t_60, l_60, t_61, f_61_0, f_61_1, f_61_2, f_61_3, f_61_4, f_61_5, f_61_6, t_62, l_62, t_63, f_63_0, f_63_1, t_64, l_64, t_65, l_65, t_66, f_66_0, f_66_1, t_67, l_67, t_68, l_68, t_69, l_69, t_70, f_70_0, f_70_1, t_1, l_1, t_2, l_2, m_t, m_f0, m_f1, m_f2, m_f3, m_t1, m_l1, m_t2, m_l2, rowX_s, rowX_n, rowX_f, rowX_2, up_s, up_n, Nat.zero_add, n_m1, i_dec, cat_n, cat_i, cat_r, cat_l, i_add, i_tn, i_vi, i_lt, i_eq, i_shl, n_ltT, n_ltF, n_eqT, n_eqF, n_leT, t_and, nb_0, nb_1, b2_0, b2_n, cont_v, cont_n, ex_eq, u_s, u_c, u_j, ↓reduceIte, ite_not, not_true_eq_false, not_false_eq_true, Bool.false_eq_true, Bool.true_eq_false, false_and, true_and, and_false, and_true, or_self, or_false, false_or, or_true, true_or, cont_x, n_leF, c_1, hkt, i_sub, c165 hS, l64_mul, i_64, l64_0, l64_eq, h0, l64_div, ec])) 0 (Nat.zero_le _)
  refine Iff.trans ?_ (h.trans ?_)
  · have e1 : wyN m k q 0 = 0 := rfl
    have e2 : chN m 0 = 1 := rfl
    simp (disch := first | assumption | omega) only [in164, k164_0, k164_1, k164_2, k164_3, k164_5, k164_6, k164_10, k164_11, k164_14, k164_16, k164_17, k164_20, k164_21, k164_23, k164_24, k164_26, k164_29, k164_30, k164_32, k164_33, k164_34, k164_35, k164_37, k164_38, k164_41, k164_42, k164_43, k164_44, k164_46, k164_47, k164_49, k164_50, k164_51, k164_52, k164_54, k164_55, k164_56, k164_57, k164_58, k164_60, k164_63, k164_66, k164_67, c_0, c_1, c_16, hS, t_16, f_16_0, f_16_1, f_16_2, f_16_3, f_16_4, f_16_5, f_16_6, f_16_7, f_16_8, f_16_9, f_16_10, f_16_11, f_16_12, f_16_13, t_17, f_17_0, t_18, l_18, t_19, f_19_0, f_19_1, f_19_2, f_19_3, f_19_4, f_19_5, f_19_6, t_20, l_20, t_21, l_21, t_22, l_22, t_23, l_23, t_24, l_24, t_25, l_25, t_26, l_26, t_27, f_27_0, f_27_1, f_27_2, f_27_3, f_27_4, f_27_5, f_27_6, t_28, l_28, t_29, l_29, t_30, l_30, t_31, l_31, t_32, l_32, t_33, l_33, t_34, l_34, t_35, f_35_0, f_35_1, t_36, l_36, t_37, l_37, t_38, f_38_0, f_38_1, t_39, l_39, t_40, l_40, t_41, f_41_0, t_42, l_42, t_43, f_43_0, t_44, l_44, t_45, f_45_0, f_45_1, f_45_2, f_45_3, t_46, l_46, t_47, l_47, t_48, l_48, t_49, l_49, t_50, l_50, t_51, f_51_0, f_51_1, f_51_2, f_51_3, t_52, l_52, t_53, l_53, t_54, f_54_0, f_54_1, f_54_2, f_54_3, t_55, l_55, t_56, l_56, t_57, f_57_0, f_57_1, f_57_2, f_57_3, t_58, l_58, t_59, l_59, t_60, l_60, t_61, f_61_0, f_61_1, f_61_2, f_61_3, f_61_4, f_61_5, f_61_6, t_62, l_62, t_63, f_63_0, f_63_1, t_64, l_64, t_65, l_65, t_66, f_66_0, f_66_1, t_67, l_67, t_68, l_68, t_69, l_69, t_70, f_70_0, f_70_1, t_1, l_1, t_2, l_2, m_t, m_f0, m_f1, m_f2, m_f3, m_t1, m_l1, m_t2, m_l2, rowX_s, rowX_n, rowX_f, rowX_2, up_s, up_n, Nat.zero_add, n_m1, i_dec, cat_n, cat_i, cat_r, cat_l, i_add, i_tn, i_vi, i_lt, i_eq, i_shl, n_ltT, n_ltF, n_eqT, n_eqF, n_leT, t_and, nb_0, nb_1, b2_0, b2_n, cont_v, cont_n, ex_eq, u_s, u_c, u_j, ↓reduceIte, ite_not, not_true_eq_false, not_false_eq_true, Bool.false_eq_true, Bool.true_eq_false, false_and, true_and, and_false, and_true, or_self, or_false, false_or, or_true, true_or, cont_x, n_leF, c_1, l64_1, l64_0, e1, e2]
  · (rw [k164_8]; simp (disch := first | assumption | omega) only [in164, k164_0, k164_1, k164_2, k164_3, k164_5, k164_6, k164_10, k164_11, k164_14, k164_16, k164_17, k164_20, k164_21, k164_23, k164_24, k164_26, k164_29, k164_30, k164_32, k164_33, k164_34, k164_35, k164_37, k164_38, k164_41, k164_42, k164_43, k164_44, k164_46, k164_47, k164_49, k164_50, k164_51, k164_52, k164_54, k164_55, k164_56, k164_57, k164_58, k164_60, k164_63, k164_66, k164_67, c_0, c_1, c_16, hS, t_16, f_16_0, f_16_1, f_16_2, f_16_3, f_16_4, f_16_5, f_16_6, f_16_7, f_16_8, f_16_9, f_16_10, f_16_11, f_16_12, f_16_13, t_17, f_17_0, t_18, l_18, t_19, f_19_0, f_19_1, f_19_2, f_19_3, f_19_4, f_19_5, f_19_6, t_20, l_20, t_21, l_21, t_22, l_22, t_23, l_23, t_24, l_24, t_25, l_25, t_26, l_26, t_27, f_27_0, f_27_1, f_27_2, f_27_3, f_27_4, f_27_5, f_27_6, t_28, l_28, t_29, l_29, t_30, l_30, t_31, l_31, t_32, l_32, t_33, l_33, t_34, l_34, t_35, f_35_0, f_35_1, t_36, l_36, t_37, l_37, t_38, f_38_0, f_38_1, t_39, l_39, t_40, l_40, t_41, f_41_0, t_42, l_42, t_43, f_43_0, t_44, l_44, t_45, f_45_0, f_45_1, f_45_2, f_45_3, t_46, l_46, t_47, l_47, t_48, l_48, t_49, l_49, t_50, l_50, t_51, f_51_0, f_51_1, f_51_2, f_51_3, t_52, l_52, t_53, l_53, t_54, f_54_0, f_54_1, f_54_2, f_54_3, t_55, l_55, t_56, l_56, t_57, f_57_0, f_57_1, f_57_2, f_57_3, t_58, l_58, t_59, l_59, t_60, l_60, t_61, f_61_0, f_61_1, f_61_2, f_61_3, f_61_4, f_61_5, f_61_6, t_62, l_62, t_63, f_63_0, f_63_1, t_64, l_64, t_65, l_65, t_66, f_66_0, f_66_1, t_67, l_67, t_68, l_68, t_69, l_69, t_70, f_70_0, f_70_1, t_1, l_1, t_2, l_2, m_t, m_f0, m_f1, m_f2, m_f3, m_t1, m_l1, m_t2, m_l2, rowX_s, rowX_n, rowX_f, rowX_2, up_s, up_n, Nat.zero_add, n_m1, i_dec, cat_n, cat_i, cat_r, cat_l, i_add, i_tn, i_vi, i_lt, i_eq, i_shl, n_ltT, n_ltF, n_eqT, n_eqF, n_leT, t_and, nb_0, nb_1, b2_0, b2_n, cont_v, cont_n, ex_eq, u_s, u_c, u_j, ↓reduceIte, ite_not, not_true_eq_false, not_false_eq_true, Bool.false_eq_true, Bool.true_eq_false, false_and, true_and, and_false, and_true, or_self, or_false, false_or, or_true, true_or, cont_x, n_leF, c_1])
