/-! THE LAW: what a stack does with it -/
def opv (k : Nat) (a b : Int32) : Int32 := if k = 2 then a + b else if k = 3 then a - b else if k = 4 then a * b else if k = 5 then (if b = i32 0 then i32 0 else a / b) else if k = 6 then (if b = i32 0 then i32 0 else a - a / b * b) else if k = 7 then mnI a b else mxI a b
/-- how the component writes what the reference writes as two ints -/
def cod (e : Nat × Nat) : Nat := if e.1 = 0 then 16 + e.2 else if e.1 = 1 then e.2 else if e.1 = 7 then 9 else if e.1 = 8 then 10 else e.1 + 9
def okQ (e : Nat × Nat) : Prop := e.1 ≤ 8 ∧ e.2 ≤ 999 ∧ (e.1 = 1 → e.2 < 9)
def updF (f : Nat → Int32) (j : Nat) (x : Int32) : Nat → Int32 := fun j' => if j' = j then x else f j'
def stQ (t : Nat → Int32) (e : Nat × Nat) (s : Nat × (Nat → Int32)) : Nat × (Nat → Int32) :=
  if e.1 = 0 then (s.1 + 1, updF s.2 s.1 (i32 e.2)) else if e.1 = 1 then (s.1 + 1, updF s.2 s.1 (t e.2)) else (s.1 - 1, updF s.2 (s.1 - 2) (opv e.1 (s.2 (s.1 - 2)) (s.2 (s.1 - 1))))
def runQ (q : Nat → Nat × Nat) (t : Nat → Int32) (s0 : Nat → Int32) : Nat → Nat × (Nat → Int32)
  | 0 => (0, s0)
  | k + 1 => stQ t (q k) (runQ q t s0 k)
def depQ (q : Nat → Nat × Nat) : Nat → Nat
  | 0 => 0
  | k + 1 => if (q k).1 < 2 then depQ q k + 1 else depQ q k - 1
theorem run_dep {q : Nat → Nat × Nat} {t s0 : Nat → Int32} {k : Nat} : (runQ q t s0 k).1 = depQ q k := by
  induction k with
  | zero => rfl
  | succ k ih =>
    rw [runQ, stQ, depQ]
    by_cases h0 : (q k).1 = 0
    · rw [if_pos h0, if_pos (by omega)]; show (runQ q t s0 k).1 + 1 = _; rw [ih]
    · rw [if_neg h0]
      by_cases h1 : (q k).1 = 1
      · rw [if_pos h1, if_pos (by omega)]; show (runQ q t s0 k).1 + 1 = _; rw [ih]
      · rw [if_neg h1, if_neg (by omega)]; show (runQ q t s0 k).1 - 1 = _; rw [ih]
theorem dep_le {q : Nat → Nat × Nat} {k : Nat} : depQ q k ≤ k := by
  induction k with
  | zero => exact Nat.le_refl _
  | succ k ih => rw [depQ]; split <;> omega
/-- what is read as a law: each entry sound, two on the stack where two are taken -/
def vaQ (q : Nat → Nat × Nat) (n : Nat) : Prop := ∀ k, k < n → okQ (q k) ∧ (2 ≤ (q k).1 → 2 ≤ depQ q k)
theorem run_agree {q : Nat → Nat × Nat} {t t' s0 s0' : Nat → Int32} {n : Nat} (hv : vaQ q n) (ht : ∀ j, j < 9 → t j = t' j) : ∀ k, k ≤ n → ∀ j, j < depQ q k → (runQ q t s0 k).2 j = (runQ q t' s0' k).2 j := by
  intro k
  induction k with
  | zero => intro _ j hj; exact absurd hj (Nat.not_lt_zero _)
  | succ k ih =>
    intro hk j hj
    have ih := ih (by omega)
    obtain ⟨⟨hq, hq9, hq1⟩, hd⟩ := hv k (by omega)
    have e1 := run_dep (q := q) (t := t) (s0 := s0) (k := k)
    have e2 := run_dep (q := q) (t := t') (s0 := s0') (k := k)
    rw [depQ] at hj
    rw [runQ, runQ, stQ, stQ, e1, e2]
    by_cases h0 : (q k).1 = 0
    · rw [if_pos (by omega)] at hj
      rw [if_pos h0, if_pos h0]
      show updF _ _ _ j = updF _ _ _ j
      unfold updF
      by_cases e : j = depQ q k
      · rw [if_pos e, if_pos e]
      · rw [if_neg e, if_neg e]; exact ih j (by omega)
    · rw [if_neg h0, if_neg h0]
      by_cases h1 : (q k).1 = 1
      · rw [if_pos (by omega)] at hj
        rw [if_pos h1, if_pos h1]
        show updF _ _ _ j = updF _ _ _ j
        unfold updF
        by_cases e : j = depQ q k
        · rw [if_pos e, if_pos e]; exact ht _ (hq1 h1)
        · rw [if_neg e, if_neg e]; exact ih j (by omega)
      · rw [if_neg (by omega)] at hj
        have := hd (by omega)
        rw [if_neg h1, if_neg h1]
        show updF _ _ _ j = updF _ _ _ j
        unfold updF
        by_cases e : j = depQ q k - 2
        · rw [if_pos e, if_pos e, ih _ (by omega), ih _ (by omega)]
        · rw [if_neg e, if_neg e]; exact ih j (by omega)
theorem dep_pos {q : Nat → Nat × Nat} {n : Nat} (hv : vaQ q n) : ∀ k, k < n → 1 ≤ depQ q (k + 1) := by
  intro k hk
  obtain ⟨⟨hq, hq9, hq1⟩, hd⟩ := hv k hk
  rw [depQ]; split
  · omega
  · have := hd (by omega); omega
def clamp (x : Int32) : Int32 := mnI (i32 99) (mxI (i32 0) x)
theorem clamp_c {x : Int32} : mxI (i32 0) (mnI (i32 99) x) = clamp x := by
  unfold clamp mnI mxI
  have h0 : (i32 0).toInt = 0 := by decide
  have h9 : (i32 99).toInt = 99 := by decide
  by_cases h1 : x < i32 0
  · have h2 : ¬ i32 99 < x := fun h => by rw [Int32.lt_iff_toInt_lt] at h h1; omega
    rw [if_neg h2, if_pos h1]; decide
  · by_cases h2 : i32 99 < x
    · rw [if_pos h2, if_neg h1, if_pos h2]; decide
    · rw [if_neg h2, if_neg h1, if_neg h2]
theorem clamp_le {x : Int32} : i32 0 ≤ clamp x ∧ clamp x ≤ i32 99 := by
  unfold clamp mnI mxI
  simp only [Int32.le_iff_toInt_le]
  have h0 : (i32 0).toInt = 0 := by decide
  have h9 : (i32 99).toInt = 99 := by decide
  constructor <;> (repeat' split) <;> simp_all only [Int32.lt_iff_toInt_lt] <;> omega
/-- flour by a law -/
def lawQ (q : Nat → Nat × Nat) (n : Nat) (t : Nat → Int32) : Int32 := clamp ((runQ q t (fun _ => i32 0) n).2 0)
theorem lawQ_any {q : Nat → Nat × Nat} {n : Nat} {t t' s0 : Nat → Int32} (hv : vaQ q n) (hn : 0 < n) (ht : ∀ j, j < 9 → t j = t' j) : clamp ((runQ q t s0 n).2 0) = lawQ q n t' := by
  unfold lawQ
  obtain ⟨k, rfl⟩ : ∃ k, n = k + 1 := ⟨n - 1, by omega⟩
  rw [run_agree (s0' := fun _ => i32 0) hv ht (k + 1) (Nat.le_refl _) 0 (dep_pos hv k (by omega))]
theorem c16 {d n : Nat} {I : VI} {L : VL} {S : SW} {r : Res} (hS : S.1 = W0 n) {k : Nat} {a b : Int32} (h2 : 2 ≤ k) (h8 : k ≤ 8) : EvD (d + 2) 16 [.int (i32 (cod (k, 0))), .int a, .int b] I L S r ↔ r = (.inl (some (.int (opv k a b))), I, L, S) := by
  have : k = 2 ∨ k = 3 ∨ k = 4 ∨ k = 5 ∨ k = 6 ∨ k = 7 ∨ k = 8 := by omega
  rcases this with rfl | rfl | rfl | rfl | rfl | rfl | rfl <;> simp only [cod, opv] <;> simp (disch := first | assumption | omega) only [in16, k16_0, k16_1, k16_40, k16_41, k16_42, k16_45, k16_46, k16_47, k16_48, k16_51, k16_52, k16_53, k16_54, k16_55, k16_56, k16_57, k16_58, k16_59, k16_60, k16_61, k16_62, k16_63, k16_64, k16_65, k16_68, k16_69, k16_72, k16_73, k16_74, k16_75, k16_76, k16_77, k16_80, k16_81, k16_84, k16_85, k16_86, k16_87, c_0, c_1, c_2, c_3, c_4, c_5, c_6, c_7, c_8, c_9, c_10, c_11, c_12, c_13, c_14, c_15, c_16, hS, t_16, f_16_0, f_16_1, f_16_2, f_16_3, f_16_4, f_16_5, f_16_6, f_16_7, f_16_8, f_16_9, f_16_10, f_16_11, f_16_12, f_16_13, t_17, f_17_0, t_18, l_18, t_19, f_19_0, f_19_1, f_19_2, f_19_3, f_19_4, f_19_5, f_19_6, t_20, l_20, t_21, l_21, t_22, l_22, t_23, l_23, t_24, l_24, t_25, l_25, t_26, l_26, t_27, f_27_0, f_27_1, f_27_2, f_27_3, f_27_4, f_27_5, f_27_6, t_28, l_28, t_29, l_29, t_30, l_30, t_31, l_31, t_32, l_32, t_33, l_33, t_34, l_34, t_35, f_35_0, f_35_1, t_36, l_36, t_37, l_37, t_38, f_38_0, f_38_1, t_39, l_39, t_40, l_40, t_41, f_41_0, t_42, l_42, t_43, f_43_0, t_44, l_44, t_45, f_45_0, f_45_1, f_45_2, f_45_3, t_46, l_46, t_47, l_47, t_48, l_48, t_49, l_49, t_50, l_50, t_51, f_51_0, f_51_1, f_51_2, f_51_3, t_52, l_52, t_53, l_53, t_54, f_54_0, f_54_1, f_54_2, f_54_3, t_55, l_55, t_56, l_56, t_57, f_57_0, f_57_1, f_57_2, f_57_3, t_58, l_58, t_59, l_59, t_60, l_60, t_61, f_61_0, f_61_1, f_61_2, f_61_3, f_61_4, f_61_5, f_61_6, t_62, l_62, t_63, f_63_0, f_63_1, t_64, l_64, t_65, l_65, t_66, f_66_0, f_66_1, t_67, l_67, t_68, l_68, t_69, l_69, t_70, f_70_0, f_70_1, t_1, l_1, t_2, l_2, m_t, m_f0, m_f1, m_f2, m_f3, m_t1, m_l1, m_t2, m_l2, n_m1, i_dec, cat_n, cat_i, cat_r, cat_l, i_add, i_tn, i_vi, i_lt, i_eq, i_shl, n_ltT, n_ltF, n_eqT, n_eqF, n_leT, t_and, nb_0, nb_1, b2_0, b2_n, cont_v, cont_n, ex_eq, u_s, u_c, u_j, reduceIte, ite_not, not_true_eq_false, not_false_eq_true, Bool.false_eq_true, Bool.true_eq_false, false_and, true_and, and_false, and_true, c287 hS, c288 hS] <;> by_cases hb : b = i32 0 <;> simp only [hb, if_true, if_false, not_true_eq_false, not_false_eq_true, true_and]
def rowX (X : VI) (c : Nat) (f : Nat → Int32) : VI := fun c' j => if c' = c then f j else X c' j
theorem rowX_s {X : VI} {c j : Nat} {f : Nat → Int32} : rowX X c f c j = f j := if_pos rfl
theorem rowX_n {X : VI} {c c' j : Nat} {f : Nat → Int32} (h : c' ≠ c) : rowX X c f c' j = X c' j := if_neg h
theorem rowX_u {X : VI} {c j : Nat} {f : Nat → Int32} {x : Int32} : u2 (rowX X c f) c j x = rowX X c (updF f j x) := by
  funext c' j'
  by_cases h : c' = c
  · subst h; simp only [u2, rowX, updF, if_true]
  · simp only [u2, rowX, if_neg h]
theorem rowX_self {X : VI} {c : Nat} : rowX X c (X c) = X := by
  funext c' j'
  by_cases h : c' = c
  · subst h; exact rowX_s
  · exact rowX_n h
theorem i_of {k : Nat} : Int32.ofNat k = i32 k := rfl
def lv (v0 : Value) (f : Nat → Int32) : Nat → Value
  | 0 => v0
  | k + 1 => .int (f k)
/-- the component's law: its codes -/
def isLawC (I : VI) (q : Nat → Nat × Nat) (sz : Nat) : Prop := I 35 2 = i32 sz ∧ 0 < sz ∧ sz ≤ 150 ∧ vaQ q sz ∧ ∀ k, k < sz → I 36 k = i32 (cod (q k))
set_option maxHeartbeats 4000000 in
theorem c15 {d n : Nat} {I X : VI} {L : VL} {S : SW} {r : Res} (hS : S.1 = W0 n) {t : Nat} {q : Nat → Nat × Nat} {sz : Nat} {tt : Nat → Int32} (hq : isLawC I q sz) (ht : t = 53 ∨ t = 56 ∨ t = 50) (htt : ∀ j, j < 9 → ov I X t j = tt j) : EvD (d + 3) 15 [.ref 35, .ref t] (ov I X) L S r ↔ r = (.inl (some (.int (lawQ q sz tt))), ov I (rowX X 37 (runQ q (ov I X t) (X 37) sz).2), L, S) := by
  obtain ⟨h2, h1, h150, hv, hc⟩ := hq
  have tt100 : tagW (W0 n) t = 100 := by rcases ht with h | h | h <;> rw [h] <;> rfl
  have tt9 : lenW (W0 n) t = 9 := by rcases ht with h | h | h <;> rw [h] <;> rfl
  have ht37 : t ≠ 37 := by omega
  have e0 : ov I X = ov I (rowX X 37 (runQ q (ov I X t) (X 37) 0).2) := by
    show _ = ov I (rowX X 37 (X 37)); rw [rowX_self]
  have er : ∀ f j, ov I (rowX X 37 f) t j = ov I X t j := fun f j => by
    unfold ov; rw [rowX_n ht37]
  refine Iff.trans (b := Ev (d + 2) 15 4 [.ref 35, .ref t, .int (i32 0), .int (i32 0), .retAddr 0] [] (ov I (rowX X 37 (runQ q (ov I X t) (X 37) 0).2)) L S r) ?_ ?_
  · rw [← e0]
    simp (disch := first | assumption | omega) only [in15, k15_0, k15_1, k15_2, k15_3, k15_5, k15_6, k15_9, k15_12, k15_13, k15_14, k15_17, k15_18, k15_21, k15_22, k15_23, k15_26, k15_27, k15_30, k15_31, k15_34, k15_35, k15_36, k15_38, k15_40, k15_42, k15_45, k15_46, k15_49, k15_50, k15_52, k15_54, k15_55, k15_56, k15_59, k15_62, k15_64, k15_67, k15_69, k15_71, k15_74, k15_76, k15_77, k15_78, k15_81, k15_82, k15_85, k15_86, k15_87, k15_89, k15_90, k15_91, k15_94, k15_97, k15_98, k15_99, k15_102, k15_103, k15_106, k15_107, k15_108, k15_109, k15_111, k15_112, k15_115, k15_116, k15_117, k15_118, k15_119, k15_120, k15_123, k15_124, k15_125, k15_126, k15_127, k15_130, k15_131, k15_134, k15_137, k15_140, k15_141, k15_143, k15_144, k15_147, k15_148, k15_149, k15_152, k15_155, c_0, c_1, c_2, c_9, c_16, c_99, hS, t_16, f_16_0, f_16_1, f_16_2, f_16_3, f_16_4, f_16_5, f_16_6, f_16_7, f_16_8, f_16_9, f_16_10, f_16_11, f_16_12, f_16_13, t_17, f_17_0, t_18, l_18, t_19, f_19_0, f_19_1, f_19_2, f_19_3, f_19_4, f_19_5, f_19_6, t_20, l_20, t_21, l_21, t_22, l_22, t_23, l_23, t_24, l_24, t_25, l_25, t_26, l_26, t_27, f_27_0, f_27_1, f_27_2, f_27_3, f_27_4, f_27_5, f_27_6, t_28, l_28, t_29, l_29, t_30, l_30, t_31, l_31, t_32, l_32, t_33, l_33, t_34, l_34, t_35, f_35_0, f_35_1, t_36, l_36, t_37, l_37, t_38, f_38_0, f_38_1, t_39, l_39, t_40, l_40, t_41, f_41_0, t_42, l_42, t_43, f_43_0, t_44, l_44, t_45, f_45_0, f_45_1, f_45_2, f_45_3, t_46, l_46, t_47, l_47, t_48, l_48, t_49, l_49, t_50, l_50, t_51, f_51_0, f_51_1, f_51_2, f_51_3, t_52, l_52, t_53, l_53, t_54, f_54_0, f_54_1, f_54_2, f_54_3, t_55, l_55, t_56, l_56, t_57, f_57_0, f_57_1, f_57_2, f_57_3, t_58, l_58, t_59, l_59, t_60, l_60, t_61, f_61_0, f_61_1, f_61_2, f_61_3, f_61_4, f_61_5, f_61_6, t_62, l_62, t_63, f_63_0, f_63_1, t_64, l_64, t_65, l_65, t_66, f_66_0, f_66_1, t_67, l_67, t_68, l_68, t_69, l_69, t_70, f_70_0, f_70_1, t_1, l_1, t_2, l_2, m_t, m_f0, m_f1, m_f2, m_f3, m_t1, m_l1, m_t2, m_l2, n_m1, i_dec, cat_n, cat_i, cat_r, cat_l, i_add, i_tn, i_vi, i_lt, i_eq, i_shl, n_ltT, n_ltF, n_eqT, n_eqF, n_leT, t_and, nb_0, nb_1, b2_0, b2_n, cont_v, cont_n, ex_eq, u_s, u_c, u_j, reduceIte, ite_not, not_true_eq_false, not_false_eq_true, Bool.false_eq_true, Bool.true_eq_false, false_and, true_and, and_false, and_true]
  refine Iff.trans (up_to (P := fun k => Ev (d + 2) 15 4 [.ref 35, .ref t, .int (i32 (runQ q (ov I X t) (X 37) k).1), .int (i32 k), lv (.retAddr 0) (I 36) k] [] (ov I (rowX X 37 (runQ q (ov I X t) (X 37) k).2)) L S r) (n := sz) (fun k hk => ?_) 0 (Nat.zero_le _)) ?_
  · obtain ⟨⟨hq8, hq9, hq1⟩, hdp⟩ := hv k hk
    have hc := hc k hk
    have hdep := run_dep (q := q) (t := ov I X t) (s0 := X 37) (k := k)
    have hle := dep_le (q := q) (k := k)
    rw [runQ]
    generalize hg : runQ q (ov I X t) (X 37) k = g at *
    obtain ⟨g1, g2⟩ := g
    simp only at hdep
    subst hdep
    generalize depQ q k = dp at *
    rw [show lv (.retAddr 0) (I 36) (k + 1) = .int (I 36 k) from rfl]
    generalize lv (.retAddr 0) (I 36) k = lvk
    generalize hqk : q k = e at *
    obtain ⟨e1, e2⟩ := e
    simp only at hq8 hq9 hq1 hdp
    by_cases k0 : e1 = 0
    · subst k0
      rw [show cod (0, e2) = 16 + e2 from rfl] at hc
      (rw [k15_4]; simp (disch := first | assumption | omega) only [in15, k15_0, k15_1, k15_2, k15_3, k15_5, k15_6, k15_9, k15_12, k15_13, k15_14, k15_17, k15_18, k15_21, k15_22, k15_23, k15_26, k15_27, k15_30, k15_31, k15_34, k15_35, k15_36, k15_38, k15_40, k15_42, k15_45, k15_46, k15_49, k15_50, k15_52, k15_54, k15_55, k15_56, k15_59, k15_62, k15_64, k15_67, k15_69, k15_71, k15_74, k15_76, k15_77, k15_78, k15_81, k15_82, k15_85, k15_86, k15_87, k15_89, k15_90, k15_91, k15_94, k15_97, k15_98, k15_99, k15_102, k15_103, k15_106, k15_107, k15_108, k15_109, k15_111, k15_112, k15_115, k15_116, k15_117, k15_118, k15_119, k15_120, k15_123, k15_124, k15_125, k15_126, k15_127, k15_130, k15_131, k15_134, k15_137, k15_140, k15_141, k15_143, k15_144, k15_147, k15_148, k15_149, k15_152, k15_155, c_0, c_1, c_2, c_9, c_16, c_99, hS, t_16, f_16_0, f_16_1, f_16_2, f_16_3, f_16_4, f_16_5, f_16_6, f_16_7, f_16_8, f_16_9, f_16_10, f_16_11, f_16_12, f_16_13, t_17, f_17_0, t_18, l_18, t_19, f_19_0, f_19_1, f_19_2, f_19_3, f_19_4, f_19_5, f_19_6, t_20, l_20, t_21, l_21, t_22, l_22, t_23, l_23, t_24, l_24, t_25, l_25, t_26, l_26, t_27, f_27_0, f_27_1, f_27_2, f_27_3, f_27_4, f_27_5, f_27_6, t_28, l_28, t_29, l_29, t_30, l_30, t_31, l_31, t_32, l_32, t_33, l_33, t_34, l_34, t_35, f_35_0, f_35_1, t_36, l_36, t_37, l_37, t_38, f_38_0, f_38_1, t_39, l_39, t_40, l_40, t_41, f_41_0, t_42, l_42, t_43, f_43_0, t_44, l_44, t_45, f_45_0, f_45_1, f_45_2, f_45_3, t_46, l_46, t_47, l_47, t_48, l_48, t_49, l_49, t_50, l_50, t_51, f_51_0, f_51_1, f_51_2, f_51_3, t_52, l_52, t_53, l_53, t_54, f_54_0, f_54_1, f_54_2, f_54_3, t_55, l_55, t_56, l_56, t_57, f_57_0, f_57_1, f_57_2, f_57_3, t_58, l_58, t_59, l_59, t_60, l_60, t_61, f_61_0, f_61_1, f_61_2, f_61_3, f_61_4, f_61_5, f_61_6, t_62, l_62, t_63, f_63_0, f_63_1, t_64, l_64, t_65, l_65, t_66, f_66_0, f_66_1, t_67, l_67, t_68, l_68, t_69, l_69, t_70, f_70_0, f_70_1, t_1, l_1, t_2, l_2, m_t, m_f0, m_f1, m_f2, m_f3, m_t1, m_l1, m_t2, m_l2, n_m1, i_dec, cat_n, cat_i, cat_r, cat_l, i_add, i_tn, i_vi, i_lt, i_eq, i_shl, n_ltT, n_ltF, n_eqT, n_eqF, n_leT, t_and, nb_0, nb_1, b2_0, b2_n, cont_v, cont_n, ex_eq, u_s, u_c, u_j, reduceIte, ite_not, not_true_eq_false, not_false_eq_true, Bool.false_eq_true, Bool.true_eq_false, false_and, true_and, and_false, and_true, h2, hc, i_of, c_150, c_9, ov_n, tt100, tt9, i_sub, ov_w, rowX_u, stQ, Nat.add_sub_cancel_left])
    · by_cases k1 : e1 = 1
      · subst k1
        rw [show cod (1, e2) = e2 from rfl] at hc
        have := hq1 rfl
        (rw [k15_4]; simp (disch := first | assumption | omega) only [in15, k15_0, k15_1, k15_2, k15_3, k15_5, k15_6, k15_9, k15_12, k15_13, k15_14, k15_17, k15_18, k15_21, k15_22, k15_23, k15_26, k15_27, k15_30, k15_31, k15_34, k15_35, k15_36, k15_38, k15_40, k15_42, k15_45, k15_46, k15_49, k15_50, k15_52, k15_54, k15_55, k15_56, k15_59, k15_62, k15_64, k15_67, k15_69, k15_71, k15_74, k15_76, k15_77, k15_78, k15_81, k15_82, k15_85, k15_86, k15_87, k15_89, k15_90, k15_91, k15_94, k15_97, k15_98, k15_99, k15_102, k15_103, k15_106, k15_107, k15_108, k15_109, k15_111, k15_112, k15_115, k15_116, k15_117, k15_118, k15_119, k15_120, k15_123, k15_124, k15_125, k15_126, k15_127, k15_130, k15_131, k15_134, k15_137, k15_140, k15_141, k15_143, k15_144, k15_147, k15_148, k15_149, k15_152, k15_155, c_0, c_1, c_2, c_9, c_16, c_99, hS, t_16, f_16_0, f_16_1, f_16_2, f_16_3, f_16_4, f_16_5, f_16_6, f_16_7, f_16_8, f_16_9, f_16_10, f_16_11, f_16_12, f_16_13, t_17, f_17_0, t_18, l_18, t_19, f_19_0, f_19_1, f_19_2, f_19_3, f_19_4, f_19_5, f_19_6, t_20, l_20, t_21, l_21, t_22, l_22, t_23, l_23, t_24, l_24, t_25, l_25, t_26, l_26, t_27, f_27_0, f_27_1, f_27_2, f_27_3, f_27_4, f_27_5, f_27_6, t_28, l_28, t_29, l_29, t_30, l_30, t_31, l_31, t_32, l_32, t_33, l_33, t_34, l_34, t_35, f_35_0, f_35_1, t_36, l_36, t_37, l_37, t_38, f_38_0, f_38_1, t_39, l_39, t_40, l_40, t_41, f_41_0, t_42, l_42, t_43, f_43_0, t_44, l_44, t_45, f_45_0, f_45_1, f_45_2, f_45_3, t_46, l_46, t_47, l_47, t_48, l_48, t_49, l_49, t_50, l_50, t_51, f_51_0, f_51_1, f_51_2, f_51_3, t_52, l_52, t_53, l_53, t_54, f_54_0, f_54_1, f_54_2, f_54_3, t_55, l_55, t_56, l_56, t_57, f_57_0, f_57_1, f_57_2, f_57_3, t_58, l_58, t_59, l_59, t_60, l_60, t_61, f_61_0, f_61_1, f_61_2, f_61_3, f_61_4, f_61_5, f_61_6, t_62, l_62, t_63, f_63_0, f_63_1, t_64, l_64, t_65, l_65, t_66, f_66_0, f_66_1, t_67, l_67, t_68, l_68, t_69, l_69, t_70, f_70_0, f_70_1, t_1, l_1, t_2, l_2, m_t, m_f0, m_f1, m_f2, m_f3, m_t1, m_l1, m_t2, m_l2, n_m1, i_dec, cat_n, cat_i, cat_r, cat_l, i_add, i_tn, i_vi, i_lt, i_eq, i_shl, n_ltT, n_ltF, n_eqT, n_eqF, n_leT, t_and, nb_0, nb_1, b2_0, b2_n, cont_v, cont_n, ex_eq, u_s, u_c, u_j, reduceIte, ite_not, not_true_eq_false, not_false_eq_true, Bool.false_eq_true, Bool.true_eq_false, false_and, true_and, and_false, and_true, h2, hc, i_of, c_150, c_9, ov_n, tt100, tt9, i_sub, ov_w, rowX_u, stQ, er])
      · have hd2 := hdp (by omega)
        have hcc : cod (e1, e2) = cod (e1, 0) := by unfold cod; rw [if_neg k0, if_neg k1, if_neg k0, if_neg k1]
        have hc9 : 9 ≤ cod (e1, 0) ∧ cod (e1, 0) ≤ 15 := by unfold cod; rw [if_neg k0, if_neg k1]; simp only; (repeat' split) <;> omega
        rw [hcc] at hc
        (rw [k15_4]; simp (disch := first | assumption | omega) only [in15, k15_0, k15_1, k15_2, k15_3, k15_5, k15_6, k15_9, k15_12, k15_13, k15_14, k15_17, k15_18, k15_21, k15_22, k15_23, k15_26, k15_27, k15_30, k15_31, k15_34, k15_35, k15_36, k15_38, k15_40, k15_42, k15_45, k15_46, k15_49, k15_50, k15_52, k15_54, k15_55, k15_56, k15_59, k15_62, k15_64, k15_67, k15_69, k15_71, k15_74, k15_76, k15_77, k15_78, k15_81, k15_82, k15_85, k15_86, k15_87, k15_89, k15_90, k15_91, k15_94, k15_97, k15_98, k15_99, k15_102, k15_103, k15_106, k15_107, k15_108, k15_109, k15_111, k15_112, k15_115, k15_116, k15_117, k15_118, k15_119, k15_120, k15_123, k15_124, k15_125, k15_126, k15_127, k15_130, k15_131, k15_134, k15_137, k15_140, k15_141, k15_143, k15_144, k15_147, k15_148, k15_149, k15_152, k15_155, c_0, c_1, c_2, c_9, c_16, c_99, hS, t_16, f_16_0, f_16_1, f_16_2, f_16_3, f_16_4, f_16_5, f_16_6, f_16_7, f_16_8, f_16_9, f_16_10, f_16_11, f_16_12, f_16_13, t_17, f_17_0, t_18, l_18, t_19, f_19_0, f_19_1, f_19_2, f_19_3, f_19_4, f_19_5, f_19_6, t_20, l_20, t_21, l_21, t_22, l_22, t_23, l_23, t_24, l_24, t_25, l_25, t_26, l_26, t_27, f_27_0, f_27_1, f_27_2, f_27_3, f_27_4, f_27_5, f_27_6, t_28, l_28, t_29, l_29, t_30, l_30, t_31, l_31, t_32, l_32, t_33, l_33, t_34, l_34, t_35, f_35_0, f_35_1, t_36, l_36, t_37, l_37, t_38, f_38_0, f_38_1, t_39, l_39, t_40, l_40, t_41, f_41_0, t_42, l_42, t_43, f_43_0, t_44, l_44, t_45, f_45_0, f_45_1, f_45_2, f_45_3, t_46, l_46, t_47, l_47, t_48, l_48, t_49, l_49, t_50, l_50, t_51, f_51_0, f_51_1, f_51_2, f_51_3, t_52, l_52, t_53, l_53, t_54, f_54_0, f_54_1, f_54_2, f_54_3, t_55, l_55, t_56, l_56, t_57, f_57_0, f_57_1, f_57_2, f_57_3, t_58, l_58, t_59, l_59, t_60, l_60, t_61, f_61_0, f_61_1, f_61_2, f_61_3, f_61_4, f_61_5, f_61_6, t_62, l_62, t_63, f_63_0, f_63_1, t_64, l_64, t_65, l_65, t_66, f_66_0, f_66_1, t_67, l_67, t_68, l_68, t_69, l_69, t_70, f_70_0, f_70_1, t_1, l_1, t_2, l_2, m_t, m_f0, m_f1, m_f2, m_f3, m_t1, m_l1, m_t2, m_l2, n_m1, i_dec, cat_n, cat_i, cat_r, cat_l, i_add, i_tn, i_vi, i_lt, i_eq, i_shl, n_ltT, n_ltF, n_eqT, n_eqF, n_leT, t_and, nb_0, nb_1, b2_0, b2_n, cont_v, cont_n, ex_eq, u_s, u_c, u_j, reduceIte, ite_not, not_true_eq_false, not_false_eq_true, Bool.false_eq_true, Bool.true_eq_false, false_and, true_and, and_false, and_true, h2, hc, i_of, c_150, c_9, ov_n, tt100, tt9, i_sub, ov_w, ov_s, rowX_s, rowX_u, stQ, c16 hS])
  · have hdep := run_dep (q := q) (t := ov I X t) (s0 := X 37) (k := sz)
    rw [hdep, ← lawQ_any (t := ov I X t) (s0 := X 37) hv h1 htt, ← clamp_c]
    (rw [k15_4]; simp (disch := first | assumption | omega) only [in15, k15_0, k15_1, k15_2, k15_3, k15_5, k15_6, k15_9, k15_12, k15_13, k15_14, k15_17, k15_18, k15_21, k15_22, k15_23, k15_26, k15_27, k15_30, k15_31, k15_34, k15_35, k15_36, k15_38, k15_40, k15_42, k15_45, k15_46, k15_49, k15_50, k15_52, k15_54, k15_55, k15_56, k15_59, k15_62, k15_64, k15_67, k15_69, k15_71, k15_74, k15_76, k15_77, k15_78, k15_81, k15_82, k15_85, k15_86, k15_87, k15_89, k15_90, k15_91, k15_94, k15_97, k15_98, k15_99, k15_102, k15_103, k15_106, k15_107, k15_108, k15_109, k15_111, k15_112, k15_115, k15_116, k15_117, k15_118, k15_119, k15_120, k15_123, k15_124, k15_125, k15_126, k15_127, k15_130, k15_131, k15_134, k15_137, k15_140, k15_141, k15_143, k15_144, k15_147, k15_148, k15_149, k15_152, k15_155, c_0, c_1, c_2, c_9, c_16, c_99, hS, t_16, f_16_0, f_16_1, f_16_2, f_16_3, f_16_4, f_16_5, f_16_6, f_16_7, f_16_8, f_16_9, f_16_10, f_16_11, f_16_12, f_16_13, t_17, f_17_0, t_18, l_18, t_19, f_19_0, f_19_1, f_19_2, f_19_3, f_19_4, f_19_5, f_19_6, t_20, l_20, t_21, l_21, t_22, l_22, t_23, l_23, t_24, l_24, t_25, l_25, t_26, l_26, t_27, f_27_0, f_27_1, f_27_2, f_27_3, f_27_4, f_27_5, f_27_6, t_28, l_28, t_29, l_29, t_30, l_30, t_31, l_31, t_32, l_32, t_33, l_33, t_34, l_34, t_35, f_35_0, f_35_1, t_36, l_36, t_37, l_37, t_38, f_38_0, f_38_1, t_39, l_39, t_40, l_40, t_41, f_41_0, t_42, l_42, t_43, f_43_0, t_44, l_44, t_45, f_45_0, f_45_1, f_45_2, f_45_3, t_46, l_46, t_47, l_47, t_48, l_48, t_49, l_49, t_50, l_50, t_51, f_51_0, f_51_1, f_51_2, f_51_3, t_52, l_52, t_53, l_53, t_54, f_54_0, f_54_1, f_54_2, f_54_3, t_55, l_55, t_56, l_56, t_57, f_57_0, f_57_1, f_57_2, f_57_3, t_58, l_58, t_59, l_59, t_60, l_60, t_61, f_61_0, f_61_1, f_61_2, f_61_3, f_61_4, f_61_5, f_61_6, t_62, l_62, t_63, f_63_0, f_63_1, t_64, l_64, t_65, l_65, t_66, f_66_0, f_66_1, t_67, l_67, t_68, l_68, t_69, l_69, t_70, f_70_0, f_70_1, t_1, l_1, t_2, l_2, m_t, m_f0, m_f1, m_f2, m_f3, m_t1, m_l1, m_t2, m_l2, n_m1, i_dec, cat_n, cat_i, cat_r, cat_l, i_add, i_tn, i_vi, i_lt, i_eq, i_shl, n_ltT, n_ltF, n_eqT, n_eqF, n_leT, t_and, nb_0, nb_1, b2_0, b2_n, cont_v, cont_n, ex_eq, u_s, u_c, u_j, reduceIte, ite_not, not_true_eq_false, not_false_eq_true, Bool.false_eq_true, Bool.true_eq_false, false_and, true_and, and_false, and_true, h2, i_of, c_150, c_9, ov_n, ov_s, rowX_s, c287 hS, c288 hS])
