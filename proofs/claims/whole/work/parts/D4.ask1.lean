/-! THE HOUSE TO ASK NEXT: tallies -/
def stY (P : Nat → Bool) (W : Nat → Nat) (s : (Nat → Nat) × Nat) (x : Nat) : (Nat → Nat) × Nat := if P x = true then (updN s.1 (W x) (s.1 (W x) + 1), max s.2 (s.1 (W x) + 1)) else s
def MX (c : Nat → Nat) (w : Nat) : Prop := (∀ v, c v ≤ w) ∧ (w = 0 ∨ ∃ v, c v = w)
theorem MX_u {c : Nat → Nat} {w w' : Nat} (h : MX c w) (h' : MX c w') : w = w' := by
  obtain ⟨a, b⟩ := h
  obtain ⟨a', b'⟩ := h'
  have h1 : w ≤ w' := by
    rcases b with b | ⟨v, b⟩
    · omega
    · have := a' v; omega
  have h2 : w' ≤ w := by
    rcases b' with b | ⟨v, b⟩
    · omega
    · have := a v; omega
  omega
theorem MX_m {c : Nat → Nat} {w k : Nat} (h : MX c w) : MX (fun v => k * c v) (k * w) := by
  obtain ⟨a, b⟩ := h
  refine ⟨fun v => Nat.mul_le_mul_left k (a v), ?_⟩
  rcases b with b | ⟨v, b⟩
  · left; rw [b, Nat.mul_zero]
  · right; exact ⟨v, by rw [← b]⟩
theorem goT {A : Nat} {P : Nat → Bool} {W : Nat → Nat} : ∀ y, (∀ v, (goF A (stY P W) (fun _ => 0, 0) y).1 v = sM y (fun x => if sub A x = true then (if (P x && decide (W x = v)) = true then 1 else 0) else 0)) ∧ MX (goF A (stY P W) (fun _ => 0, 0) y).1 (goF A (stY P W) (fun _ => 0, 0) y).2 := by
  intro y
  induction y with
  | zero => exact ⟨fun _ => rfl, fun _ => Nat.le_refl _, Or.inl rfl⟩
  | succ y ih =>
    rw [goF]
    generalize goF A (stY P W) (fun _ => 0, 0) y = s at *
    obtain ⟨i1, i2, i3⟩ := ih
    by_cases hs : sub A y = true
    · rw [if_pos hs]
      unfold stY
      by_cases hp : P y = true
      · rw [if_pos hp]
        refine ⟨fun v => ?_, fun v => ?_, ?_⟩
        · dsimp only
          rw [sM, if_pos hs, ← i1 v]
          unfold updN
          by_cases e : v = W y
          · subst e; simp [hp]
          · have : ¬ W y = v := fun z => e z.symm
            simp [e, hp, this]
        · dsimp only
          unfold updN
          by_cases e : v = W y
          · subst e; rw [if_pos rfl]; omega
          · rw [if_neg e]; have := i2 v; omega
        · dsimp only
          right
          by_cases hm : s.2 ≤ s.1 (W y) + 1
          · exact ⟨W y, by unfold updN; rw [if_pos rfl]; omega⟩
          · rcases i3 with i3 | ⟨v, i3⟩
            · omega
            · have hv : v ≠ W y := fun z => by subst z; omega
              exact ⟨v, by unfold updN; rw [if_neg hv]; omega⟩
      · rw [if_neg hp]
        refine ⟨fun v => ?_, i2, i3⟩
        rw [sM, if_pos hs, ← i1 v]
        simp [hp]
    · rw [if_neg hs]
      refine ⟨fun v => ?_, i2, i3⟩
      rw [sM, if_neg hs, ← i1 v, Nat.add_zero]
theorem goT_le {A y v : Nat} {P : Nat → Bool} {W : Nat → Nat} : (goF A (stY P W) (fun _ => 0, 0) y).1 v ≤ y ∧ (goF A (stY P W) (fun _ => 0, 0) y).2 ≤ y := by
  obtain ⟨i1, i2, i3⟩ := goT (A := A) (P := P) (W := W) y
  have h : ∀ v, (goF A (stY P W) (fun _ => 0, 0) y).1 v ≤ y := fun v => by
    rw [i1 v]; exact sM_le1 (fun k => by split <;> (try split) <;> omega) y
  refine ⟨h v, ?_⟩
  rcases i3 with i3 | ⟨u, i3⟩
  · omega
  · rw [← i3]; exact h u
theorem goT_T {A N : Nat} {P : Nat → Bool} {W : Nat → Nat} (hN : A < N) (hN2 : N ≤ 4096) : MX (fun v => T A (fun x => P x && decide (W x = v))) (goF A (stY P W) (fun _ => 0, 0) N).2 := by
  obtain ⟨i1, i2⟩ := goT (A := A) (P := P) (W := W) N
  have e : (goF A (stY P W) (fun _ => 0, 0) N).1 = fun v => T A (fun x => P x && decide (W x = v)) := funext fun v => by rw [i1 v]; exact T_N hN hN2
  rw [e] at i2
  exact i2
/-- flours of a set together, as a number -/
def wN (f : Nat → Int32) (x : Nat) : Nat → Nat
  | 0 => 0
  | k + 1 => wN f x k + (if x.testBit k = true then (f k).toNatClampNeg else 0)
theorem wN_i {f : Nat → Int32} {x : Nat} (hf : ∀ k, inN (f k) 99) : ∀ n, sumN n (fun k => if x.testBit k = true then f k else i32 0) = i32 (wN f x n) ∧ wN f x n ≤ 99 * n := by
  intro n
  induction n with
  | zero => exact ⟨rfl, Nat.le_refl _⟩
  | succ n ih =>
    obtain ⟨k, hk, e⟩ := hf n
    have et : (f n).toNatClampNeg = k := by rw [e]; exact i_tn (by omega)
    rw [sumN, wN, ih.1, et]
    by_cases hb : x.testBit n = true
    · rw [if_pos hb, if_pos hb, e, i_add]; exact ⟨rfl, by omega⟩
    · rw [if_neg hb, if_neg hb, i_add]; exact ⟨rfl, by omega⟩
theorem ws_N {f : Nat → Int32} {x : Nat} (hf : ∀ k, inN (f k) 99) : wsum f x = i32 (wN f x 12) ∧ wN f x 12 < 1189 := ⟨(wN_i hf 12).1, by have := (wN_i (x := x) hf 12).2; omega⟩
theorem mxI_n {a b : Nat} (ha : a < 2147483648) (hb : b < 2147483648) : mxI (i32 a) (i32 b) = i32 (max a b) := by
  unfold mxI
  by_cases h : b < a
  · rw [if_pos (by rw [i_lt hb ha]; exact h), Nat.max_eq_left (by omega)]
  · rw [if_neg (by rw [i_lt hb ha]; exact h), Nat.max_eq_right (by omega)]
/-- a tally in a row of numbers -/
def tyI (K : VI) (c : Nat) (s : Nat → Nat) : VI := fun c' j => if c' = c ∧ j < 1189 then i32 (s j) else K c' j
theorem ty_n {K : VI} {c c' j : Nat} {s : Nat → Nat} (h : c' ≠ c) : tyI K c s c' j = K c' j := if_neg fun z => h z.1
theorem ty_s {K : VI} {c j : Nat} {s : Nat → Nat} (h : j < 1189) : tyI K c s c j = i32 (s j) := if_pos ⟨rfl, h⟩
theorem ty_u {K : VI} {c v x : Nat} {s : Nat → Nat} (h : v < 1189) : u2 (tyI K c s) c v (i32 x) = tyI K c (updN s v x) := by
  funext c' j
  unfold u2 tyI updN
  by_cases h1 : c' = c
  · by_cases h2 : j = v
    · rw [if_pos h1, if_pos h2, if_pos (by omega), if_pos h2]
    · rw [if_pos h1, if_neg h2]
      by_cases h3 : c' = c ∧ j < 1189
      · rw [if_pos h3, if_pos h3, if_neg h2]
      · rw [if_neg h3, if_neg h3]
  · rw [if_neg h1, if_neg (by omega), if_neg (by omega)]
theorem ty_0 {K : VI} {c : Nat} : scR K c 0 1189 (fun _ => i32 0) = tyI K c (fun _ => 0) := by
  funext c' j
  unfold scR tyI
  by_cases h : c' = c ∧ j < 1189
  · rw [if_pos (by omega), if_pos h]
  · rw [if_neg (by omega), if_neg h]
theorem go_fst {σ τ : Type} {A : Nat} {st : σ → Nat → σ} {e : Nat → τ} {s : σ} {v : τ} : ∀ y, (goF A (fun (t : σ × τ) x => (st t.1 x, e x)) (s, v) y).1 = goF A st s y := by
  intro y
  induction y with
  | zero => rfl
  | succ y ih =>
    rw [goF, goF]
    by_cases h : sub A y = true
    · rw [if_pos h, if_pos h, ih]
    · rw [if_neg h, if_neg h, ih]
theorem p81 {d n B : Nat} {K : VI} {L : VL} {S : SW} {f : Nat → Int32} (hS : S.1 = W0 n) (hB : B < 4096) (hfi : ∀ k, inN (f k) 99) (hf : ∀ k, k < 64 → K 64 k = hs f k ∧ K 65 k = hs (fun k => f (6 + k)) k) : ∃ K', (∀ c j, c ≠ 69 → K' c j = K c j) ∧ ∀ r, EvD (d + 4) 81 [.ref 61, .int (i32 B)] K L S r ↔ r = (.inl (some (.int (i32 (goF B (stY (fun _ => true) (fun x => wN f x 12)) (fun _ => 0, 0) (B + 1)).2))), K', L, S) := by
  have hp := pp12 (x := B)
  have tf : ∀ s k, k < 64 → tyI K 69 s 64 k = hs f k ∧ tyI K 69 s 65 k = hs (fun k => f (6 + k)) k := fun s k hk => by
    rw [ty_n (by omega), ty_n (by omega)]; exact hf k hk
  have lp := fun r => sub_loopG (P := fun i x (s : ((Nat → Nat) × Nat) × Value) => Ev (d + 3) 81 21 [.ref 61, .int (i32 B), .int (i32 s.1.2), .int (i32 (2 ^ popc B)), .int (i32 x), .int (i32 i), s.2] [] (tyI K 69 s.1.1) L S r) (st := fun t x => (stY (fun _ => true) (fun x => wN f x 12) t.1 x, .int (i32 (wN f x 12)))) (s := ((fun _ => 0, 0), .retAddr 0)) hB (fun i x hi hx => by
    have hx2 := sub_le hx
    have hle := fun v => goT_le (A := B) (y := x) (v := v) (P := fun _ => true) (W := fun x => wN f x 12)
    have hfs := go_fst (A := B) (st := stY (fun _ => true) (fun x => wN f x 12)) (e := fun x => Value.int (i32 (wN f x 12))) (s := (fun _ => 0, 0)) (v := .retAddr 0) x
    rw [← hfs] at hle
    generalize goF B (fun (t : ((Nat → Nat) × Nat) × Value) x => (stY (fun _ => true) (fun x => wN f x 12) t.1 x, Value.int (i32 (wN f x 12)))) ((fun _ => 0, 0), .retAddr 0) x = s at *
    obtain ⟨⟨s1, s2⟩, s3⟩ := s
    obtain ⟨w1, w2⟩ := ws_N (x := x) hfi
    unfold stY
    dsimp only at hle ⊢
    rw [if_pos rfl]
    generalize wN f x 12 = w at *
    have h1 := (hle w).1
    have h2 := (hle w).2
    have hwl : w < 1189 := w2
    have e1 : updN s1 w (s1 w + 1) w = s1 w + 1 := by unfold updN; rw [if_pos rfl]
    (rw [k81_21]; simp (disch := first | assumption | omega) only [in81, k81_0, k81_1, k81_4, k81_5, k81_8, k81_9, k81_10, k81_11, k81_14, k81_15, k81_16, k81_18, k81_19, k81_23, k81_24, k81_27, k81_28, k81_31, k81_33, k81_36, k81_38, k81_40, k81_43, k81_45, k81_46, k81_49, k81_50, k81_53, k81_54, k81_57, k81_59, k81_60, k81_61, k81_62, k81_63, k81_64, k81_65, k81_66, k81_69, k81_71, k81_72, k81_75, k81_76, k81_78, k81_79, k81_82, k81_84, k81_87, k81_90, k81_91, c_0, c_1, hS, t_16, f_16_0, f_16_1, f_16_2, f_16_3, f_16_4, f_16_5, f_16_6, f_16_7, f_16_8, f_16_9, f_16_10, f_16_11, f_16_12, f_16_13, t_17, f_17_0, t_18, l_18, t_19, f_19_0, f_19_1, f_19_2, f_19_3, f_19_4, f_19_5, f_19_6, t_20, l_20, t_21, l_21, t_22, l_22, t_23, l_23, t_24, l_24, t_25, l_25, t_26, l_26, t_27, f_27_0, f_27_1, f_27_2, f_27_3, f_27_4, f_27_5, f_27_6, t_28, l_28, t_29, l_29, t_30, l_30, t_31, l_31, t_32, l_32, t_33, l_33, t_34, l_34, t_35, f_35_0, f_35_1, t_36, l_36, t_37, l_37, t_38, f_38_0, f_38_1, t_39, l_39, t_40, l_40, t_41, f_41_0, t_42, l_42, t_43, f_43_0, t_44, l_44, t_45, f_45_0, f_45_1, f_45_2, f_45_3, t_46, l_46, t_47, l_47, t_48, l_48, t_49, l_49, t_50, l_50, t_51, f_51_0, f_51_1, f_51_2, f_51_3, t_52, l_52, t_53, l_53, t_54, f_54_0, f_54_1, f_54_2, f_54_3, t_55, l_55, t_56, l_56, t_57, f_57_0, f_57_1, f_57_2, f_57_3, t_58, l_58, t_59, l_59, t_60, l_60, t_61, f_61_0, f_61_1, f_61_2, f_61_3, f_61_4, f_61_5, f_61_6, t_62, l_62, t_63, f_63_0, f_63_1, t_64, l_64, t_65, l_65, t_66, f_66_0, f_66_1, t_67, l_67, t_68, l_68, t_69, l_69, t_70, f_70_0, f_70_1, t_1, l_1, t_2, l_2, m_t, m_f0, m_f1, m_f2, m_f3, m_t1, m_l1, m_t2, m_l2, rowX_s, rowX_n, rowX_f, rowX_2, up_s, up_n, Nat.zero_add, n_m1, i_dec, cat_n, cat_i, cat_r, cat_l, i_add, i_tn, i_vi, i_lt, i_eq, i_shl, n_ltT, n_ltF, n_eqT, n_eqF, n_leT, t_and, nb_0, nb_1, b2_0, b2_n, cont_v, cont_n, ex_eq, u_s, u_c, u_j, ↓reduceIte, ite_not, not_true_eq_false, not_false_eq_true, Bool.false_eq_true, Bool.true_eq_false, false_and, true_and, and_false, and_true, or_self, or_false, false_or, or_true, true_or, cont_x, n_leF, c_1, c93f hS (by omega : x < 4096) (tf s1), w1, i_of, ty_s, ty_u, e1, c287 hS, mxI_n, c71 hS hB]))
  have hfs := go_fst (A := B) (st := stY (fun _ => true) (fun x => wN f x 12)) (e := fun x => Value.int (i32 (wN f x 12))) (s := (fun _ => 0, 0)) (v := .retAddr 0) (B + 1)
  rw [← hfs]
  generalize goF B (fun (t : ((Nat → Nat) × Nat) × Value) x => (stY (fun _ => true) (fun x => wN f x 12) t.1 x, Value.int (i32 (wN f x 12)))) ((fun _ => 0, 0), .retAddr 0) (B + 1) = s at *
  refine ⟨tyI K 69 s.1.1, fun c j hc => ty_n hc, fun r => Iff.trans ?_ ((lp r).trans ?_)⟩
  · dsimp only
    simp (disch := first | assumption | omega) only [in81, k81_0, k81_1, k81_4, k81_5, k81_8, k81_9, k81_10, k81_11, k81_14, k81_15, k81_16, k81_18, k81_19, k81_23, k81_24, k81_27, k81_28, k81_31, k81_33, k81_36, k81_38, k81_40, k81_43, k81_45, k81_46, k81_49, k81_50, k81_53, k81_54, k81_57, k81_59, k81_60, k81_61, k81_62, k81_63, k81_64, k81_65, k81_66, k81_69, k81_71, k81_72, k81_75, k81_76, k81_78, k81_79, k81_82, k81_84, k81_87, k81_90, k81_91, c_0, c_1, hS, t_16, f_16_0, f_16_1, f_16_2, f_16_3, f_16_4, f_16_5, f_16_6, f_16_7, f_16_8, f_16_9, f_16_10, f_16_11, f_16_12, f_16_13, t_17, f_17_0, t_18, l_18, t_19, f_19_0, f_19_1, f_19_2, f_19_3, f_19_4, f_19_5, f_19_6, t_20, l_20, t_21, l_21, t_22, l_22, t_23, l_23, t_24, l_24, t_25, l_25, t_26, l_26, t_27, f_27_0, f_27_1, f_27_2, f_27_3, f_27_4, f_27_5, f_27_6, t_28, l_28, t_29, l_29, t_30, l_30, t_31, l_31, t_32, l_32, t_33, l_33, t_34, l_34, t_35, f_35_0, f_35_1, t_36, l_36, t_37, l_37, t_38, f_38_0, f_38_1, t_39, l_39, t_40, l_40, t_41, f_41_0, t_42, l_42, t_43, f_43_0, t_44, l_44, t_45, f_45_0, f_45_1, f_45_2, f_45_3, t_46, l_46, t_47, l_47, t_48, l_48, t_49, l_49, t_50, l_50, t_51, f_51_0, f_51_1, f_51_2, f_51_3, t_52, l_52, t_53, l_53, t_54, f_54_0, f_54_1, f_54_2, f_54_3, t_55, l_55, t_56, l_56, t_57, f_57_0, f_57_1, f_57_2, f_57_3, t_58, l_58, t_59, l_59, t_60, l_60, t_61, f_61_0, f_61_1, f_61_2, f_61_3, f_61_4, f_61_5, f_61_6, t_62, l_62, t_63, f_63_0, f_63_1, t_64, l_64, t_65, l_65, t_66, f_66_0, f_66_1, t_67, l_67, t_68, l_68, t_69, l_69, t_70, f_70_0, f_70_1, t_1, l_1, t_2, l_2, m_t, m_f0, m_f1, m_f2, m_f3, m_t1, m_l1, m_t2, m_l2, rowX_s, rowX_n, rowX_f, rowX_2, up_s, up_n, Nat.zero_add, n_m1, i_dec, cat_n, cat_i, cat_r, cat_l, i_add, i_tn, i_vi, i_lt, i_eq, i_shl, n_ltT, n_ltF, n_eqT, n_eqF, n_leT, t_and, nb_0, nb_1, b2_0, b2_n, cont_v, cont_n, ex_eq, u_s, u_c, u_j, ↓reduceIte, ite_not, not_true_eq_false, not_false_eq_true, Bool.false_eq_true, Bool.true_eq_false, false_and, true_and, and_false, and_true, or_self, or_false, false_or, or_true, true_or, cont_x, n_leF, c_1, c289 hS t_69 l_69 (by omega) (by omega), ty_0, c70 hS hB]
  · (rw [k81_21]; simp (disch := first | assumption | omega) only [in81, k81_0, k81_1, k81_4, k81_5, k81_8, k81_9, k81_10, k81_11, k81_14, k81_15, k81_16, k81_18, k81_19, k81_23, k81_24, k81_27, k81_28, k81_31, k81_33, k81_36, k81_38, k81_40, k81_43, k81_45, k81_46, k81_49, k81_50, k81_53, k81_54, k81_57, k81_59, k81_60, k81_61, k81_62, k81_63, k81_64, k81_65, k81_66, k81_69, k81_71, k81_72, k81_75, k81_76, k81_78, k81_79, k81_82, k81_84, k81_87, k81_90, k81_91, c_0, c_1, hS, t_16, f_16_0, f_16_1, f_16_2, f_16_3, f_16_4, f_16_5, f_16_6, f_16_7, f_16_8, f_16_9, f_16_10, f_16_11, f_16_12, f_16_13, t_17, f_17_0, t_18, l_18, t_19, f_19_0, f_19_1, f_19_2, f_19_3, f_19_4, f_19_5, f_19_6, t_20, l_20, t_21, l_21, t_22, l_22, t_23, l_23, t_24, l_24, t_25, l_25, t_26, l_26, t_27, f_27_0, f_27_1, f_27_2, f_27_3, f_27_4, f_27_5, f_27_6, t_28, l_28, t_29, l_29, t_30, l_30, t_31, l_31, t_32, l_32, t_33, l_33, t_34, l_34, t_35, f_35_0, f_35_1, t_36, l_36, t_37, l_37, t_38, f_38_0, f_38_1, t_39, l_39, t_40, l_40, t_41, f_41_0, t_42, l_42, t_43, f_43_0, t_44, l_44, t_45, f_45_0, f_45_1, f_45_2, f_45_3, t_46, l_46, t_47, l_47, t_48, l_48, t_49, l_49, t_50, l_50, t_51, f_51_0, f_51_1, f_51_2, f_51_3, t_52, l_52, t_53, l_53, t_54, f_54_0, f_54_1, f_54_2, f_54_3, t_55, l_55, t_56, l_56, t_57, f_57_0, f_57_1, f_57_2, f_57_3, t_58, l_58, t_59, l_59, t_60, l_60, t_61, f_61_0, f_61_1, f_61_2, f_61_3, f_61_4, f_61_5, f_61_6, t_62, l_62, t_63, f_63_0, f_63_1, t_64, l_64, t_65, l_65, t_66, f_66_0, f_66_1, t_67, l_67, t_68, l_68, t_69, l_69, t_70, f_70_0, f_70_1, t_1, l_1, t_2, l_2, m_t, m_f0, m_f1, m_f2, m_f3, m_t1, m_l1, m_t2, m_l2, rowX_s, rowX_n, rowX_f, rowX_2, up_s, up_n, Nat.zero_add, n_m1, i_dec, cat_n, cat_i, cat_r, cat_l, i_add, i_tn, i_vi, i_lt, i_eq, i_shl, n_ltT, n_ltF, n_eqT, n_eqF, n_leT, t_and, nb_0, nb_1, b2_0, b2_n, cont_v, cont_n, ex_eq, u_s, u_c, u_j, ↓reduceIte, ite_not, not_true_eq_false, not_false_eq_true, Bool.false_eq_true, Bool.true_eq_false, false_and, true_and, and_false, and_true, or_self, or_false, false_or, or_true, true_or, cont_x, n_leF, c_1])
