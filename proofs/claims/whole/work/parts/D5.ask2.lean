/-! THE HOUSE TO ASK NEXT: the call -/
def bsN (li : Nat → Bool) (lf : Nat → Nat) : Nat → Option (Nat × Nat)
  | 0 => none
  | h + 1 => if li h = true then bsN li lf h else (match bsN li lf h with
    | none => some (h, lf h)
    | some (b, l) => if lf h < l then some (h, lf h) else some (b, l))
def bE : Option (Nat × Nat) → Int32
  | none => m1
  | some (b, _) => i32 b
def lE : Option (Nat × Nat) → Int32
  | none => m1
  | some (_, l) => i32 l
theorem bs_b {li : Nat → Bool} {lf : Nat → Nat} {nh : Nat} (h : ∀ k, k < nh → li k = false → lf k ≤ 4096) : ∀ k, k ≤ nh → ∀ b l, bsN li lf k = some (b, l) → b < k ∧ l ≤ 4096 := by
  intro k
  induction k with
  | zero => intro _ b l e; cases e
  | succ k ih =>
    intro hk b l e
    rw [bsN] at e
    by_cases hl : li k = true
    · rw [if_pos hl] at e; have := ih (by omega) b l e; omega
    · rw [if_neg hl] at e
      have hlk := h k (by omega) (by simpa using hl)
      cases hb : bsN li lf k with
      | none => rw [hb] at e; cases e; omega
      | some p =>
        obtain ⟨b', l'⟩ := p
        rw [hb] at e
        have := ih (by omega) b' l' hb
        dsimp only at e
        split at e <;> cases e <;> omega
section Ask
variable {I : VI} {nh nd nL nw ni nf sz : Nat} {db cr bh bv : Nat → Nat} {q : Nat → Nat × Nat} {lw : (Nat → Int32) → Int32}
def Uo (nd : Nat) (g : Nat → Int32) (db : Nat → Nat) (h : Nat) : Nat := bitsN nd (fun k => thr nd g k && decide (db k ≠ h))
theorem Uo_or {g : Nat → Int32} {h : Nat} : Uo nd g db h ||| AhN nd g db h = bitsN nd (thr nd g) := by
  apply Nat.eq_of_testBit_eq
  intro k
  unfold Uo AhN
  rw [Nat.testBit_or, bits_test, bits_test, bits_test]
  by_cases h1 : k < nd <;> by_cases h2 : db k = h <;> simp [h1, h2]
theorem Uo_an {g : Nat → Int32} {h : Nat} : Uo nd g db h &&& AhN nd g db h = 0 := by
  apply Nat.eq_of_testBit_eq
  intro k
  unfold Uo AhN
  rw [Nat.testBit_and, bits_test, bits_test, Nat.zero_testBit]
  by_cases h2 : db k = h <;> simp [h2]
theorem Uo_x {g : Nat → Int32} {h h' x : Nat} (hne : h' ≠ h) : (x &&& Uo nd g db h) &&& AhN nd g db h' = x &&& AhN nd g db h' := by
  apply Nat.eq_of_testBit_eq
  intro k
  unfold Uo AhN
  rw [Nat.testBit_and, Nat.testBit_and, Nat.testBit_and, bits_test, bits_test]
  by_cases h2 : db k = h'
  · have : ¬ db k = h := fun z => hne (h2.symm.trans z)
    by_cases h1 : k < nd <;> cases thr nd g k <;> simp [h1, h2, hne]
  · simp [h2]
/-- what the reference finds for a house that isn't listed, the component finds too -/
theorem ask_eq {G : Nat → Bool} {f : Nat → Int32} {li : Nat → Bool} {PV : Nat → Nat → Bool} {h many : Nat} (h12 : nd ≤ 12) (hG : ∀ x, sub (bitsN nd (thr nd (I 536))) x = true → G x = grB (AhN nd (I 536) db) li PV nh x) (hl : li h = false) (hm : many = T (bitsN nd (thr nd (I 536))) (grB (AhN nd (I 536) db) li PV nh)) : (goF (bitsN nd (thr nd (I 536))) (stY G (fun x => wN f (x &&& AhN nd (I 536) db h) 12)) (fun _ => 0, 0) (2 ^ nd)).2 = (many >>> popc (AhN nd (I 536) db h)) * (goF (AhN nd (I 536) db h) (stY (fun _ => true) (fun x => wN f x 12)) (fun _ => 0, 0) (AhN nd (I 536) db h + 1)).2 := by
  have hp := pw12 h12
  have hB : AhN nd (I 536) db h < 4096 := bits_4096 h12
  have m1' := goT_T (A := bitsN nd (thr nd (I 536))) (N := 2 ^ nd) (P := G) (W := fun x => wN f (x &&& AhN nd (I 536) db h) 12) bits_lt hp.2
  have m2 := goT_T (A := AhN nd (I 536) db h) (N := AhN nd (I 536) db h + 1) (P := fun _ => true) (W := fun x => wN f x 12) (by omega) (by omega)
  have gr : ∀ x, grB (AhN nd (I 536) db) li PV nh (x &&& Uo nd (I 536) db h) = grB (AhN nd (I 536) db) li PV nh x := fun x => grB_c nh fun h' _ hl' => Uo_x (fun z => by subst z; rw [hl] at hl'; cases hl')
  have e1 : ∀ v, T (bitsN nd (thr nd (I 536))) (fun x => G x && decide (wN f (x &&& AhN nd (I 536) db h) 12 = v)) = T (Uo nd (I 536) db h) (grB (AhN nd (I 536) db) li PV nh) * T (AhN nd (I 536) db h) (fun x => true && decide (wN f x 12 = v)) := fun v => by
    rw [← T_mul (Uo_an (db := db)), Uo_or]
    refine T_c fun x hx => ?_
    rw [gr, hG x hx, Bool.true_and]
  have e2 : many = T (Uo nd (I 536) db h) (grB (AhN nd (I 536) db) li PV nh) * 2 ^ popc (AhN nd (I 536) db h) := by
    have := (LC3_t hB).1
    rw [hm, this, ← T_mul (Uo_an (db := db)), Uo_or]
    refine T_c fun x hx => ?_
    rw [gr, Bool.and_true]
  have e3 : many >>> popc (AhN nd (I 536) db h) = T (Uo nd (I 536) db h) (grB (AhN nd (I 536) db) li PV nh) := by
    rw [e2, Nat.shiftRight_eq_div_pow, Nat.mul_div_cancel _ (Nat.two_pow_pos _)]
  rw [e3]
  have m3 := MX_m (k := T (Uo nd (I 536) db h) (grB (AhN nd (I 536) db) li PV nh)) m2
  have e4 : (fun v => T (bitsN nd (thr nd (I 536))) (fun x => G x && decide (wN f (x &&& AhN nd (I 536) db h) 12 = v))) = fun v => T (Uo nd (I 536) db h) (grB (AhN nd (I 536) db) li PV nh) * T (AhN nd (I 536) db h) (fun x => true && decide (wN f x 12 = v)) := funext e1
  rw [e4] at m1'
  exact MX_u m1' m3
theorem d259 {d n h : Nat} {K : VI} {L : VL} {S : SW} (hS : S.1 = W0 n) (hK : Bk K nh nL bh bv) (h6 : nh ≤ 6) (hh : h < 6) : ∀ r, EvD (d + 1) 259 [.ref 71, .int (i32 h)] K L S r ↔ r = (.inl (some (.int (bI (lst bh nL h)))), K, L, S) := by
  obtain ⟨⟨_, h33, hL6, _⟩, hl, _⟩ := hK
  intro r
  have run : ∀ c i, i + c = nL → lst bh i h = false → (Ev d 259 2 [.ref 71, .int (i32 h), .int (i32 i)] [] K L S r ↔ r = (.inl (some (.int (bI (lst bh nL h)))), K, L, S)) := by
    intro c
    induction c with
    | zero =>
      intro i hi hf
      have e : i = nL := by omega
      subst e
      rw [hf]
      (rw [k259_2]; simp (disch := first | assumption | omega) only [in259, k259_0, k259_1, k259_3, k259_4, k259_7, k259_10, k259_11, k259_14, k259_15, k259_16, k259_17, k259_18, k259_19, k259_22, k259_23, k259_24, k259_27, k259_30, k259_31, c_0, c_1, hS, t_71, f_71_9, f_71_10, f_71_11, f_71_12, f_71_13, f_71_14, f_71_15, f_71_16, f_71_17, f_71_20, f_71_21, f_71_22, f_71_23, f_71_24, f_71_25, f_71_26, f_71_28, f_71_29, f_71_30, f_71_31, f_71_32, f_71_40, f_71_41, t_72, l_72, t_73, l_73, t_74, l_74, t_75, l_75, t_76, l_76, t_77, l_77, t_84, l_84, t_91, l_91, t_104, l_104, t_117, l_117, t_278, l_278, t_439, l_439, t_446, l_446, t_453, l_453, t_454, l_454, t_455, l_455, t_536, l_536, t_537, l_537, t_538, l_538, t_539, l_539, t_556, l_556, t_560, l_560, t_561, l_561, f_77, t_78, l_78, f_84, t_85, l_85, f_91, t_92, l_92, f_104, t_105, l_105, f_117, t_118, l_118, f_278, t_279, l_279, f_439, t_440, l_440, f_446, t_447, l_447, f_455, t_456, l_456, f_539, t_540, l_540, f_556, t_557, l_557, w_t, w_l, rowX_s, rowX_n, rowX_f, rowX_2, up_s, up_n, Nat.zero_add, n_m1, i_dec, cat_n, cat_i, cat_r, cat_l, i_add, i_tn, i_vi, i_lt, i_eq, i_shl, n_ltT, n_ltF, n_eqT, n_eqF, n_leT, t_and, nb_0, nb_1, b2_0, b2_n, cont_v, cont_n, ex_eq, u_s, u_c, u_j, ↓reduceIte, ite_not, not_true_eq_false, not_false_eq_true, Bool.false_eq_true, Bool.true_eq_false, false_and, true_and, and_false, and_true, or_self, or_false, false_or, or_true, true_or, cont_x, n_leF, c_1, h33, bI])
    | succ c ih =>
      intro i hi hf
      have hi' : i < nL := by omega
      obtain ⟨l1, l2, l3, l4, _⟩ := hl i hi'
      by_cases he : bh i = h
      · have : lst bh nL h = true := by rw [← he]; exact lst_in hi'
        rw [this]
        (rw [k259_2]; simp (disch := first | assumption | omega) only [in259, k259_0, k259_1, k259_3, k259_4, k259_7, k259_10, k259_11, k259_14, k259_15, k259_16, k259_17, k259_18, k259_19, k259_22, k259_23, k259_24, k259_27, k259_30, k259_31, c_0, c_1, hS, t_71, f_71_9, f_71_10, f_71_11, f_71_12, f_71_13, f_71_14, f_71_15, f_71_16, f_71_17, f_71_20, f_71_21, f_71_22, f_71_23, f_71_24, f_71_25, f_71_26, f_71_28, f_71_29, f_71_30, f_71_31, f_71_32, f_71_40, f_71_41, t_72, l_72, t_73, l_73, t_74, l_74, t_75, l_75, t_76, l_76, t_77, l_77, t_84, l_84, t_91, l_91, t_104, l_104, t_117, l_117, t_278, l_278, t_439, l_439, t_446, l_446, t_453, l_453, t_454, l_454, t_455, l_455, t_536, l_536, t_537, l_537, t_538, l_538, t_539, l_539, t_556, l_556, t_560, l_560, t_561, l_561, f_77, t_78, l_78, f_84, t_85, l_85, f_91, t_92, l_92, f_104, t_105, l_105, f_117, t_118, l_118, f_278, t_279, l_279, f_439, t_440, l_440, f_446, t_447, l_447, f_455, t_456, l_456, f_539, t_540, l_540, f_556, t_557, l_557, w_t, w_l, rowX_s, rowX_n, rowX_f, rowX_2, up_s, up_n, Nat.zero_add, n_m1, i_dec, cat_n, cat_i, cat_r, cat_l, i_add, i_tn, i_vi, i_lt, i_eq, i_shl, n_ltT, n_ltF, n_eqT, n_eqF, n_leT, t_and, nb_0, nb_1, b2_0, b2_n, cont_v, cont_n, ex_eq, u_s, u_c, u_j, ↓reduceIte, ite_not, not_true_eq_false, not_false_eq_true, Bool.false_eq_true, Bool.true_eq_false, false_and, true_and, and_false, and_true, or_self, or_false, false_or, or_true, true_or, cont_x, n_leF, c_1, h33, hi', l3, he, bI])
      · refine Iff.trans ?_ (ih (i + 1) (by omega) (by rw [lst, hf]; simp [he]))
        (rw [k259_2]; simp (disch := first | assumption | omega) only [in259, k259_0, k259_1, k259_3, k259_4, k259_7, k259_10, k259_11, k259_14, k259_15, k259_16, k259_17, k259_18, k259_19, k259_22, k259_23, k259_24, k259_27, k259_30, k259_31, c_0, c_1, hS, t_71, f_71_9, f_71_10, f_71_11, f_71_12, f_71_13, f_71_14, f_71_15, f_71_16, f_71_17, f_71_20, f_71_21, f_71_22, f_71_23, f_71_24, f_71_25, f_71_26, f_71_28, f_71_29, f_71_30, f_71_31, f_71_32, f_71_40, f_71_41, t_72, l_72, t_73, l_73, t_74, l_74, t_75, l_75, t_76, l_76, t_77, l_77, t_84, l_84, t_91, l_91, t_104, l_104, t_117, l_117, t_278, l_278, t_439, l_439, t_446, l_446, t_453, l_453, t_454, l_454, t_455, l_455, t_536, l_536, t_537, l_537, t_538, l_538, t_539, l_539, t_556, l_556, t_560, l_560, t_561, l_561, f_77, t_78, l_78, f_84, t_85, l_85, f_91, t_92, l_92, f_104, t_105, l_105, f_117, t_118, l_118, f_278, t_279, l_279, f_439, t_440, l_440, f_446, t_447, l_447, f_455, t_456, l_456, f_539, t_540, l_540, f_556, t_557, l_557, w_t, w_l, rowX_s, rowX_n, rowX_f, rowX_2, up_s, up_n, Nat.zero_add, n_m1, i_dec, cat_n, cat_i, cat_r, cat_l, i_add, i_tn, i_vi, i_lt, i_eq, i_shl, n_ltT, n_ltF, n_eqT, n_eqF, n_leT, t_and, nb_0, nb_1, b2_0, b2_n, cont_v, cont_n, ex_eq, u_s, u_c, u_j, ↓reduceIte, ite_not, not_true_eq_false, not_false_eq_true, Bool.false_eq_true, Bool.true_eq_false, false_and, true_and, and_false, and_true, or_self, or_false, false_or, or_true, true_or, cont_x, n_leF, c_1, h33, hi', l3, he])
  refine Iff.trans ?_ (run nL 0 (by omega) rfl)
  simp (disch := first | assumption | omega) only [in259, k259_0, k259_1, k259_3, k259_4, k259_7, k259_10, k259_11, k259_14, k259_15, k259_16, k259_17, k259_18, k259_19, k259_22, k259_23, k259_24, k259_27, k259_30, k259_31, c_0, c_1, hS, t_71, f_71_9, f_71_10, f_71_11, f_71_12, f_71_13, f_71_14, f_71_15, f_71_16, f_71_17, f_71_20, f_71_21, f_71_22, f_71_23, f_71_24, f_71_25, f_71_26, f_71_28, f_71_29, f_71_30, f_71_31, f_71_32, f_71_40, f_71_41, t_72, l_72, t_73, l_73, t_74, l_74, t_75, l_75, t_76, l_76, t_77, l_77, t_84, l_84, t_91, l_91, t_104, l_104, t_117, l_117, t_278, l_278, t_439, l_439, t_446, l_446, t_453, l_453, t_454, l_454, t_455, l_455, t_536, l_536, t_537, l_537, t_538, l_538, t_539, l_539, t_556, l_556, t_560, l_560, t_561, l_561, f_77, t_78, l_78, f_84, t_85, l_85, f_91, t_92, l_92, f_104, t_105, l_105, f_117, t_118, l_118, f_278, t_279, l_279, f_439, t_440, l_440, f_446, t_447, l_447, f_455, t_456, l_456, f_539, t_540, l_540, f_556, t_557, l_557, w_t, w_l, rowX_s, rowX_n, rowX_f, rowX_2, up_s, up_n, Nat.zero_add, n_m1, i_dec, cat_n, cat_i, cat_r, cat_l, i_add, i_tn, i_vi, i_lt, i_eq, i_shl, n_ltT, n_ltF, n_eqT, n_eqF, n_leT, t_and, nb_0, nb_1, b2_0, b2_n, cont_v, cont_n, ex_eq, u_s, u_c, u_j, ↓reduceIte, ite_not, not_true_eq_false, not_false_eq_true, Bool.false_eq_true, Bool.true_eq_false, false_and, true_and, and_false, and_true, or_self, or_false, false_or, or_true, true_or, cont_x, n_leF, c_1]
theorem p260 {d n h A : Nat} {K : VI} {L : VL} {S : SW} {f : Nat → Int32} (hS : S.1 = W0 n) (hK : Bk K nh nL bh bv) (hd : K 75 1 = i32 nd) (h6 : nh ≤ 6) (h12 : nd ≤ 12) (hh : h < nh) (hA : A = bitsN nd (thr nd (I 536))) (hb : ∀ k, k < nd → K (105 + k) 0 = i32 (db k) ∧ db k < nh) (hF : ∀ k, k < nd → K 538 k = f k) (hfi : ∀ k, inN (f k) 99) (f0 : ∀ k, nd ≤ k → f k = i32 0) : ∃ K', (∀ c j, c ≠ 560 → K' c j = K c j) ∧ ∀ r, EvD (d + 5) 260 [.ref 71, .int (i32 h), .int (i32 A)] K L S r ↔ r = (.inl (some (.int (i32 (goF A (stY (fun x => glT nd db f bh bv x nL 0) (fun x => wN f (x &&& AhN nd (I 536) db h) 12)) (fun _ => 0, 0) (2 ^ nd)).2))), K', L, S) := by
  have hp := pw12 h12
  have hA4 : A < 4096 := by rw [hA]; exact bits_4096 h12
  obtain ⟨G, hG⟩ : ∃ G : Nat → Bool, (fun x => glT nd db f bh bv x nL 0) = G := ⟨_, rfl⟩
  obtain ⟨W, hW⟩ : ∃ W : Nat → Nat, (fun x => wN f (x &&& AhN nd (I 536) db h) 12) = W := ⟨_, rfl⟩
  rw [hG, hW]
  obtain ⟨go, hgo⟩ : ∃ go : Nat → (Nat → Nat) × Nat, goF A (stY G W) (fun _ => 0, 0) = go := ⟨_, rfl⟩
  have z1 := fun r => up_to (P := fun k => Ev (d + 4) 260 5 [.ref 71, .int (i32 h), .int (i32 A), .int (i32 0), .int (i32 k), .retAddr 0] [] (scR K 560 0 k (fun _ => i32 0)) L S r) (n := 1189) (fun k hk => by
    have e := sc_z (J := K) (c := 560) (k := k) (f := fun _ => i32 0)
    try dsimp only at e
    (rw [k260_5]; simp (disch := first | assumption | omega) only [in260, k260_0, k260_1, k260_2, k260_3, k260_7, k260_8, k260_11, k260_12, k260_15, k260_16, k260_19, k260_21, k260_22, k260_23, k260_26, k260_29, k260_30, k260_34, k260_35, k260_38, k260_41, k260_42, k260_44, k260_45, k260_48, k260_51, k260_54, k260_55, k260_57, k260_58, k260_61, k260_63, k260_64, k260_67, k260_69, k260_70, k260_71, k260_72, k260_73, k260_74, k260_75, k260_76, k260_79, k260_81, k260_82, k260_85, k260_86, k260_89, k260_92, k260_93, c_0, c_1, hS, t_71, f_71_9, f_71_10, f_71_11, f_71_12, f_71_13, f_71_14, f_71_15, f_71_16, f_71_17, f_71_20, f_71_21, f_71_22, f_71_23, f_71_24, f_71_25, f_71_26, f_71_28, f_71_29, f_71_30, f_71_31, f_71_32, f_71_40, f_71_41, t_72, l_72, t_73, l_73, t_74, l_74, t_75, l_75, t_76, l_76, t_77, l_77, t_84, l_84, t_91, l_91, t_104, l_104, t_117, l_117, t_278, l_278, t_439, l_439, t_446, l_446, t_453, l_453, t_454, l_454, t_455, l_455, t_536, l_536, t_537, l_537, t_538, l_538, t_539, l_539, t_556, l_556, t_560, l_560, t_561, l_561, f_77, t_78, l_78, f_84, t_85, l_85, f_91, t_92, l_92, f_104, t_105, l_105, f_117, t_118, l_118, f_278, t_279, l_279, f_439, t_440, l_440, f_446, t_447, l_447, f_455, t_456, l_456, f_539, t_540, l_540, f_556, t_557, l_557, w_t, w_l, rowX_s, rowX_n, rowX_f, rowX_2, up_s, up_n, Nat.zero_add, n_m1, i_dec, cat_n, cat_i, cat_r, cat_l, i_add, i_tn, i_vi, i_lt, i_eq, i_shl, n_ltT, n_ltF, n_eqT, n_eqF, n_leT, t_and, nb_0, nb_1, b2_0, b2_n, cont_v, cont_n, ex_eq, u_s, u_c, u_j, ↓reduceIte, ite_not, not_true_eq_false, not_false_eq_true, Bool.false_eq_true, Bool.true_eq_false, false_and, true_and, and_false, and_true, or_self, or_false, false_or, or_true, true_or, cont_x, n_leF, c_1, i_of, e])) 0 (Nat.zero_le _)
  rw [sc_0, ty_0] at z1
  have tB : ∀ s, Bk (tyI K 560 s) nh nL bh bv := fun s => Bk_eq (fun c j hc => ty_n (by unfold clBk at hc; omega)) hK
  have td : ∀ s, tyI K 560 s 75 1 = i32 nd := fun s => by rw [ty_n (by omega)]; exact hd
  have tb' : ∀ s k, k < nd → tyI K 560 s (105 + k) 0 = i32 (db k) ∧ db k < nh := fun s k hk => by rw [ty_n (by omega)]; exact hb k hk
  have tF : ∀ s k, k < nd → tyI K 560 s 538 k = f k := fun s k hk => by rw [ty_n (by omega)]; exact hF k hk
  obtain ⟨v, run⟩ := up_ex (P := fun j (v : Value) r => Ev (d + 4) 260 32 [.ref 71, .int (i32 h), .int (i32 A), .int (i32 (go j).2), .int (i32 j), v] [] (tyI K 560 (go j).1) L S r) (n := 2 ^ nd) (fun j hj v => by
    have hj2 : j < 4096 := by omega
    have hle := fun v => goT_le (A := A) (y := j) (v := v) (P := G) (W := W)
    have hstep : go (j + 1) = if sub A j = true then stY G W (go j) j else go j := by rw [← hgo]; rfl
    rw [hgo] at hle
    have h257 := fun s => d257 (d := d + 1) (K := tyI K 560 s) (L := L) (x := j) (A := A) (F := f) hS (tB s) (td s) h6 h12 hj2 hA4 (tb' s) (tF s)
    have eG : glT nd db f bh bv j nL 0 = G j := by rw [← hG]
    rw [eG] at h257
    rw [hstep]
    generalize go j = t at *
    obtain ⟨t1, t2⟩ := t
    dsimp only at hle ⊢
    by_cases hsu : sub A j = true
    · rw [if_pos hsu]
      unfold stY
      by_cases hg : G j = true
      · rw [if_pos hg]
        have ev : bI (sub A j && G j) = i32 1 := by rw [hsu, hg]; rfl
        simp only [ev] at h257
        obtain ⟨w1, w2⟩ := ws_N (x := j &&& AhN nd (I 536) db h) hfi
        have eW : wN f (j &&& AhN nd (I 536) db h) 12 = W j := by rw [← hW]
        rw [eW] at w1 w2
        have hwh := WH_ws (db := db) (h := h) h12 f0 (hA ▸ hsu)
        rw [w1] at hwh
        have h245 := fun s r => d245h (d := d + 2) (I := tyI K 560 s) (L := L) (r := r) (x := j) (h := h) (F := f) hS (td s) h6 h12 hj2 hh (tb' s) (tF s)
        unfold WH at hwh
        simp only [hwh] at h245
        generalize W j = w at *
        have h1 := (hle w).1
        have h2 := (hle w).2
        have e1 : updN t1 w (t1 w + 1) w = t1 w + 1 := by unfold updN; rw [if_pos rfl]
        refine ⟨.int (i32 w), fun r => ?_⟩
        (rw [k260_32]; simp (disch := first | assumption | omega) only [in260, k260_0, k260_1, k260_2, k260_3, k260_7, k260_8, k260_11, k260_12, k260_15, k260_16, k260_19, k260_21, k260_22, k260_23, k260_26, k260_29, k260_30, k260_34, k260_35, k260_38, k260_41, k260_42, k260_44, k260_45, k260_48, k260_51, k260_54, k260_55, k260_57, k260_58, k260_61, k260_63, k260_64, k260_67, k260_69, k260_70, k260_71, k260_72, k260_73, k260_74, k260_75, k260_76, k260_79, k260_81, k260_82, k260_85, k260_86, k260_89, k260_92, k260_93, c_0, c_1, hS, t_71, f_71_9, f_71_10, f_71_11, f_71_12, f_71_13, f_71_14, f_71_15, f_71_16, f_71_17, f_71_20, f_71_21, f_71_22, f_71_23, f_71_24, f_71_25, f_71_26, f_71_28, f_71_29, f_71_30, f_71_31, f_71_32, f_71_40, f_71_41, t_72, l_72, t_73, l_73, t_74, l_74, t_75, l_75, t_76, l_76, t_77, l_77, t_84, l_84, t_91, l_91, t_104, l_104, t_117, l_117, t_278, l_278, t_439, l_439, t_446, l_446, t_453, l_453, t_454, l_454, t_455, l_455, t_536, l_536, t_537, l_537, t_538, l_538, t_539, l_539, t_556, l_556, t_560, l_560, t_561, l_561, f_77, t_78, l_78, f_84, t_85, l_85, f_91, t_92, l_92, f_104, t_105, l_105, f_117, t_118, l_118, f_278, t_279, l_279, f_439, t_440, l_440, f_446, t_447, l_447, f_455, t_456, l_456, f_539, t_540, l_540, f_556, t_557, l_557, w_t, w_l, rowX_s, rowX_n, rowX_f, rowX_2, up_s, up_n, Nat.zero_add, n_m1, i_dec, cat_n, cat_i, cat_r, cat_l, i_add, i_tn, i_vi, i_lt, i_eq, i_shl, n_ltT, n_ltF, n_eqT, n_eqF, n_leT, t_and, nb_0, nb_1, b2_0, b2_n, cont_v, cont_n, ex_eq, u_s, u_c, u_j, ↓reduceIte, ite_not, not_true_eq_false, not_false_eq_true, Bool.false_eq_true, Bool.true_eq_false, false_and, true_and, and_false, and_true, or_self, or_false, false_or, or_true, true_or, cont_x, n_leF, c_1, d247 hS (td _) h12, h257, h245, ty_s, ty_u, e1, d172 hS, mxI_n])
      · rw [if_neg hg]
        have ev : bI (sub A j && G j) = i32 0 := by
          have : G j = false := by simpa using hg
          rw [this, Bool.and_false]; rfl
        simp only [ev] at h257
        refine ⟨v, fun r => ?_⟩
        (rw [k260_32]; simp (disch := first | assumption | omega) only [in260, k260_0, k260_1, k260_2, k260_3, k260_7, k260_8, k260_11, k260_12, k260_15, k260_16, k260_19, k260_21, k260_22, k260_23, k260_26, k260_29, k260_30, k260_34, k260_35, k260_38, k260_41, k260_42, k260_44, k260_45, k260_48, k260_51, k260_54, k260_55, k260_57, k260_58, k260_61, k260_63, k260_64, k260_67, k260_69, k260_70, k260_71, k260_72, k260_73, k260_74, k260_75, k260_76, k260_79, k260_81, k260_82, k260_85, k260_86, k260_89, k260_92, k260_93, c_0, c_1, hS, t_71, f_71_9, f_71_10, f_71_11, f_71_12, f_71_13, f_71_14, f_71_15, f_71_16, f_71_17, f_71_20, f_71_21, f_71_22, f_71_23, f_71_24, f_71_25, f_71_26, f_71_28, f_71_29, f_71_30, f_71_31, f_71_32, f_71_40, f_71_41, t_72, l_72, t_73, l_73, t_74, l_74, t_75, l_75, t_76, l_76, t_77, l_77, t_84, l_84, t_91, l_91, t_104, l_104, t_117, l_117, t_278, l_278, t_439, l_439, t_446, l_446, t_453, l_453, t_454, l_454, t_455, l_455, t_536, l_536, t_537, l_537, t_538, l_538, t_539, l_539, t_556, l_556, t_560, l_560, t_561, l_561, f_77, t_78, l_78, f_84, t_85, l_85, f_91, t_92, l_92, f_104, t_105, l_105, f_117, t_118, l_118, f_278, t_279, l_279, f_439, t_440, l_440, f_446, t_447, l_447, f_455, t_456, l_456, f_539, t_540, l_540, f_556, t_557, l_557, w_t, w_l, rowX_s, rowX_n, rowX_f, rowX_2, up_s, up_n, Nat.zero_add, n_m1, i_dec, cat_n, cat_i, cat_r, cat_l, i_add, i_tn, i_vi, i_lt, i_eq, i_shl, n_ltT, n_ltF, n_eqT, n_eqF, n_leT, t_and, nb_0, nb_1, b2_0, b2_n, cont_v, cont_n, ex_eq, u_s, u_c, u_j, ↓reduceIte, ite_not, not_true_eq_false, not_false_eq_true, Bool.false_eq_true, Bool.true_eq_false, false_and, true_and, and_false, and_true, or_self, or_false, false_or, or_true, true_or, cont_x, n_leF, c_1, d247 hS (td _) h12, h257])
    · rw [if_neg hsu]
      have ev : bI (sub A j && G j) = i32 0 := by
        have : sub A j = false := by simpa using hsu
        rw [this, Bool.false_and]; rfl
      simp only [ev] at h257
      refine ⟨v, fun r => ?_⟩
      (rw [k260_32]; simp (disch := first | assumption | omega) only [in260, k260_0, k260_1, k260_2, k260_3, k260_7, k260_8, k260_11, k260_12, k260_15, k260_16, k260_19, k260_21, k260_22, k260_23, k260_26, k260_29, k260_30, k260_34, k260_35, k260_38, k260_41, k260_42, k260_44, k260_45, k260_48, k260_51, k260_54, k260_55, k260_57, k260_58, k260_61, k260_63, k260_64, k260_67, k260_69, k260_70, k260_71, k260_72, k260_73, k260_74, k260_75, k260_76, k260_79, k260_81, k260_82, k260_85, k260_86, k260_89, k260_92, k260_93, c_0, c_1, hS, t_71, f_71_9, f_71_10, f_71_11, f_71_12, f_71_13, f_71_14, f_71_15, f_71_16, f_71_17, f_71_20, f_71_21, f_71_22, f_71_23, f_71_24, f_71_25, f_71_26, f_71_28, f_71_29, f_71_30, f_71_31, f_71_32, f_71_40, f_71_41, t_72, l_72, t_73, l_73, t_74, l_74, t_75, l_75, t_76, l_76, t_77, l_77, t_84, l_84, t_91, l_91, t_104, l_104, t_117, l_117, t_278, l_278, t_439, l_439, t_446, l_446, t_453, l_453, t_454, l_454, t_455, l_455, t_536, l_536, t_537, l_537, t_538, l_538, t_539, l_539, t_556, l_556, t_560, l_560, t_561, l_561, f_77, t_78, l_78, f_84, t_85, l_85, f_91, t_92, l_92, f_104, t_105, l_105, f_117, t_118, l_118, f_278, t_279, l_279, f_439, t_440, l_440, f_446, t_447, l_447, f_455, t_456, l_456, f_539, t_540, l_540, f_556, t_557, l_557, w_t, w_l, rowX_s, rowX_n, rowX_f, rowX_2, up_s, up_n, Nat.zero_add, n_m1, i_dec, cat_n, cat_i, cat_r, cat_l, i_add, i_tn, i_vi, i_lt, i_eq, i_shl, n_ltT, n_ltF, n_eqT, n_eqF, n_leT, t_and, nb_0, nb_1, b2_0, b2_n, cont_v, cont_n, ex_eq, u_s, u_c, u_j, ↓reduceIte, ite_not, not_true_eq_false, not_false_eq_true, Bool.false_eq_true, Bool.true_eq_false, false_and, true_and, and_false, and_true, or_self, or_false, false_or, or_true, true_or, cont_x, n_leF, c_1, d247 hS (td _) h12, h257])) 0 (Nat.zero_le _) (.retAddr 0)
  have e0 : go 0 = (fun _ => 0, 0) := by rw [← hgo]; rfl
  rw [e0] at run
  rw [hgo]
  refine ⟨tyI K 560 (go (2 ^ nd)).1, fun c j hc => ty_n hc, fun r => ?_⟩
  have s1 : EvD (d + 5) 260 [.ref 71, .int (i32 h), .int (i32 A)] K L S r ↔ Ev (d + 4) 260 5 [.ref 71, .int (i32 h), .int (i32 A), .int (i32 0), .int (i32 0), .retAddr 0] [] K L S r := by
    simp (disch := first | assumption | omega) only [in260, k260_0, k260_1, k260_2, k260_3, k260_7, k260_8, k260_11, k260_12, k260_15, k260_16, k260_19, k260_21, k260_22, k260_23, k260_26, k260_29, k260_30, k260_34, k260_35, k260_38, k260_41, k260_42, k260_44, k260_45, k260_48, k260_51, k260_54, k260_55, k260_57, k260_58, k260_61, k260_63, k260_64, k260_67, k260_69, k260_70, k260_71, k260_72, k260_73, k260_74, k260_75, k260_76, k260_79, k260_81, k260_82, k260_85, k260_86, k260_89, k260_92, k260_93, c_0, c_1, hS, t_71, f_71_9, f_71_10, f_71_11, f_71_12, f_71_13, f_71_14, f_71_15, f_71_16, f_71_17, f_71_20, f_71_21, f_71_22, f_71_23, f_71_24, f_71_25, f_71_26, f_71_28, f_71_29, f_71_30, f_71_31, f_71_32, f_71_40, f_71_41, t_72, l_72, t_73, l_73, t_74, l_74, t_75, l_75, t_76, l_76, t_77, l_77, t_84, l_84, t_91, l_91, t_104, l_104, t_117, l_117, t_278, l_278, t_439, l_439, t_446, l_446, t_453, l_453, t_454, l_454, t_455, l_455, t_536, l_536, t_537, l_537, t_538, l_538, t_539, l_539, t_556, l_556, t_560, l_560, t_561, l_561, f_77, t_78, l_78, f_84, t_85, l_85, f_91, t_92, l_92, f_104, t_105, l_105, f_117, t_118, l_118, f_278, t_279, l_279, f_439, t_440, l_440, f_446, t_447, l_447, f_455, t_456, l_456, f_539, t_540, l_540, f_556, t_557, l_557, w_t, w_l, rowX_s, rowX_n, rowX_f, rowX_2, up_s, up_n, Nat.zero_add, n_m1, i_dec, cat_n, cat_i, cat_r, cat_l, i_add, i_tn, i_vi, i_lt, i_eq, i_shl, n_ltT, n_ltF, n_eqT, n_eqF, n_leT, t_and, nb_0, nb_1, b2_0, b2_n, cont_v, cont_n, ex_eq, u_s, u_c, u_j, ↓reduceIte, ite_not, not_true_eq_false, not_false_eq_true, Bool.false_eq_true, Bool.true_eq_false, false_and, true_and, and_false, and_true, or_self, or_false, false_or, or_true, true_or, cont_x, n_leF, c_1]
  have s2 : Ev (d + 4) 260 5 [.ref 71, .int (i32 h), .int (i32 A), .int (i32 0), .int (i32 1189), .retAddr 0] [] (tyI K 560 (fun _ => 0)) L S r ↔ Ev (d + 4) 260 32 [.ref 71, .int (i32 h), .int (i32 A), .int (i32 0), .int (i32 0), .retAddr 0] [] (tyI K 560 (fun _ => 0)) L S r := by
    (rw [k260_5]; simp (disch := first | assumption | omega) only [in260, k260_0, k260_1, k260_2, k260_3, k260_7, k260_8, k260_11, k260_12, k260_15, k260_16, k260_19, k260_21, k260_22, k260_23, k260_26, k260_29, k260_30, k260_34, k260_35, k260_38, k260_41, k260_42, k260_44, k260_45, k260_48, k260_51, k260_54, k260_55, k260_57, k260_58, k260_61, k260_63, k260_64, k260_67, k260_69, k260_70, k260_71, k260_72, k260_73, k260_74, k260_75, k260_76, k260_79, k260_81, k260_82, k260_85, k260_86, k260_89, k260_92, k260_93, c_0, c_1, hS, t_71, f_71_9, f_71_10, f_71_11, f_71_12, f_71_13, f_71_14, f_71_15, f_71_16, f_71_17, f_71_20, f_71_21, f_71_22, f_71_23, f_71_24, f_71_25, f_71_26, f_71_28, f_71_29, f_71_30, f_71_31, f_71_32, f_71_40, f_71_41, t_72, l_72, t_73, l_73, t_74, l_74, t_75, l_75, t_76, l_76, t_77, l_77, t_84, l_84, t_91, l_91, t_104, l_104, t_117, l_117, t_278, l_278, t_439, l_439, t_446, l_446, t_453, l_453, t_454, l_454, t_455, l_455, t_536, l_536, t_537, l_537, t_538, l_538, t_539, l_539, t_556, l_556, t_560, l_560, t_561, l_561, f_77, t_78, l_78, f_84, t_85, l_85, f_91, t_92, l_92, f_104, t_105, l_105, f_117, t_118, l_118, f_278, t_279, l_279, f_439, t_440, l_440, f_446, t_447, l_447, f_455, t_456, l_456, f_539, t_540, l_540, f_556, t_557, l_557, w_t, w_l, rowX_s, rowX_n, rowX_f, rowX_2, up_s, up_n, Nat.zero_add, n_m1, i_dec, cat_n, cat_i, cat_r, cat_l, i_add, i_tn, i_vi, i_lt, i_eq, i_shl, n_ltT, n_ltF, n_eqT, n_eqF, n_leT, t_and, nb_0, nb_1, b2_0, b2_n, cont_v, cont_n, ex_eq, u_s, u_c, u_j, ↓reduceIte, ite_not, not_true_eq_false, not_false_eq_true, Bool.false_eq_true, Bool.true_eq_false, false_and, true_and, and_false, and_true, or_self, or_false, false_or, or_true, true_or, cont_x, n_leF, c_1, i_of])
  refine s1.trans ((z1 r).trans (s2.trans ((run r).trans ?_)))
  (rw [k260_32]; simp (disch := first | assumption | omega) only [in260, k260_0, k260_1, k260_2, k260_3, k260_7, k260_8, k260_11, k260_12, k260_15, k260_16, k260_19, k260_21, k260_22, k260_23, k260_26, k260_29, k260_30, k260_34, k260_35, k260_38, k260_41, k260_42, k260_44, k260_45, k260_48, k260_51, k260_54, k260_55, k260_57, k260_58, k260_61, k260_63, k260_64, k260_67, k260_69, k260_70, k260_71, k260_72, k260_73, k260_74, k260_75, k260_76, k260_79, k260_81, k260_82, k260_85, k260_86, k260_89, k260_92, k260_93, c_0, c_1, hS, t_71, f_71_9, f_71_10, f_71_11, f_71_12, f_71_13, f_71_14, f_71_15, f_71_16, f_71_17, f_71_20, f_71_21, f_71_22, f_71_23, f_71_24, f_71_25, f_71_26, f_71_28, f_71_29, f_71_30, f_71_31, f_71_32, f_71_40, f_71_41, t_72, l_72, t_73, l_73, t_74, l_74, t_75, l_75, t_76, l_76, t_77, l_77, t_84, l_84, t_91, l_91, t_104, l_104, t_117, l_117, t_278, l_278, t_439, l_439, t_446, l_446, t_453, l_453, t_454, l_454, t_455, l_455, t_536, l_536, t_537, l_537, t_538, l_538, t_539, l_539, t_556, l_556, t_560, l_560, t_561, l_561, f_77, t_78, l_78, f_84, t_85, l_85, f_91, t_92, l_92, f_104, t_105, l_105, f_117, t_118, l_118, f_278, t_279, l_279, f_439, t_440, l_440, f_446, t_447, l_447, f_455, t_456, l_456, f_539, t_540, l_540, f_556, t_557, l_557, w_t, w_l, rowX_s, rowX_n, rowX_f, rowX_2, up_s, up_n, Nat.zero_add, n_m1, i_dec, cat_n, cat_i, cat_r, cat_l, i_add, i_tn, i_vi, i_lt, i_eq, i_shl, n_ltT, n_ltF, n_eqT, n_eqF, n_leT, t_and, nb_0, nb_1, b2_0, b2_n, cont_v, cont_n, ex_eq, u_s, u_c, u_j, ↓reduceIte, ite_not, not_true_eq_false, not_false_eq_true, Bool.false_eq_true, Bool.true_eq_false, false_and, true_and, and_false, and_true, or_self, or_false, false_or, or_true, true_or, cont_x, n_leF, c_1, d247 hS (td _) h12])
end Ask
