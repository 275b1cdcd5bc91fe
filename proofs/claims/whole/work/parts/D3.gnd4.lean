/-! SETS OF DEBTS: what was ground, the call -/
def WH (nd : Nat) (db : Nat → Nat) (F : Nat → Int32) (x h : Nat) : Int32 := sumN nd (fun k => if x.testBit k = true ∧ db k = h then F k else i32 0)
def glT (nd : Nat) (db : Nat → Nat) (F : Nat → Int32) (bh bv : Nat → Nat) (x : Nat) : Nat → Nat → Bool
  | 0, _ => true
  | c + 1, i => decide (WH nd db F x (bh i) = i32 (bv i)) && glT nd db F bh bv x c (i + 1)
theorem glT_iff {nd : Nat} {db : Nat → Nat} {F : Nat → Int32} {bh bv : Nat → Nat} {x : Nat} : ∀ c i, glT nd db F bh bv x c i = true ↔ ∀ j, i ≤ j → j < i + c → WH nd db F x (bh j) = i32 (bv j) := by
  intro c
  induction c with
  | zero => intro i; exact ⟨fun _ j h1 h2 => by omega, fun _ => rfl⟩
  | succ c ih =>
    intro i
    rw [glT, Bool.and_eq_true, ih, decide_eq_true_eq]
    constructor
    · rintro ⟨h1, h2⟩ j a b
      by_cases e : j = i
      · subst e; exact h1
      · exact h2 j (by omega) (by omega)
    · intro h
      exact ⟨h i (Nat.le_refl _) (by omega), fun j a b => h j (by omega) (by omega)⟩
theorem grB_iff {Ah : Nat → Nat} {li : Nat → Bool} {PV : Nat → Nat → Bool} {x : Nat} : ∀ j, grB Ah li PV j x = true ↔ ∀ h, h < j → li h = true → PV h (x &&& Ah h) = true := by
  intro j
  induction j with
  | zero => exact ⟨fun _ h hh => by omega, fun _ => rfl⟩
  | succ j ih =>
    rw [grB, Bool.and_eq_true, ih]
    constructor
    · rintro ⟨h1, h2⟩ h hh hl
      by_cases e : h = j
      · subst e; simpa [hl] using h2
      · exact h1 h (by omega) hl
    · intro hx
      refine ⟨fun h hh hl => hx h (by omega) hl, ?_⟩
      by_cases hl : li j = true
      · simp [hx j (by omega) hl]
      · simp [hl]
theorem lst_ex {bh : Nat → Nat} {k h : Nat} (hl : lst bh k h = true) : ∃ i, i < k ∧ bh i = h := by
  induction k with
  | zero => cases hl
  | succ k ih =>
    rw [lst, Bool.or_eq_true, decide_eq_true_eq] at hl
    rcases hl with hl | hl
    · obtain ⟨i, h1, h2⟩ := ih hl; exact ⟨i, by omega, h2⟩
    · exact ⟨k, by omega, hl⟩
theorem WH_ws {nd x h : Nat} {db : Nat → Nat} {f g : Nat → Int32} (h12 : nd ≤ 12) (f0 : ∀ k, nd ≤ k → f k = i32 0) (hx : sub (bitsN nd (thr nd g)) x = true) : WH nd db f x h = wsum f (x &&& AhN nd g db h) := by
  rw [ws_nd h12 f0]
  unfold WH
  refine sum_congr fun k hk => ?_
  rw [sub_t] at hx
  have h1 := hx k
  rw [bits_test] at h1
  rw [Nat.testBit_and, Ah_t]
  by_cases e1 : x.testBit k = true
  · have h2 := h1 e1
    simp only [Bool.and_eq_true] at h2
    by_cases e2 : db k = h
    · simp [e1, e2, h2.2, hk]
    · simp [e1, e2]
  · simp [e1]
section Gr
variable {I : VI} {nh nd nL nw ni nf sz : Nat} {db cr bh bv : Nat → Nat} {q : Nat → Nat × Nat} {lw : (Nat → Int32) → Int32}
/-- the lines say the same as the houses -/
theorem gl_gr {f : Nat → Int32} {x : Nat} (h12 : nd ≤ 12) (f0 : ∀ k, nd ≤ k → f k = i32 0) (hB : Bk I nh nL bh bv) (hx : sub (bitsN nd (thr nd (I 536))) x = true) : glT nd db f bh bv x nL 0 = grB (AhN nd (I 536) db) (lst bh nL) (fun h x => decide (wsum f x = I 42 h)) nh x := by
  obtain ⟨_, hl, _⟩ := hB
  have key : glT nd db f bh bv x nL 0 = true ↔ grB (AhN nd (I 536) db) (lst bh nL) (fun h x => decide (wsum f x = I 42 h)) nh x = true := by
    rw [glT_iff, grB_iff]
    constructor
    · intro h1 h hh hli
      obtain ⟨i, hi, e⟩ := lst_ex hli
      subst e
      have := h1 i (Nat.zero_le _) (by omega)
      rw [WH_ws h12 f0 hx] at this
      simp only [decide_eq_true_eq]
      rw [this, (hl i hi).2.2.2.2]
    · intro h1 j _ hj
      have hj' : j < nL := by omega
      have := h1 (bh j) (hl j hj').1 (lst_in hj')
      simp only [decide_eq_true_eq] at this
      rw [WH_ws h12 f0 hx, this, (hl j hj').2.2.2.2]
  cases e1 : glT nd db f bh bv x nL 0 <;> cases e2 : grB (AhN nd (I 536) db) (lst bh nL) (fun h x => decide (wsum f x = I 42 h)) nh x <;> simp_all
theorem d257 {d n x A : Nat} {K : VI} {L : VL} {S : SW} {F : Nat → Int32} (hS : S.1 = W0 n) (hK : Bk K nh nL bh bv) (hd : K 75 1 = i32 nd) (h6 : nh ≤ 6) (h12 : nd ≤ 12) (hx : x < 4096) (hA : A < 4096) (hb : ∀ k, k < nd → K (105 + k) 0 = i32 (db k) ∧ db k < nh) (hF : ∀ k, k < nd → K 538 k = F k) : ∀ r, EvD (d + 3) 257 [.ref 71, .int (i32 x), .int (i32 A)] K L S r ↔ r = (.inl (some (.int (bI (sub A x && glT nd db F bh bv x nL 0)))), K, L, S) := by
  obtain ⟨⟨_, h33, hL6, _⟩, hl, _⟩ := hK
  intro r
  by_cases hs : sub A x = true
  · have run : ∀ c i, i + c = nL → (Ev (d + 2) 257 12 [.ref 71, .int (i32 x), .int (i32 A), .int (i32 i)] [] K L S r ↔ r = (.inl (some (.int (bI (glT nd db F bh bv x c i)))), K, L, S)) := by
      intro c
      induction c with
      | zero =>
        intro i hi
        have e : i = nL := by omega
        subst e
        rw [glT]
        (rw [k257_12]; simp (disch := first | assumption | omega) only [in257, k257_0, k257_1, k257_2, k257_3, k257_4, k257_5, k257_8, k257_9, k257_10, k257_11, k257_13, k257_14, k257_17, k257_20, k257_21, k257_22, k257_23, k257_26, k257_27, k257_28, k257_29, k257_30, k257_33, k257_34, k257_37, k257_38, k257_39, k257_40, k257_41, k257_44, k257_45, k257_46, k257_49, k257_52, k257_53, c_0, c_1, hS, t_71, f_71_9, f_71_10, f_71_11, f_71_12, f_71_13, f_71_14, f_71_15, f_71_16, f_71_17, f_71_20, f_71_21, f_71_22, f_71_23, f_71_24, f_71_25, f_71_26, f_71_28, f_71_29, f_71_30, f_71_31, f_71_32, f_71_40, f_71_41, t_72, l_72, t_73, l_73, t_74, l_74, t_75, l_75, t_76, l_76, t_77, l_77, t_84, l_84, t_91, l_91, t_104, l_104, t_117, l_117, t_278, l_278, t_439, l_439, t_446, l_446, t_453, l_453, t_454, l_454, t_455, l_455, t_536, l_536, t_537, l_537, t_538, l_538, t_539, l_539, t_556, l_556, t_560, l_560, t_561, l_561, f_77, t_78, l_78, f_84, t_85, l_85, f_91, t_92, l_92, f_104, t_105, l_105, f_117, t_118, l_118, f_278, t_279, l_279, f_439, t_440, l_440, f_446, t_447, l_447, f_455, t_456, l_456, f_539, t_540, l_540, f_556, t_557, l_557, w_t, w_l, rowX_s, rowX_n, rowX_f, rowX_2, up_s, up_n, Nat.zero_add, n_m1, i_dec, cat_n, cat_i, cat_r, cat_l, i_add, i_tn, i_vi, i_lt, i_eq, i_shl, n_ltT, n_ltF, n_eqT, n_eqF, n_leT, t_and, nb_0, nb_1, b2_0, b2_n, cont_v, cont_n, ex_eq, u_s, u_c, u_j, ↓reduceIte, ite_not, not_true_eq_false, not_false_eq_true, Bool.false_eq_true, Bool.true_eq_false, false_and, true_and, and_false, and_true, or_self, or_false, false_or, or_true, true_or, cont_x, n_leF, c_1, h33, bI])
      | succ c ih =>
        intro i hi
        have hi' : i < nL := by omega
        obtain ⟨l1, l2, l3, l4, _⟩ := hl i hi'
        rw [glT]
        have hw := fun r => d245h (d := d) (I := K) (L := L) (r := r) (x := x) (h := bh i) (F := F) hS hd h6 h12 hx l1 hb hF
        by_cases he : WH nd db F x (bh i) = i32 (bv i)
        · have he2 : sumN nd (fun k => if x.testBit k = true ∧ db k = bh i then F k else i32 0) = i32 (bv i) := he
          have ed : (decide (WH nd db F x (bh i) = i32 (bv i)) && glT nd db F bh bv x c (i + 1)) = glT nd db F bh bv x c (i + 1) := by simp [he]
          rw [ed]
          refine Iff.trans ?_ (ih (i + 1) (by omega))
          rw [he2] at hw
          (rw [k257_12]; simp (disch := first | assumption | omega) only [in257, k257_0, k257_1, k257_2, k257_3, k257_4, k257_5, k257_8, k257_9, k257_10, k257_11, k257_13, k257_14, k257_17, k257_20, k257_21, k257_22, k257_23, k257_26, k257_27, k257_28, k257_29, k257_30, k257_33, k257_34, k257_37, k257_38, k257_39, k257_40, k257_41, k257_44, k257_45, k257_46, k257_49, k257_52, k257_53, c_0, c_1, hS, t_71, f_71_9, f_71_10, f_71_11, f_71_12, f_71_13, f_71_14, f_71_15, f_71_16, f_71_17, f_71_20, f_71_21, f_71_22, f_71_23, f_71_24, f_71_25, f_71_26, f_71_28, f_71_29, f_71_30, f_71_31, f_71_32, f_71_40, f_71_41, t_72, l_72, t_73, l_73, t_74, l_74, t_75, l_75, t_76, l_76, t_77, l_77, t_84, l_84, t_91, l_91, t_104, l_104, t_117, l_117, t_278, l_278, t_439, l_439, t_446, l_446, t_453, l_453, t_454, l_454, t_455, l_455, t_536, l_536, t_537, l_537, t_538, l_538, t_539, l_539, t_556, l_556, t_560, l_560, t_561, l_561, f_77, t_78, l_78, f_84, t_85, l_85, f_91, t_92, l_92, f_104, t_105, l_105, f_117, t_118, l_118, f_278, t_279, l_279, f_439, t_440, l_440, f_446, t_447, l_447, f_455, t_456, l_456, f_539, t_540, l_540, f_556, t_557, l_557, w_t, w_l, rowX_s, rowX_n, rowX_f, rowX_2, up_s, up_n, Nat.zero_add, n_m1, i_dec, cat_n, cat_i, cat_r, cat_l, i_add, i_tn, i_vi, i_lt, i_eq, i_shl, n_ltT, n_ltF, n_eqT, n_eqF, n_leT, t_and, nb_0, nb_1, b2_0, b2_n, cont_v, cont_n, ex_eq, u_s, u_c, u_j, ↓reduceIte, ite_not, not_true_eq_false, not_false_eq_true, Bool.false_eq_true, Bool.true_eq_false, false_and, true_and, and_false, and_true, or_self, or_false, false_or, or_true, true_or, cont_x, n_leF, c_1, h33, hi', l3, l4, hw])
        · have he2 : ¬ sumN nd (fun k => if x.testBit k = true ∧ db k = bh i then F k else i32 0) = i32 (bv i) := he
          have ed : (decide (WH nd db F x (bh i) = i32 (bv i)) && glT nd db F bh bv x c (i + 1)) = false := by simp [he]
          rw [ed]
          (rw [k257_12]; simp (disch := first | assumption | omega) only [in257, k257_0, k257_1, k257_2, k257_3, k257_4, k257_5, k257_8, k257_9, k257_10, k257_11, k257_13, k257_14, k257_17, k257_20, k257_21, k257_22, k257_23, k257_26, k257_27, k257_28, k257_29, k257_30, k257_33, k257_34, k257_37, k257_38, k257_39, k257_40, k257_41, k257_44, k257_45, k257_46, k257_49, k257_52, k257_53, c_0, c_1, hS, t_71, f_71_9, f_71_10, f_71_11, f_71_12, f_71_13, f_71_14, f_71_15, f_71_16, f_71_17, f_71_20, f_71_21, f_71_22, f_71_23, f_71_24, f_71_25, f_71_26, f_71_28, f_71_29, f_71_30, f_71_31, f_71_32, f_71_40, f_71_41, t_72, l_72, t_73, l_73, t_74, l_74, t_75, l_75, t_76, l_76, t_77, l_77, t_84, l_84, t_91, l_91, t_104, l_104, t_117, l_117, t_278, l_278, t_439, l_439, t_446, l_446, t_453, l_453, t_454, l_454, t_455, l_455, t_536, l_536, t_537, l_537, t_538, l_538, t_539, l_539, t_556, l_556, t_560, l_560, t_561, l_561, f_77, t_78, l_78, f_84, t_85, l_85, f_91, t_92, l_92, f_104, t_105, l_105, f_117, t_118, l_118, f_278, t_279, l_279, f_439, t_440, l_440, f_446, t_447, l_447, f_455, t_456, l_456, f_539, t_540, l_540, f_556, t_557, l_557, w_t, w_l, rowX_s, rowX_n, rowX_f, rowX_2, up_s, up_n, Nat.zero_add, n_m1, i_dec, cat_n, cat_i, cat_r, cat_l, i_add, i_tn, i_vi, i_lt, i_eq, i_shl, n_ltT, n_ltF, n_eqT, n_eqF, n_leT, t_and, nb_0, nb_1, b2_0, b2_n, cont_v, cont_n, ex_eq, u_s, u_c, u_j, ↓reduceIte, ite_not, not_true_eq_false, not_false_eq_true, Bool.false_eq_true, Bool.true_eq_false, false_and, true_and, and_false, and_true, or_self, or_false, false_or, or_true, true_or, cont_x, n_leF, c_1, h33, hi', l3, l4, hw, he2, bI])
    rw [hs, Bool.true_and]
    refine Iff.trans ?_ (run nL 0 (by omega))
    simp (disch := first | assumption | omega) only [in257, k257_0, k257_1, k257_2, k257_3, k257_4, k257_5, k257_8, k257_9, k257_10, k257_11, k257_13, k257_14, k257_17, k257_20, k257_21, k257_22, k257_23, k257_26, k257_27, k257_28, k257_29, k257_30, k257_33, k257_34, k257_37, k257_38, k257_39, k257_40, k257_41, k257_44, k257_45, k257_46, k257_49, k257_52, k257_53, c_0, c_1, hS, t_71, f_71_9, f_71_10, f_71_11, f_71_12, f_71_13, f_71_14, f_71_15, f_71_16, f_71_17, f_71_20, f_71_21, f_71_22, f_71_23, f_71_24, f_71_25, f_71_26, f_71_28, f_71_29, f_71_30, f_71_31, f_71_32, f_71_40, f_71_41, t_72, l_72, t_73, l_73, t_74, l_74, t_75, l_75, t_76, l_76, t_77, l_77, t_84, l_84, t_91, l_91, t_104, l_104, t_117, l_117, t_278, l_278, t_439, l_439, t_446, l_446, t_453, l_453, t_454, l_454, t_455, l_455, t_536, l_536, t_537, l_537, t_538, l_538, t_539, l_539, t_556, l_556, t_560, l_560, t_561, l_561, f_77, t_78, l_78, f_84, t_85, l_85, f_91, t_92, l_92, f_104, t_105, l_105, f_117, t_118, l_118, f_278, t_279, l_279, f_439, t_440, l_440, f_446, t_447, l_447, f_455, t_456, l_456, f_539, t_540, l_540, f_556, t_557, l_557, w_t, w_l, rowX_s, rowX_n, rowX_f, rowX_2, up_s, up_n, Nat.zero_add, n_m1, i_dec, cat_n, cat_i, cat_r, cat_l, i_add, i_tn, i_vi, i_lt, i_eq, i_shl, n_ltT, n_ltF, n_eqT, n_eqF, n_leT, t_and, nb_0, nb_1, b2_0, b2_n, cont_v, cont_n, ex_eq, u_s, u_c, u_j, ↓reduceIte, ite_not, not_true_eq_false, not_false_eq_true, Bool.false_eq_true, Bool.true_eq_false, false_and, true_and, and_false, and_true, or_self, or_false, false_or, or_true, true_or, cont_x, n_leF, c_1, i_out, hs]
  · have e : (sub A x && glT nd db F bh bv x nL 0) = false := by simp [hs]
    rw [e]
    simp (disch := first | assumption | omega) only [in257, k257_0, k257_1, k257_2, k257_3, k257_4, k257_5, k257_8, k257_9, k257_10, k257_11, k257_13, k257_14, k257_17, k257_20, k257_21, k257_22, k257_23, k257_26, k257_27, k257_28, k257_29, k257_30, k257_33, k257_34, k257_37, k257_38, k257_39, k257_40, k257_41, k257_44, k257_45, k257_46, k257_49, k257_52, k257_53, c_0, c_1, hS, t_71, f_71_9, f_71_10, f_71_11, f_71_12, f_71_13, f_71_14, f_71_15, f_71_16, f_71_17, f_71_20, f_71_21, f_71_22, f_71_23, f_71_24, f_71_25, f_71_26, f_71_28, f_71_29, f_71_30, f_71_31, f_71_32, f_71_40, f_71_41, t_72, l_72, t_73, l_73, t_74, l_74, t_75, l_75, t_76, l_76, t_77, l_77, t_84, l_84, t_91, l_91, t_104, l_104, t_117, l_117, t_278, l_278, t_439, l_439, t_446, l_446, t_453, l_453, t_454, l_454, t_455, l_455, t_536, l_536, t_537, l_537, t_538, l_538, t_539, l_539, t_556, l_556, t_560, l_560, t_561, l_561, f_77, t_78, l_78, f_84, t_85, l_85, f_91, t_92, l_92, f_104, t_105, l_105, f_117, t_118, l_118, f_278, t_279, l_279, f_439, t_440, l_440, f_446, t_447, l_447, f_455, t_456, l_456, f_539, t_540, l_540, f_556, t_557, l_557, w_t, w_l, rowX_s, rowX_n, rowX_f, rowX_2, up_s, up_n, Nat.zero_add, n_m1, i_dec, cat_n, cat_i, cat_r, cat_l, i_add, i_tn, i_vi, i_lt, i_eq, i_shl, n_ltT, n_ltF, n_eqT, n_eqF, n_leT, t_and, nb_0, nb_1, b2_0, b2_n, cont_v, cont_n, ex_eq, u_s, u_c, u_j, ↓reduceIte, ite_not, not_true_eq_false, not_false_eq_true, Bool.false_eq_true, Bool.true_eq_false, false_and, true_and, and_false, and_true, or_self, or_false, false_or, or_true, true_or, cont_x, n_leF, c_1, i_out, hs, bI]
end Gr
def fiL (s : Nat × Nat × Nat) : Int32 := if s.1 = 0 then m1 else i32 s.2.1
theorem pr_ground {n d : Nat} {x : Int32} : Pair n (d + 8) 138 258 [.int x] [(0, 1)] := by
  intro I L S hS hI0
  obtain ⟨nh, nd, db, cr, q, sz, lw, nL, bh, bv, nw, ni, nf, hI⟩ := id hI0
  obtain ⟨⟨⟨hh, hd, mh, md⟩, ⟨h6, h12⟩, hho, hde⟩, ⟨hq, hqm, hlw⟩, hR, hB, hW, hIm, hRf, hTp, hZ⟩ := id hI
  have hT := hR.1.2.2
  have hb : ∀ k, k < nd → I 23 k = i32 (db k) ∧ db k < nh := fun k hk => (hde k hk).1
  have hc : ∀ k, k < nd → I 24 k = i32 (cr k) ∧ cr k < nh := fun k hk => (hde k hk).2.1
  have th0 : ∀ x y j, u2 (u2 I 16 j x) 71 0 y 75 0 = i32 nh := fun x y j => by rw [u_c (by omega), u_c (by omega)]; exact mh
  have td0 : ∀ x y j, u2 (u2 I 16 j x) 71 0 y 75 1 = i32 nd := fun x y j => by rw [u_c (by omega), u_c (by omega)]; exact md
  have tz : ∀ x j, u2 (u2 I 16 j x) 71 0 (i32 0) 71 0 = i32 0 := fun x j => u_s
  by_cases hA : x < i32 0 ∨ i32 2 < x
  · refine pthr (j := 1) (w := 1) (v := .int (i32 0)) hI0 (by omega) (by simp) (fun r => ?_) (fun L S hS r => ?_)
    · simp (disch := first | assumption | omega) only [in138, k138_0, k138_1, k138_2, k138_3, k138_4, k138_7, k138_8, k138_11, k138_14, k138_15, k138_40, k138_41, k138_44, k138_47, k138_48, k138_49, k138_52, k138_55, k138_56, k138_57, k138_60, k138_63, c_0, c_1, c_2, c_3, c_4, c_5, c_6, c_7, c_8, c_9, c_10, c_11, c_12, c_13, c_14, c_15, c_16, hS, t_16, f_16_0, f_16_1, f_16_2, f_16_3, f_16_4, f_16_5, f_16_6, f_16_7, f_16_8, f_16_9, f_16_10, f_16_11, f_16_12, f_16_13, t_17, f_17_0, t_18, l_18, t_19, f_19_0, f_19_1, f_19_2, f_19_3, f_19_4, f_19_5, f_19_6, t_20, l_20, t_21, l_21, t_22, l_22, t_23, l_23, t_24, l_24, t_25, l_25, t_26, l_26, t_27, f_27_0, f_27_1, f_27_2, f_27_3, f_27_4, f_27_5, f_27_6, t_28, l_28, t_29, l_29, t_30, l_30, t_31, l_31, t_32, l_32, t_33, l_33, t_34, l_34, t_35, f_35_0, f_35_1, t_36, l_36, t_37, l_37, t_38, f_38_0, f_38_1, t_39, l_39, t_40, l_40, t_41, f_41_0, t_42, l_42, t_43, f_43_0, t_44, l_44, t_45, f_45_0, f_45_1, f_45_2, f_45_3, t_46, l_46, t_47, l_47, t_48, l_48, t_49, l_49, t_50, l_50, t_51, f_51_0, f_51_1, f_51_2, f_51_3, t_52, l_52, t_53, l_53, t_54, f_54_0, f_54_1, f_54_2, f_54_3, t_55, l_55, t_56, l_56, t_57, f_57_0, f_57_1, f_57_2, f_57_3, t_58, l_58, t_59, l_59, t_60, l_60, t_61, f_61_0, f_61_1, f_61_2, f_61_3, f_61_4, f_61_5, f_61_6, t_62, l_62, t_63, f_63_0, f_63_1, t_64, l_64, t_65, l_65, t_66, f_66_0, f_66_1, t_67, l_67, t_68, l_68, t_69, l_69, t_70, f_70_0, f_70_1, t_1, l_1, t_2, l_2, m_t, m_f0, m_f1, m_f2, m_f3, m_t1, m_l1, m_t2, m_l2, rowX_s, rowX_n, rowX_f, rowX_2, up_s, up_n, Nat.zero_add, n_m1, i_dec, cat_n, cat_i, cat_r, cat_l, i_add, i_tn, i_vi, i_lt, i_eq, i_shl, n_ltT, n_ltF, n_eqT, n_eqF, n_leT, t_and, nb_0, nb_1, b2_0, b2_n, cont_v, cont_n, ex_eq, u_s, u_c, u_j, ↓reduceIte, ite_not, not_true_eq_false, not_false_eq_true, Bool.false_eq_true, Bool.true_eq_false, false_and, true_and, and_false, and_true, or_self, or_false, false_or, or_true, true_or, cont_x, n_leF, c_1, c158 hS, hA, Nat.reduceAdd, Nat.reduceSub]
    · have hr2 := rngY hA
      simp (disch := first | assumption | omega) only [in258, k258_0, k258_1, k258_2, k258_5, k258_6, k258_7, k258_8, k258_9, k258_12, k258_15, k258_16, k258_19, k258_20, k258_21, k258_22, k258_25, k258_28, k258_29, k258_30, k258_31, k258_32, k258_33, k258_34, k258_35, k258_38, k258_40, k258_41, k258_42, k258_45, k258_48, k258_50, k258_51, k258_54, k258_55, k258_59, k258_60, k258_63, k258_66, k258_67, k258_69, k258_71, k258_74, k258_77, k258_80, k258_81, k258_84, k258_86, k258_89, k258_90, k258_91, k258_93, k258_95, k258_96, k258_98, k258_101, k258_104, k258_107, k258_108, k258_111, k258_112, k258_115, k258_116, k258_117, k258_120, k258_121, k258_124, k258_125, k258_128, k258_129, k258_132, k258_134, c_0, c_1, c_2, hS, t_71, f_71_9, f_71_10, f_71_11, f_71_12, f_71_13, f_71_14, f_71_15, f_71_16, f_71_17, f_71_20, f_71_21, f_71_22, f_71_23, f_71_24, f_71_25, f_71_26, f_71_28, f_71_29, f_71_30, f_71_31, f_71_32, f_71_40, f_71_41, t_72, l_72, t_73, l_73, t_74, l_74, t_75, l_75, t_76, l_76, t_77, l_77, t_84, l_84, t_91, l_91, t_104, l_104, t_117, l_117, t_278, l_278, t_439, l_439, t_446, l_446, t_453, l_453, t_454, l_454, t_455, l_455, t_536, l_536, t_537, l_537, t_538, l_538, t_539, l_539, t_556, l_556, t_560, l_560, t_561, l_561, f_77, t_78, l_78, f_84, t_85, l_85, f_91, t_92, l_92, f_104, t_105, l_105, f_117, t_118, l_118, f_278, t_279, l_279, f_439, t_440, l_440, f_446, t_447, l_447, f_455, t_456, l_456, f_539, t_540, l_540, f_556, t_557, l_557, w_t, w_l, rowX_s, rowX_n, rowX_f, rowX_2, up_s, up_n, Nat.zero_add, n_m1, i_dec, cat_n, cat_i, cat_r, cat_l, i_add, i_tn, i_vi, i_lt, i_eq, i_shl, n_ltT, n_ltF, n_eqT, n_eqF, n_leT, t_and, nb_0, nb_1, b2_0, b2_n, cont_v, cont_n, ex_eq, u_s, u_c, u_j, ↓reduceIte, ite_not, not_true_eq_false, not_false_eq_true, Bool.false_eq_true, Bool.true_eq_false, false_and, true_and, and_false, and_true, or_self, or_false, false_or, or_true, true_or, cont_x, n_leF, c_1, d170 hS, hr2, d169t hS (tz _ _), Nat.reduceAdd]
  obtain ⟨v, -, hk, rfl⟩ := rng (by omega) hA (by omega)
  clear hA
  obtain ⟨K1, s, hse, k1, kf, k7, k8, k9, h77⟩ := p77 (d := d) (L := L) hS hI
  have a1 : ag I K1 := fun c j hs => k1 c j (by unfold scr at hs; omega)
  have hA : bitsN nd (thr nd (I 536)) < 4096 := bits_4096 h12
  have hp := pw12 h12
  have hAn : bitsN nd (thr nd (I 536)) < 2 ^ nd := bits_lt
  have hLC := hs3_L (Ah := AhN nd (I 536) db) (li := lst bh nL) (PV := fun h x => decide (wsum (FL I nd q sz db cr) x = I 42 h)) (nh := nh) (fun h _ => bits_4096 h12) (fun h _ => UA_d h) nh (Nat.le_refl _)
  rw [← hse, UA_A (fun k hk => (hb k hk).2)] at hLC
  have e536 : K1 536 = I 536 := ag_f a1 536 (by unfold scr; omega)
  have hp1 := invP_ag a1 hI
  obtain ⟨J, hJ⟩ : ∃ J, u2 K1 71 0 (i32 0) = J := ⟨_, rfl⟩
  have hJ0 : J 71 0 = i32 0 := by rw [← hJ]; exact u_s
  have aJ : ag K1 J := by rw [← hJ]; exact ag_u (by unfold scr; omega)
  have hIJ := invP_ag aJ hp1
  obtain ⟨⟨⟨_, _, jh, jd⟩, _, jho, jde⟩, ⟨_, jq, _⟩, _, jB, _, _, _, _, _⟩ := id hIJ
  have jr : J 536 = I 536 := (ag_f aJ 536 (by unfold scr; omega)).trans e536
  have jb : ∀ k, k < nd → J (105 + k) 0 = i32 (db k) ∧ db k < nh := fun k hk => ⟨(jde k hk).2.2.1, (jde k hk).1.2⟩
  have jc : ∀ k, k < nd → J (105 + k) 1 = i32 (cr k) ∧ cr k < nh := fun k hk => ⟨(jde k hk).2.2.2.1, (jde k hk).2.1.2⟩
  have aJ2 := ag_trans a1 aJ
  obtain ⟨f, hf⟩ : ∃ f, FL I nd q sz db cr = f := ⟨_, rfl⟩
  have f0 : ∀ k, nd ≤ k → f k = i32 0 := fun k hk => by rw [← hf]; exact FL_0 hk
  rw [hf] at hLC
  have hLC2 := LC3_c (fun x hx => (gl_gr (db := db) h12 f0 hB hx).symm) hLC
  obtain ⟨A, hAe⟩ : ∃ A, bitsN nd (thr nd (I 536)) = A := ⟨_, rfl⟩
  rw [hAe] at hA hAn hLC2
  obtain ⟨G, hG⟩ : ∃ G : Nat → Bool, (fun x => glT nd db f bh bv x nL 0) = G := ⟨_, rfl⟩
  rw [hG] at hLC2
  have hLC3 := go_LC3 (A := A) (N := 2 ^ nd) (z := 0) (a := 2 ^ nd - 1) (P := G) hAn hp.2 (fun k hk => by
    rw [Nat.testBit_two_pow_sub_one]
    have : k < nd := by
      refine Classical.byContradiction fun z => ?_
      have h1 : A < 2 ^ k := Nat.lt_of_lt_of_le hAn (Nat.pow_le_pow_right (by omega) (by omega))
      rw [Nat.testBit_lt_two_pow h1] at hk
      cases hk
    simp [this])
  obtain ⟨u1, u2'⟩ := LC3_u hLC2 hLC3
  have hs1 : s.1 ≤ 4096 := by rw [hLC2.1]; exact T_le
  refine pok2 hI0 a1 (fun r => ?_) (fun L S hS => ?_) (v := .int (if v = 0 then i32 s.1 else if v = 1 then (if s.1 = 0 then m1 else i32 s.2.1) else (if s.1 = 0 then i32 0 else i32 s.2.2)))
  · have hv3 : v = 0 ∨ v = 1 ∨ v = 2 := by omega
    rcases hv3 with rfl | rfl | rfl
    · simp (disch := first | assumption | omega) only [in138, k138_0, k138_1, k138_2, k138_3, k138_4, k138_7, k138_8, k138_11, k138_14, k138_15, k138_40, k138_41, k138_44, k138_47, k138_48, k138_49, k138_52, k138_55, k138_56, k138_57, k138_60, k138_63, c_0, c_1, c_2, c_3, c_4, c_5, c_6, c_7, c_8, c_9, c_10, c_11, c_12, c_13, c_14, c_15, c_16, hS, t_16, f_16_0, f_16_1, f_16_2, f_16_3, f_16_4, f_16_5, f_16_6, f_16_7, f_16_8, f_16_9, f_16_10, f_16_11, f_16_12, f_16_13, t_17, f_17_0, t_18, l_18, t_19, f_19_0, f_19_1, f_19_2, f_19_3, f_19_4, f_19_5, f_19_6, t_20, l_20, t_21, l_21, t_22, l_22, t_23, l_23, t_24, l_24, t_25, l_25, t_26, l_26, t_27, f_27_0, f_27_1, f_27_2, f_27_3, f_27_4, f_27_5, f_27_6, t_28, l_28, t_29, l_29, t_30, l_30, t_31, l_31, t_32, l_32, t_33, l_33, t_34, l_34, t_35, f_35_0, f_35_1, t_36, l_36, t_37, l_37, t_38, f_38_0, f_38_1, t_39, l_39, t_40, l_40, t_41, f_41_0, t_42, l_42, t_43, f_43_0, t_44, l_44, t_45, f_45_0, f_45_1, f_45_2, f_45_3, t_46, l_46, t_47, l_47, t_48, l_48, t_49, l_49, t_50, l_50, t_51, f_51_0, f_51_1, f_51_2, f_51_3, t_52, l_52, t_53, l_53, t_54, f_54_0, f_54_1, f_54_2, f_54_3, t_55, l_55, t_56, l_56, t_57, f_57_0, f_57_1, f_57_2, f_57_3, t_58, l_58, t_59, l_59, t_60, l_60, t_61, f_61_0, f_61_1, f_61_2, f_61_3, f_61_4, f_61_5, f_61_6, t_62, l_62, t_63, f_63_0, f_63_1, t_64, l_64, t_65, l_65, t_66, f_66_0, f_66_1, t_67, l_67, t_68, l_68, t_69, l_69, t_70, f_70_0, f_70_1, t_1, l_1, t_2, l_2, m_t, m_f0, m_f1, m_f2, m_f3, m_t1, m_l1, m_t2, m_l2, rowX_s, rowX_n, rowX_f, rowX_2, up_s, up_n, Nat.zero_add, n_m1, i_dec, cat_n, cat_i, cat_r, cat_l, i_add, i_tn, i_vi, i_lt, i_eq, i_shl, n_ltT, n_ltF, n_eqT, n_eqF, n_leT, t_and, nb_0, nb_1, b2_0, b2_n, cont_v, cont_n, ex_eq, u_s, u_c, u_j, ↓reduceIte, ite_not, not_true_eq_false, not_false_eq_true, Bool.false_eq_true, Bool.true_eq_false, false_and, true_and, and_false, and_true, or_self, or_false, false_or, or_true, true_or, cont_x, n_leF, c_1, c158 hS, h77, k7, c_1]
    · simp (disch := first | assumption | omega) only [in138, k138_0, k138_1, k138_2, k138_3, k138_4, k138_7, k138_8, k138_11, k138_14, k138_15, k138_40, k138_41, k138_44, k138_47, k138_48, k138_49, k138_52, k138_55, k138_56, k138_57, k138_60, k138_63, c_0, c_1, c_2, c_3, c_4, c_5, c_6, c_7, c_8, c_9, c_10, c_11, c_12, c_13, c_14, c_15, c_16, hS, t_16, f_16_0, f_16_1, f_16_2, f_16_3, f_16_4, f_16_5, f_16_6, f_16_7, f_16_8, f_16_9, f_16_10, f_16_11, f_16_12, f_16_13, t_17, f_17_0, t_18, l_18, t_19, f_19_0, f_19_1, f_19_2, f_19_3, f_19_4, f_19_5, f_19_6, t_20, l_20, t_21, l_21, t_22, l_22, t_23, l_23, t_24, l_24, t_25, l_25, t_26, l_26, t_27, f_27_0, f_27_1, f_27_2, f_27_3, f_27_4, f_27_5, f_27_6, t_28, l_28, t_29, l_29, t_30, l_30, t_31, l_31, t_32, l_32, t_33, l_33, t_34, l_34, t_35, f_35_0, f_35_1, t_36, l_36, t_37, l_37, t_38, f_38_0, f_38_1, t_39, l_39, t_40, l_40, t_41, f_41_0, t_42, l_42, t_43, f_43_0, t_44, l_44, t_45, f_45_0, f_45_1, f_45_2, f_45_3, t_46, l_46, t_47, l_47, t_48, l_48, t_49, l_49, t_50, l_50, t_51, f_51_0, f_51_1, f_51_2, f_51_3, t_52, l_52, t_53, l_53, t_54, f_54_0, f_54_1, f_54_2, f_54_3, t_55, l_55, t_56, l_56, t_57, f_57_0, f_57_1, f_57_2, f_57_3, t_58, l_58, t_59, l_59, t_60, l_60, t_61, f_61_0, f_61_1, f_61_2, f_61_3, f_61_4, f_61_5, f_61_6, t_62, l_62, t_63, f_63_0, f_63_1, t_64, l_64, t_65, l_65, t_66, f_66_0, f_66_1, t_67, l_67, t_68, l_68, t_69, l_69, t_70, f_70_0, f_70_1, t_1, l_1, t_2, l_2, m_t, m_f0, m_f1, m_f2, m_f3, m_t1, m_l1, m_t2, m_l2, rowX_s, rowX_n, rowX_f, rowX_2, up_s, up_n, Nat.zero_add, n_m1, i_dec, cat_n, cat_i, cat_r, cat_l, i_add, i_tn, i_vi, i_lt, i_eq, i_shl, n_ltT, n_ltF, n_eqT, n_eqF, n_leT, t_and, nb_0, nb_1, b2_0, b2_n, cont_v, cont_n, ex_eq, u_s, u_c, u_j, ↓reduceIte, ite_not, not_true_eq_false, not_false_eq_true, Bool.false_eq_true, Bool.true_eq_false, false_and, true_and, and_false, and_true, or_self, or_false, false_or, or_true, true_or, cont_x, n_leF, c_1, c158 hS, h77, k8, c_1]
    · simp (disch := first | assumption | omega) only [in138, k138_0, k138_1, k138_2, k138_3, k138_4, k138_7, k138_8, k138_11, k138_14, k138_15, k138_40, k138_41, k138_44, k138_47, k138_48, k138_49, k138_52, k138_55, k138_56, k138_57, k138_60, k138_63, c_0, c_1, c_2, c_3, c_4, c_5, c_6, c_7, c_8, c_9, c_10, c_11, c_12, c_13, c_14, c_15, c_16, hS, t_16, f_16_0, f_16_1, f_16_2, f_16_3, f_16_4, f_16_5, f_16_6, f_16_7, f_16_8, f_16_9, f_16_10, f_16_11, f_16_12, f_16_13, t_17, f_17_0, t_18, l_18, t_19, f_19_0, f_19_1, f_19_2, f_19_3, f_19_4, f_19_5, f_19_6, t_20, l_20, t_21, l_21, t_22, l_22, t_23, l_23, t_24, l_24, t_25, l_25, t_26, l_26, t_27, f_27_0, f_27_1, f_27_2, f_27_3, f_27_4, f_27_5, f_27_6, t_28, l_28, t_29, l_29, t_30, l_30, t_31, l_31, t_32, l_32, t_33, l_33, t_34, l_34, t_35, f_35_0, f_35_1, t_36, l_36, t_37, l_37, t_38, f_38_0, f_38_1, t_39, l_39, t_40, l_40, t_41, f_41_0, t_42, l_42, t_43, f_43_0, t_44, l_44, t_45, f_45_0, f_45_1, f_45_2, f_45_3, t_46, l_46, t_47, l_47, t_48, l_48, t_49, l_49, t_50, l_50, t_51, f_51_0, f_51_1, f_51_2, f_51_3, t_52, l_52, t_53, l_53, t_54, f_54_0, f_54_1, f_54_2, f_54_3, t_55, l_55, t_56, l_56, t_57, f_57_0, f_57_1, f_57_2, f_57_3, t_58, l_58, t_59, l_59, t_60, l_60, t_61, f_61_0, f_61_1, f_61_2, f_61_3, f_61_4, f_61_5, f_61_6, t_62, l_62, t_63, f_63_0, f_63_1, t_64, l_64, t_65, l_65, t_66, f_66_0, f_66_1, t_67, l_67, t_68, l_68, t_69, l_69, t_70, f_70_0, f_70_1, t_1, l_1, t_2, l_2, m_t, m_f0, m_f1, m_f2, m_f3, m_t1, m_l1, m_t2, m_l2, rowX_s, rowX_n, rowX_f, rowX_2, up_s, up_n, Nat.zero_add, n_m1, i_dec, cat_n, cat_i, cat_r, cat_l, i_add, i_tn, i_vi, i_lt, i_eq, i_shl, n_ltT, n_ltF, n_eqT, n_eqF, n_leT, t_and, nb_0, nb_1, b2_0, b2_n, cont_v, cont_n, ex_eq, u_s, u_c, u_j, ↓reduceIte, ite_not, not_true_eq_false, not_false_eq_true, Bool.false_eq_true, Bool.true_eq_false, false_and, true_and, and_false, and_true, or_self, or_false, false_or, or_true, true_or, cont_x, n_leF, c_1, c158 hS, h77, k9, c_1]
  · obtain ⟨K, k2, kF, h244⟩ := p244 (d := d + 1) (L := L) hS hI aJ2
    rw [hf] at kF
    have kd : K 75 1 = i32 nd := by rw [k2 _ _ (by omega)]; exact jd
    have aK : ag J K := fun c j hs => k2 c j (by unfold scr at hs; omega)
    have KB : Bk K nh nL bh bv := Bk_ag aK jB
    have Kb : ∀ k, k < nd → K (105 + k) 0 = i32 (db k) ∧ db k < nh := fun k hk => by rw [k2 _ _ (by omega)]; exact jb k hk
    refine ⟨K, ag_trans aJ aK, by rw [k2 _ _ (by omega)]; exact hJ0, fun r => ?_⟩
    obtain ⟨go, hgo⟩ : ∃ go : Nat → Nat × Nat × Nat, goF A (st3 G) (0, 0, 2 ^ nd - 1) = go := ⟨_, rfl⟩
    rw [hgo] at u1 u2'
    refine Iff.trans (b := Ev (d + 7) 258 57 [.ref 71, .int (i32 v), .int (i32 (go 0).1), .int (fiL (go 0)), .int (i32 (go 0).2.2), .int (i32 A), .int (i32 0)] [] K L S r) ?_ ?_
    · have eg : go 0 = (0, 0, 2 ^ nd - 1) := by rw [← hgo]; rfl
      rw [eg]
      simp (disch := first | assumption | omega) only [in258, k258_0, k258_1, k258_2, k258_5, k258_6, k258_7, k258_8, k258_9, k258_12, k258_15, k258_16, k258_19, k258_20, k258_21, k258_22, k258_25, k258_28, k258_29, k258_30, k258_31, k258_32, k258_33, k258_34, k258_35, k258_38, k258_40, k258_41, k258_42, k258_45, k258_48, k258_50, k258_51, k258_54, k258_55, k258_59, k258_60, k258_63, k258_66, k258_67, k258_69, k258_71, k258_74, k258_77, k258_80, k258_81, k258_84, k258_86, k258_89, k258_90, k258_91, k258_93, k258_95, k258_96, k258_98, k258_101, k258_104, k258_107, k258_108, k258_111, k258_112, k258_115, k258_116, k258_117, k258_120, k258_121, k258_124, k258_125, k258_128, k258_129, k258_132, k258_134, c_0, c_1, c_2, hS, t_71, f_71_9, f_71_10, f_71_11, f_71_12, f_71_13, f_71_14, f_71_15, f_71_16, f_71_17, f_71_20, f_71_21, f_71_22, f_71_23, f_71_24, f_71_25, f_71_26, f_71_28, f_71_29, f_71_30, f_71_31, f_71_32, f_71_40, f_71_41, t_72, l_72, t_73, l_73, t_74, l_74, t_75, l_75, t_76, l_76, t_77, l_77, t_84, l_84, t_91, l_91, t_104, l_104, t_117, l_117, t_278, l_278, t_439, l_439, t_446, l_446, t_453, l_453, t_454, l_454, t_455, l_455, t_536, l_536, t_537, l_537, t_538, l_538, t_539, l_539, t_556, l_556, t_560, l_560, t_561, l_561, f_77, t_78, l_78, f_84, t_85, l_85, f_91, t_92, l_92, f_104, t_105, l_105, f_117, t_118, l_118, f_278, t_279, l_279, f_439, t_440, l_440, f_446, t_447, l_447, f_455, t_456, l_456, f_539, t_540, l_540, f_556, t_557, l_557, w_t, w_l, rowX_s, rowX_n, rowX_f, rowX_2, up_s, up_n, Nat.zero_add, n_m1, i_dec, cat_n, cat_i, cat_r, cat_l, i_add, i_tn, i_vi, i_lt, i_eq, i_shl, n_ltT, n_ltF, n_eqT, n_eqF, n_leT, t_and, nb_0, nb_1, b2_0, b2_n, cont_v, cont_n, ex_eq, u_s, u_c, u_j, ↓reduceIte, ite_not, not_true_eq_false, not_false_eq_true, Bool.false_eq_true, Bool.true_eq_false, false_and, true_and, and_false, and_true, or_self, or_false, false_or, or_true, true_or, cont_x, n_leF, c_1, hJ, d170 hS, d169f hS, b2_0, d247 hS jd h12, d215 hS jh jd h6 h12 (Or.inl rfl), jr, hAe, h244, fiL]
    refine Iff.trans (up_to (P := fun j => Ev (d + 7) 258 57 [.ref 71, .int (i32 v), .int (i32 (go j).1), .int (fiL (go j)), .int (i32 (go j).2.2), .int (i32 A), .int (i32 j)] [] K L S r) (n := 2 ^ nd) (fun j hj => ?_) 0 (Nat.zero_le _)) ?_
    · have hj2 : j < 4096 := by omega
      have hgl := go3_le (A := A) (z := 0) (a := 2 ^ nd - 1) (y := j) (P := G)
      have hstep : go (j + 1) = if sub A j = true then st3 G (go j) j else go j := by rw [← hgo]; rfl
      rw [hgo] at hgl
      have h257 := d257 (d := d + 4) (L := L) (x := j) (A := A) (F := f) hS KB kd h6 h12 hj2 hA Kb kF
      have eG : glT nd db f bh bv j nL 0 = G j := by rw [← hG]
      rw [eG] at h257
      rw [hstep]
      generalize go j = t at *
      obtain ⟨t1, t2, t3⟩ := t
      dsimp only at hgl ⊢
      by_cases hsu : sub A j = true
      · rw [if_pos hsu]
        unfold st3
        by_cases hg : G j = true
        · rw [if_pos hg]
          have ev : bI (sub A j && G j) = i32 1 := by rw [hsu, hg]; rfl
          simp only [ev] at h257
          have hn : ¬ t1 + 1 = 0 := by omega
          by_cases h0 : t1 = 0
          · subst h0
            (rw [k258_57]; simp (disch := first | assumption | omega) only [in258, k258_0, k258_1, k258_2, k258_5, k258_6, k258_7, k258_8, k258_9, k258_12, k258_15, k258_16, k258_19, k258_20, k258_21, k258_22, k258_25, k258_28, k258_29, k258_30, k258_31, k258_32, k258_33, k258_34, k258_35, k258_38, k258_40, k258_41, k258_42, k258_45, k258_48, k258_50, k258_51, k258_54, k258_55, k258_59, k258_60, k258_63, k258_66, k258_67, k258_69, k258_71, k258_74, k258_77, k258_80, k258_81, k258_84, k258_86, k258_89, k258_90, k258_91, k258_93, k258_95, k258_96, k258_98, k258_101, k258_104, k258_107, k258_108, k258_111, k258_112, k258_115, k258_116, k258_117, k258_120, k258_121, k258_124, k258_125, k258_128, k258_129, k258_132, k258_134, c_0, c_1, c_2, hS, t_71, f_71_9, f_71_10, f_71_11, f_71_12, f_71_13, f_71_14, f_71_15, f_71_16, f_71_17, f_71_20, f_71_21, f_71_22, f_71_23, f_71_24, f_71_25, f_71_26, f_71_28, f_71_29, f_71_30, f_71_31, f_71_32, f_71_40, f_71_41, t_72, l_72, t_73, l_73, t_74, l_74, t_75, l_75, t_76, l_76, t_77, l_77, t_84, l_84, t_91, l_91, t_104, l_104, t_117, l_117, t_278, l_278, t_439, l_439, t_446, l_446, t_453, l_453, t_454, l_454, t_455, l_455, t_536, l_536, t_537, l_537, t_538, l_538, t_539, l_539, t_556, l_556, t_560, l_560, t_561, l_561, f_77, t_78, l_78, f_84, t_85, l_85, f_91, t_92, l_92, f_104, t_105, l_105, f_117, t_118, l_118, f_278, t_279, l_279, f_439, t_440, l_440, f_446, t_447, l_447, f_455, t_456, l_456, f_539, t_540, l_540, f_556, t_557, l_557, w_t, w_l, rowX_s, rowX_n, rowX_f, rowX_2, up_s, up_n, Nat.zero_add, n_m1, i_dec, cat_n, cat_i, cat_r, cat_l, i_add, i_tn, i_vi, i_lt, i_eq, i_shl, n_ltT, n_ltF, n_eqT, n_eqF, n_leT, t_and, nb_0, nb_1, b2_0, b2_n, cont_v, cont_n, ex_eq, u_s, u_c, u_j, ↓reduceIte, ite_not, not_true_eq_false, not_false_eq_true, Bool.false_eq_true, Bool.true_eq_false, false_and, true_and, and_false, and_true, or_self, or_false, false_or, or_true, true_or, cont_x, n_leF, c_1, d247 hS kd h12, h257, fiL, i_and])
          · have ef : fiL (t1 + 1, (if t1 = 0 then j else t2), t3 &&& j) = i32 t2 := by unfold fiL; dsimp only; rw [if_neg hn, if_neg h0]
            have ef2 : fiL (t1, t2, t3) = i32 t2 := by unfold fiL; dsimp only; rw [if_neg h0]
            simp only [ef, ef2]
            (rw [k258_57]; simp (disch := first | assumption | omega) only [in258, k258_0, k258_1, k258_2, k258_5, k258_6, k258_7, k258_8, k258_9, k258_12, k258_15, k258_16, k258_19, k258_20, k258_21, k258_22, k258_25, k258_28, k258_29, k258_30, k258_31, k258_32, k258_33, k258_34, k258_35, k258_38, k258_40, k258_41, k258_42, k258_45, k258_48, k258_50, k258_51, k258_54, k258_55, k258_59, k258_60, k258_63, k258_66, k258_67, k258_69, k258_71, k258_74, k258_77, k258_80, k258_81, k258_84, k258_86, k258_89, k258_90, k258_91, k258_93, k258_95, k258_96, k258_98, k258_101, k258_104, k258_107, k258_108, k258_111, k258_112, k258_115, k258_116, k258_117, k258_120, k258_121, k258_124, k258_125, k258_128, k258_129, k258_132, k258_134, c_0, c_1, c_2, hS, t_71, f_71_9, f_71_10, f_71_11, f_71_12, f_71_13, f_71_14, f_71_15, f_71_16, f_71_17, f_71_20, f_71_21, f_71_22, f_71_23, f_71_24, f_71_25, f_71_26, f_71_28, f_71_29, f_71_30, f_71_31, f_71_32, f_71_40, f_71_41, t_72, l_72, t_73, l_73, t_74, l_74, t_75, l_75, t_76, l_76, t_77, l_77, t_84, l_84, t_91, l_91, t_104, l_104, t_117, l_117, t_278, l_278, t_439, l_439, t_446, l_446, t_453, l_453, t_454, l_454, t_455, l_455, t_536, l_536, t_537, l_537, t_538, l_538, t_539, l_539, t_556, l_556, t_560, l_560, t_561, l_561, f_77, t_78, l_78, f_84, t_85, l_85, f_91, t_92, l_92, f_104, t_105, l_105, f_117, t_118, l_118, f_278, t_279, l_279, f_439, t_440, l_440, f_446, t_447, l_447, f_455, t_456, l_456, f_539, t_540, l_540, f_556, t_557, l_557, w_t, w_l, rowX_s, rowX_n, rowX_f, rowX_2, up_s, up_n, Nat.zero_add, n_m1, i_dec, cat_n, cat_i, cat_r, cat_l, i_add, i_tn, i_vi, i_lt, i_eq, i_shl, n_ltT, n_ltF, n_eqT, n_eqF, n_leT, t_and, nb_0, nb_1, b2_0, b2_n, cont_v, cont_n, ex_eq, u_s, u_c, u_j, ↓reduceIte, ite_not, not_true_eq_false, not_false_eq_true, Bool.false_eq_true, Bool.true_eq_false, false_and, true_and, and_false, and_true, or_self, or_false, false_or, or_true, true_or, cont_x, n_leF, c_1, d247 hS kd h12, h257, h0, i_and])
        · rw [if_neg hg]
          have ev : bI (sub A j && G j) = i32 0 := by
            have : G j = false := by simpa using hg
            rw [this, Bool.and_false]; rfl
          simp only [ev] at h257
          (rw [k258_57]; simp (disch := first | assumption | omega) only [in258, k258_0, k258_1, k258_2, k258_5, k258_6, k258_7, k258_8, k258_9, k258_12, k258_15, k258_16, k258_19, k258_20, k258_21, k258_22, k258_25, k258_28, k258_29, k258_30, k258_31, k258_32, k258_33, k258_34, k258_35, k258_38, k258_40, k258_41, k258_42, k258_45, k258_48, k258_50, k258_51, k258_54, k258_55, k258_59, k258_60, k258_63, k258_66, k258_67, k258_69, k258_71, k258_74, k258_77, k258_80, k258_81, k258_84, k258_86, k258_89, k258_90, k258_91, k258_93, k258_95, k258_96, k258_98, k258_101, k258_104, k258_107, k258_108, k258_111, k258_112, k258_115, k258_116, k258_117, k258_120, k258_121, k258_124, k258_125, k258_128, k258_129, k258_132, k258_134, c_0, c_1, c_2, hS, t_71, f_71_9, f_71_10, f_71_11, f_71_12, f_71_13, f_71_14, f_71_15, f_71_16, f_71_17, f_71_20, f_71_21, f_71_22, f_71_23, f_71_24, f_71_25, f_71_26, f_71_28, f_71_29, f_71_30, f_71_31, f_71_32, f_71_40, f_71_41, t_72, l_72, t_73, l_73, t_74, l_74, t_75, l_75, t_76, l_76, t_77, l_77, t_84, l_84, t_91, l_91, t_104, l_104, t_117, l_117, t_278, l_278, t_439, l_439, t_446, l_446, t_453, l_453, t_454, l_454, t_455, l_455, t_536, l_536, t_537, l_537, t_538, l_538, t_539, l_539, t_556, l_556, t_560, l_560, t_561, l_561, f_77, t_78, l_78, f_84, t_85, l_85, f_91, t_92, l_92, f_104, t_105, l_105, f_117, t_118, l_118, f_278, t_279, l_279, f_439, t_440, l_440, f_446, t_447, l_447, f_455, t_456, l_456, f_539, t_540, l_540, f_556, t_557, l_557, w_t, w_l, rowX_s, rowX_n, rowX_f, rowX_2, up_s, up_n, Nat.zero_add, n_m1, i_dec, cat_n, cat_i, cat_r, cat_l, i_add, i_tn, i_vi, i_lt, i_eq, i_shl, n_ltT, n_ltF, n_eqT, n_eqF, n_leT, t_and, nb_0, nb_1, b2_0, b2_n, cont_v, cont_n, ex_eq, u_s, u_c, u_j, ↓reduceIte, ite_not, not_true_eq_false, not_false_eq_true, Bool.false_eq_true, Bool.true_eq_false, false_and, true_and, and_false, and_true, or_self, or_false, false_or, or_true, true_or, cont_x, n_leF, c_1, d247 hS kd h12, h257])
      · rw [if_neg hsu]
        have ev : bI (sub A j && G j) = i32 0 := by
          have : sub A j = false := by simpa using hsu
          rw [this, Bool.false_and]; rfl
        simp only [ev] at h257
        (rw [k258_57]; simp (disch := first | assumption | omega) only [in258, k258_0, k258_1, k258_2, k258_5, k258_6, k258_7, k258_8, k258_9, k258_12, k258_15, k258_16, k258_19, k258_20, k258_21, k258_22, k258_25, k258_28, k258_29, k258_30, k258_31, k258_32, k258_33, k258_34, k258_35, k258_38, k258_40, k258_41, k258_42, k258_45, k258_48, k258_50, k258_51, k258_54, k258_55, k258_59, k258_60, k258_63, k258_66, k258_67, k258_69, k258_71, k258_74, k258_77, k258_80, k258_81, k258_84, k258_86, k258_89, k258_90, k258_91, k258_93, k258_95, k258_96, k258_98, k258_101, k258_104, k258_107, k258_108, k258_111, k258_112, k258_115, k258_116, k258_117, k258_120, k258_121, k258_124, k258_125, k258_128, k258_129, k258_132, k258_134, c_0, c_1, c_2, hS, t_71, f_71_9, f_71_10, f_71_11, f_71_12, f_71_13, f_71_14, f_71_15, f_71_16, f_71_17, f_71_20, f_71_21, f_71_22, f_71_23, f_71_24, f_71_25, f_71_26, f_71_28, f_71_29, f_71_30, f_71_31, f_71_32, f_71_40, f_71_41, t_72, l_72, t_73, l_73, t_74, l_74, t_75, l_75, t_76, l_76, t_77, l_77, t_84, l_84, t_91, l_91, t_104, l_104, t_117, l_117, t_278, l_278, t_439, l_439, t_446, l_446, t_453, l_453, t_454, l_454, t_455, l_455, t_536, l_536, t_537, l_537, t_538, l_538, t_539, l_539, t_556, l_556, t_560, l_560, t_561, l_561, f_77, t_78, l_78, f_84, t_85, l_85, f_91, t_92, l_92, f_104, t_105, l_105, f_117, t_118, l_118, f_278, t_279, l_279, f_439, t_440, l_440, f_446, t_447, l_447, f_455, t_456, l_456, f_539, t_540, l_540, f_556, t_557, l_557, w_t, w_l, rowX_s, rowX_n, rowX_f, rowX_2, up_s, up_n, Nat.zero_add, n_m1, i_dec, cat_n, cat_i, cat_r, cat_l, i_add, i_tn, i_vi, i_lt, i_eq, i_shl, n_ltT, n_ltF, n_eqT, n_eqF, n_leT, t_and, nb_0, nb_1, b2_0, b2_n, cont_v, cont_n, ex_eq, u_s, u_c, u_j, ↓reduceIte, ite_not, not_true_eq_false, not_false_eq_true, Bool.false_eq_true, Bool.true_eq_false, false_and, true_and, and_false, and_true, or_self, or_false, false_or, or_true, true_or, cont_x, n_leF, c_1, d247 hS kd h12, h257])
    · rw [← u1]
      have e8 : fiL (go (2 ^ nd)) = if s.1 = 0 then m1 else i32 s.2.1 := by
        unfold fiL
        rw [← u1]
        by_cases h0 : s.1 = 0
        · rw [if_pos h0, if_pos h0]
        · rw [if_neg h0, if_neg h0, (u2' (by omega)).1]
      rw [e8]
      have e9 : (if s.1 = 0 then i32 0 else i32 (go (2 ^ nd)).2.2) = if s.1 = 0 then i32 0 else i32 s.2.2 := by
        by_cases h0 : s.1 = 0
        · rw [if_pos h0, if_pos h0]
        · rw [if_neg h0, if_neg h0, (u2' (by omega)).2]
      rw [← e9]
      have hv3 : v = 0 ∨ v = 1 ∨ v = 2 := by omega
      rcases hv3 with rfl | rfl | rfl
      · (rw [k258_57]; simp (disch := first | assumption | omega) only [in258, k258_0, k258_1, k258_2, k258_5, k258_6, k258_7, k258_8, k258_9, k258_12, k258_15, k258_16, k258_19, k258_20, k258_21, k258_22, k258_25, k258_28, k258_29, k258_30, k258_31, k258_32, k258_33, k258_34, k258_35, k258_38, k258_40, k258_41, k258_42, k258_45, k258_48, k258_50, k258_51, k258_54, k258_55, k258_59, k258_60, k258_63, k258_66, k258_67, k258_69, k258_71, k258_74, k258_77, k258_80, k258_81, k258_84, k258_86, k258_89, k258_90, k258_91, k258_93, k258_95, k258_96, k258_98, k258_101, k258_104, k258_107, k258_108, k258_111, k258_112, k258_115, k258_116, k258_117, k258_120, k258_121, k258_124, k258_125, k258_128, k258_129, k258_132, k258_134, c_0, c_1, c_2, hS, t_71, f_71_9, f_71_10, f_71_11, f_71_12, f_71_13, f_71_14, f_71_15, f_71_16, f_71_17, f_71_20, f_71_21, f_71_22, f_71_23, f_71_24, f_71_25, f_71_26, f_71_28, f_71_29, f_71_30, f_71_31, f_71_32, f_71_40, f_71_41, t_72, l_72, t_73, l_73, t_74, l_74, t_75, l_75, t_76, l_76, t_77, l_77, t_84, l_84, t_91, l_91, t_104, l_104, t_117, l_117, t_278, l_278, t_439, l_439, t_446, l_446, t_453, l_453, t_454, l_454, t_455, l_455, t_536, l_536, t_537, l_537, t_538, l_538, t_539, l_539, t_556, l_556, t_560, l_560, t_561, l_561, f_77, t_78, l_78, f_84, t_85, l_85, f_91, t_92, l_92, f_104, t_105, l_105, f_117, t_118, l_118, f_278, t_279, l_279, f_439, t_440, l_440, f_446, t_447, l_447, f_455, t_456, l_456, f_539, t_540, l_540, f_556, t_557, l_557, w_t, w_l, rowX_s, rowX_n, rowX_f, rowX_2, up_s, up_n, Nat.zero_add, n_m1, i_dec, cat_n, cat_i, cat_r, cat_l, i_add, i_tn, i_vi, i_lt, i_eq, i_shl, n_ltT, n_ltF, n_eqT, n_eqF, n_leT, t_and, nb_0, nb_1, b2_0, b2_n, cont_v, cont_n, ex_eq, u_s, u_c, u_j, ↓reduceIte, ite_not, not_true_eq_false, not_false_eq_true, Bool.false_eq_true, Bool.true_eq_false, false_and, true_and, and_false, and_true, or_self, or_false, false_or, or_true, true_or, cont_x, n_leF, c_1, d247 hS kd h12])
      · (rw [k258_57]; simp (disch := first | assumption | omega) only [in258, k258_0, k258_1, k258_2, k258_5, k258_6, k258_7, k258_8, k258_9, k258_12, k258_15, k258_16, k258_19, k258_20, k258_21, k258_22, k258_25, k258_28, k258_29, k258_30, k258_31, k258_32, k258_33, k258_34, k258_35, k258_38, k258_40, k258_41, k258_42, k258_45, k258_48, k258_50, k258_51, k258_54, k258_55, k258_59, k258_60, k258_63, k258_66, k258_67, k258_69, k258_71, k258_74, k258_77, k258_80, k258_81, k258_84, k258_86, k258_89, k258_90, k258_91, k258_93, k258_95, k258_96, k258_98, k258_101, k258_104, k258_107, k258_108, k258_111, k258_112, k258_115, k258_116, k258_117, k258_120, k258_121, k258_124, k258_125, k258_128, k258_129, k258_132, k258_134, c_0, c_1, c_2, hS, t_71, f_71_9, f_71_10, f_71_11, f_71_12, f_71_13, f_71_14, f_71_15, f_71_16, f_71_17, f_71_20, f_71_21, f_71_22, f_71_23, f_71_24, f_71_25, f_71_26, f_71_28, f_71_29, f_71_30, f_71_31, f_71_32, f_71_40, f_71_41, t_72, l_72, t_73, l_73, t_74, l_74, t_75, l_75, t_76, l_76, t_77, l_77, t_84, l_84, t_91, l_91, t_104, l_104, t_117, l_117, t_278, l_278, t_439, l_439, t_446, l_446, t_453, l_453, t_454, l_454, t_455, l_455, t_536, l_536, t_537, l_537, t_538, l_538, t_539, l_539, t_556, l_556, t_560, l_560, t_561, l_561, f_77, t_78, l_78, f_84, t_85, l_85, f_91, t_92, l_92, f_104, t_105, l_105, f_117, t_118, l_118, f_278, t_279, l_279, f_439, t_440, l_440, f_446, t_447, l_447, f_455, t_456, l_456, f_539, t_540, l_540, f_556, t_557, l_557, w_t, w_l, rowX_s, rowX_n, rowX_f, rowX_2, up_s, up_n, Nat.zero_add, n_m1, i_dec, cat_n, cat_i, cat_r, cat_l, i_add, i_tn, i_vi, i_lt, i_eq, i_shl, n_ltT, n_ltF, n_eqT, n_eqF, n_leT, t_and, nb_0, nb_1, b2_0, b2_n, cont_v, cont_n, ex_eq, u_s, u_c, u_j, ↓reduceIte, ite_not, not_true_eq_false, not_false_eq_true, Bool.false_eq_true, Bool.true_eq_false, false_and, true_and, and_false, and_true, or_self, or_false, false_or, or_true, true_or, cont_x, n_leF, c_1, d247 hS kd h12])
      · by_cases h0 : s.1 = 0
        · (rw [k258_57]; simp (disch := first | assumption | omega) only [in258, k258_0, k258_1, k258_2, k258_5, k258_6, k258_7, k258_8, k258_9, k258_12, k258_15, k258_16, k258_19, k258_20, k258_21, k258_22, k258_25, k258_28, k258_29, k258_30, k258_31, k258_32, k258_33, k258_34, k258_35, k258_38, k258_40, k258_41, k258_42, k258_45, k258_48, k258_50, k258_51, k258_54, k258_55, k258_59, k258_60, k258_63, k258_66, k258_67, k258_69, k258_71, k258_74, k258_77, k258_80, k258_81, k258_84, k258_86, k258_89, k258_90, k258_91, k258_93, k258_95, k258_96, k258_98, k258_101, k258_104, k258_107, k258_108, k258_111, k258_112, k258_115, k258_116, k258_117, k258_120, k258_121, k258_124, k258_125, k258_128, k258_129, k258_132, k258_134, c_0, c_1, c_2, hS, t_71, f_71_9, f_71_10, f_71_11, f_71_12, f_71_13, f_71_14, f_71_15, f_71_16, f_71_17, f_71_20, f_71_21, f_71_22, f_71_23, f_71_24, f_71_25, f_71_26, f_71_28, f_71_29, f_71_30, f_71_31, f_71_32, f_71_40, f_71_41, t_72, l_72, t_73, l_73, t_74, l_74, t_75, l_75, t_76, l_76, t_77, l_77, t_84, l_84, t_91, l_91, t_104, l_104, t_117, l_117, t_278, l_278, t_439, l_439, t_446, l_446, t_453, l_453, t_454, l_454, t_455, l_455, t_536, l_536, t_537, l_537, t_538, l_538, t_539, l_539, t_556, l_556, t_560, l_560, t_561, l_561, f_77, t_78, l_78, f_84, t_85, l_85, f_91, t_92, l_92, f_104, t_105, l_105, f_117, t_118, l_118, f_278, t_279, l_279, f_439, t_440, l_440, f_446, t_447, l_447, f_455, t_456, l_456, f_539, t_540, l_540, f_556, t_557, l_557, w_t, w_l, rowX_s, rowX_n, rowX_f, rowX_2, up_s, up_n, Nat.zero_add, n_m1, i_dec, cat_n, cat_i, cat_r, cat_l, i_add, i_tn, i_vi, i_lt, i_eq, i_shl, n_ltT, n_ltF, n_eqT, n_eqF, n_leT, t_and, nb_0, nb_1, b2_0, b2_n, cont_v, cont_n, ex_eq, u_s, u_c, u_j, ↓reduceIte, ite_not, not_true_eq_false, not_false_eq_true, Bool.false_eq_true, Bool.true_eq_false, false_and, true_and, and_false, and_true, or_self, or_false, false_or, or_true, true_or, cont_x, n_leF, c_1, d247 hS kd h12, h0])
        · (rw [k258_57]; simp (disch := first | assumption | omega) only [in258, k258_0, k258_1, k258_2, k258_5, k258_6, k258_7, k258_8, k258_9, k258_12, k258_15, k258_16, k258_19, k258_20, k258_21, k258_22, k258_25, k258_28, k258_29, k258_30, k258_31, k258_32, k258_33, k258_34, k258_35, k258_38, k258_40, k258_41, k258_42, k258_45, k258_48, k258_50, k258_51, k258_54, k258_55, k258_59, k258_60, k258_63, k258_66, k258_67, k258_69, k258_71, k258_74, k258_77, k258_80, k258_81, k258_84, k258_86, k258_89, k258_90, k258_91, k258_93, k258_95, k258_96, k258_98, k258_101, k258_104, k258_107, k258_108, k258_111, k258_112, k258_115, k258_116, k258_117, k258_120, k258_121, k258_124, k258_125, k258_128, k258_129, k258_132, k258_134, c_0, c_1, c_2, hS, t_71, f_71_9, f_71_10, f_71_11, f_71_12, f_71_13, f_71_14, f_71_15, f_71_16, f_71_17, f_71_20, f_71_21, f_71_22, f_71_23, f_71_24, f_71_25, f_71_26, f_71_28, f_71_29, f_71_30, f_71_31, f_71_32, f_71_40, f_71_41, t_72, l_72, t_73, l_73, t_74, l_74, t_75, l_75, t_76, l_76, t_77, l_77, t_84, l_84, t_91, l_91, t_104, l_104, t_117, l_117, t_278, l_278, t_439, l_439, t_446, l_446, t_453, l_453, t_454, l_454, t_455, l_455, t_536, l_536, t_537, l_537, t_538, l_538, t_539, l_539, t_556, l_556, t_560, l_560, t_561, l_561, f_77, t_78, l_78, f_84, t_85, l_85, f_91, t_92, l_92, f_104, t_105, l_105, f_117, t_118, l_118, f_278, t_279, l_279, f_439, t_440, l_440, f_446, t_447, l_447, f_455, t_456, l_456, f_539, t_540, l_540, f_556, t_557, l_557, w_t, w_l, rowX_s, rowX_n, rowX_f, rowX_2, up_s, up_n, Nat.zero_add, n_m1, i_dec, cat_n, cat_i, cat_r, cat_l, i_add, i_tn, i_vi, i_lt, i_eq, i_shl, n_ltT, n_ltF, n_eqT, n_eqF, n_leT, t_and, nb_0, nb_1, b2_0, b2_n, cont_v, cont_n, ex_eq, u_s, u_c, u_j, ↓reduceIte, ite_not, not_true_eq_false, not_false_eq_true, Bool.false_eq_true, Bool.true_eq_false, false_and, true_and, and_false, and_true, or_self, or_false, false_or, or_true, true_or, cont_x, n_leF, c_1, d247 hS kd h12, h0])
