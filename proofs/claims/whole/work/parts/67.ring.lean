/-! QUESTIONS: rings of owing -/
theorem orB_test {n : Nat} {f : Nat → Nat} {j : Nat} : ((orB n f).testBit j = true) = ∃ k, k < n ∧ (f k).testBit j = true := by
  induction n with
  | zero => simp [orB]
  | succ n ih =>
    rw [orB, Nat.testBit_or, Bool.or_eq_true, ih]
    refine propext ⟨fun h => ?_, fun h => ?_⟩
    · rcases h with ⟨k, hk, h⟩ | h
      · exact ⟨k, by omega, h⟩
      · exact ⟨n, by omega, h⟩
    · obtain ⟨k, hk, h⟩ := h
      by_cases e : k = n
      · subst e; exact Or.inr h
      · exact Or.inl ⟨k, by omega, h⟩
/-- who owes whom -/
def Eg (nd : Nat) (db cr : Nat → Nat) (t : Nat → Bool) (a b : Nat) : Prop := ∃ k, k < nd ∧ t k = true ∧ db k = a ∧ cr k = b
theorem oby_test {nd : Nat} {db cr : Nat → Nat} {t : Nat → Bool} {x b : Nat} : ((oby nd db cr t x).testBit b = true) = ∃ a, x.testBit a = true ∧ Eg nd db cr t a b := by
  unfold oby
  rw [orB_test]
  refine propext ⟨fun h => ?_, fun h => ?_⟩
  · obtain ⟨k, hk, h⟩ := h
    by_cases hc : t k = true ∧ x.testBit (db k) = true
    · rw [if_pos hc, Nat.testBit_two_pow] at h
      exact ⟨db k, hc.2, k, hk, hc.1, rfl, by simpa using h⟩
    · rw [if_neg hc] at h; simp at h
  · obtain ⟨a, ha, k, hk, ht, rfl, rfl⟩ := h
    refine ⟨k, hk, ?_⟩
    rw [if_pos ⟨ht, ha⟩, Nat.testBit_two_pow]; simp
theorem cnt_sub {n : Nat} {p q : Nat → Bool} (h : ∀ k, k < n → p k = true → q k = true) : cntN n p ≤ cntN n q := by
  induction n with
  | zero => exact Nat.le_refl _
  | succ n ih =>
    have h1 := ih (fun k hk => h k (by omega))
    rw [cntN, cntN]
    by_cases e : p n = true
    · rw [if_pos e, if_pos (h n (by omega) e)]; omega
    · rw [if_neg e]; split <;> omega
theorem cnt_lt {n : Nat} {p q : Nat → Bool} (h : ∀ k, k < n → p k = true → q k = true) {j : Nat} (hj : j < n) (hp : ¬ p j = true) (hq : q j = true) : cntN n p < cntN n q := by
  induction n with
  | zero => omega
  | succ n ih =>
    rw [cntN, cntN]
    by_cases e : j = n
    · subst e
      have := cnt_sub (n := j) (p := p) (q := q) (fun k hk => h k (by omega))
      rw [if_neg hp, if_pos hq]; omega
    · have := ih (fun k hk => h k (by omega)) (by omega)
      by_cases e2 : p n = true
      · rw [if_pos e2, if_pos (h n (by omega) e2)]; omega
      · rw [if_neg e2]; split <;> omega
/-- what grows by a rule and can't grow for ever stands still -/
theorem grow_stop {nh : Nat} {T : Nat → Nat} (hlt : ∀ n b, (T n).testBit b = true → b < nh) (hm : ∀ n b, (T n).testBit b = true → (T (n + 1)).testBit b = true) (hs : ∀ n, (∀ b, (T (n + 1)).testBit b = true → (T n).testBit b = true) → ∀ b, (T (n + 2)).testBit b = true → (T (n + 1)).testBit b = true) (c : Nat) (hc : c ≤ cntN nh (fun b => (T 0).testBit b)) (m : Nat) (hM : ∀ n, n ≤ m → (cntN nh (fun b => (T n).testBit b)) < c + m) : ∀ n b, (T n).testBit b = true → (T m).testBit b = true := by
  have hmm : ∀ i j b, (T i).testBit b = true → (T (i + j)).testBit b = true := fun i j b h => by
    induction j with
    | zero => exact h
    | succ j ih => exact hm _ _ ih
  have key : ∃ i, i < m ∧ ∀ b, (T (i + 1)).testBit b = true → (T i).testBit b = true := by
    refine Classical.byContradiction fun hk => ?_
    have h1 : ∀ n, n ≤ m → c + n ≤ cntN nh (fun b => (T n).testBit b) := by
      intro n
      induction n with
      | zero => intro _; exact hc
      | succ n ih =>
        intro hn
        have h2 := ih (by omega)
        have h3 : ¬ ∀ b, (T (n + 1)).testBit b = true → (T n).testBit b = true := fun z => hk ⟨n, by omega, z⟩
        obtain ⟨b, h4⟩ := Classical.not_forall.mp h3
        obtain ⟨h5, h6⟩ := Classical.not_imp.mp h4
        have := cnt_lt (n := nh) (p := fun b => (T n).testBit b) (q := fun b => (T (n + 1)).testBit b) (fun k _ z => hm _ _ z) (hlt _ _ h5) h6 h5
        omega
    have := h1 m (Nat.le_refl _)
    have := hM m (Nat.le_refl _)
    omega
  obtain ⟨i, hi, h0⟩ := key
  have hst : ∀ j b, (T (i + j + 1)).testBit b = true → (T (i + j)).testBit b = true := by
    intro j
    induction j with
    | zero => exact h0
    | succ j ih => exact hs _ ih
  have hst2 : ∀ j b, (T (i + j)).testBit b = true → (T i).testBit b = true := by
    intro j
    induction j with
    | zero => intro b h; exact h
    | succ j ih => intro b h; exact ih b (hst j b h)
  intro n b h
  have h1 : (T i).testBit b = true := by
    by_cases e : i ≤ n
    · obtain ⟨j, rfl⟩ := Nat.exists_eq_add_of_le e
      exact hst2 j b h
    · obtain ⟨j, rfl⟩ := Nat.exists_eq_add_of_le (by omega : n ≤ i)
      exact hmm n j b h
  obtain ⟨j, rfl⟩ := Nat.exists_eq_add_of_le (by omega : i ≤ m)
  exact hmm i j b h1
/-- walks of n -/
def walkR (g : Nat → Nat) (x : Nat) : Nat → Nat
  | 0 => x
  | n + 1 => g (walkR g x n)
theorem walk_s {g : Nat → Nat} {x n : Nat} : walkR g (g x) n = walkR g x (n + 1) := by
  induction n with
  | zero => rfl
  | succ n ih => rw [walkR, ih]; rfl
theorem ring_no {g : Nat → Nat} {h : Nat} : ∀ {n l x : Nat}, (∀ i, 1 ≤ i → i ≤ n → ¬ (walkR g x i).testBit h = true) → ringF g h n l x = m1
  | 0, _, _, _ => rfl
  | n + 1, l, x, hn => by
    have h1 : ¬ (g x).testBit h = true := hn 1 (by omega) (by omega)
    rw [ringF, if_neg h1]
    refine ring_no fun i h1 h2 => ?_
    rw [walk_s]; exact hn (i + 1) (by omega) (by omega)
theorem ring_yes {g : Nat → Nat} {h : Nat} : ∀ {n n' l x i : Nat}, 1 ≤ i → i ≤ n → i ≤ n' → (walkR g x i).testBit h = true → ringF g h n l x = ringF g h n' l x
  | 0, _, _, _, _, h1, h2, _, _ => by omega
  | _ + 1, 0, _, _, _, h1, _, h3, _ => by omega
  | n + 1, n' + 1, l, x, i, h1, h2, h3, h4 => by
    rw [ringF, ringF]
    by_cases e : (g x).testBit h = true
    · rw [if_pos e, if_pos e]
    · rw [if_neg e, if_neg e]
      have h5 : 2 ≤ i := by
        by_cases z : i = 1
        · subst z; exact absurd h4 e
        · omega
      exact ring_yes (i := i - 1) (by omega) (by omega) (by omega) (by rw [walk_s, show i - 1 + 1 = i from by omega]; exact h4)
def unR (g : Nat → Nat) (x : Nat) : Nat → Nat
  | 0 => 0
  | n + 1 => unR g x n ||| walkR g x (n + 1)
theorem un_test {g : Nat → Nat} {x n b : Nat} : ((unR g x n).testBit b = true) = ∃ i, 1 ≤ i ∧ i ≤ n ∧ (walkR g x i).testBit b = true := by
  induction n with
  | zero => rw [unR, Nat.zero_testBit]; refine propext ⟨fun z => by simp at z, fun ⟨i, h1, h2, _⟩ => by omega⟩
  | succ n ih =>
    rw [unR, Nat.testBit_or, Bool.or_eq_true, ih]
    refine propext ⟨fun h => ?_, fun h => ?_⟩
    · rcases h with ⟨i, h1, h2, h3⟩ | h
      · exact ⟨i, h1, by omega, h3⟩
      · exact ⟨n + 1, by omega, Nat.le_refl _, h⟩
    · obtain ⟨i, h1, h2, h3⟩ := h
      by_cases e : i = n + 1
      · subst e; exact Or.inr h3
      · exact Or.inl ⟨i, h1, by omega, h3⟩
theorem ring_eq {nh nd h : Nat} {db cr : Nat → Nat} {t : Nat → Bool} (hc : ∀ k, k < nd → cr k < nh) (h6 : nh ≤ 6) (hh : h < nh) : ringF (oby nd db cr t) h 6 1 (2 ^ h) = ringF (oby nd db cr t) h nh 1 (2 ^ h) := by
  by_cases hy : (unR (oby nd db cr t) (2 ^ h) nh).testBit h = true
  · rw [un_test] at hy
    obtain ⟨i, h1, h2, h3⟩ := hy
    exact ring_yes h1 (by omega) h2 h3
  · have hn : ∀ i, 1 ≤ i → i ≤ nh → ¬ (walkR (oby nd db cr t) (2 ^ h) i).testBit h = true := fun i h1 h2 h3 => hy (by rw [un_test]; exact ⟨i, h1, h2, h3⟩)
    have hstop := grow_stop (nh := nh) (T := unR (oby nd db cr t) (2 ^ h)) (fun n b z => by
      rw [un_test] at z
      obtain ⟨i, h1, h2, h3⟩ := z
      obtain ⟨j, rfl⟩ := Nat.exists_eq_add_of_le h1
      rw [Nat.add_comm, walkR, oby_test] at h3
      obtain ⟨a, _, k, hk, _, _, rfl⟩ := h3
      exact hc k hk) (fun n b z => by
      rw [unR, Nat.testBit_or, z, Bool.true_or]) (fun n hs b z => by
      rw [un_test] at z ⊢
      obtain ⟨i, h1, h2, h3⟩ := z
      by_cases e : i = n + 2
      · subst e
        rw [walkR, oby_test] at h3
        obtain ⟨a, ha, he⟩ := h3
        have := hs a (by rw [un_test]; exact ⟨n + 1, by omega, Nat.le_refl _, ha⟩)
        rw [un_test] at this
        obtain ⟨j, j1, j2, j3⟩ := this
        exact ⟨j + 1, by omega, by omega, by rw [walkR, oby_test]; exact ⟨a, j3, he⟩⟩
      · exact ⟨i, h1, by omega, h3⟩) 0 (Nat.zero_le _) nh (fun n hn2 => by
      have h1 := cnt_lt (n := nh) (p := fun b => (unR (oby nd db cr t) (2 ^ h) n).testBit b) (q := fun _ => true) (fun _ _ _ => rfl) hh (fun z => by
        rw [un_test] at z
        obtain ⟨i, h1, h2, h3⟩ := z
        exact hn i h1 (by omega) h3) rfl
      have h2 := cnt_le (n := nh) (p := fun _ => true)
      omega)
    rw [ring_no (fun i h1 h2 h3 => ?_), ring_no hn]
    have := hstop i h (by rw [un_test]; exact ⟨i, h1, Nat.le_refl _, h3⟩)
    exact hy this
def tanR (g : Nat → Nat) (x : Nat) : Nat → Nat
  | 0 => x
  | n + 1 => tanR g x n ||| g (tanR g x n)
theorem tan_s {g : Nat → Nat} {x n : Nat} : tanR g (x ||| g x) n = tanR g x (n + 1) := by
  induction n with
  | zero => rfl
  | succ n ih => rw [tanR, ih]; rfl
theorem tan_R {g : Nat → Nat} : ∀ {n x : Nat}, tanF g n x = tanR g x n
  | 0, _ => rfl
  | n + 1, x => by rw [tanF, tan_R, tan_s]
theorem tan_eq {nh nd h : Nat} {db cr : Nat → Nat} {t : Nat → Bool} (hc : ∀ k, k < nd → cr k < nh) (h6 : nh ≤ 6) (hh : h < nh) : tanF (oby nd db cr t) 6 (2 ^ h) = tanF (oby nd db cr t) nh (2 ^ h) := by
  rw [tan_R, tan_R]
  have hm : ∀ n b, (tanR (oby nd db cr t) (2 ^ h) n).testBit b = true → (tanR (oby nd db cr t) (2 ^ h) (n + 1)).testBit b = true := fun n b z => by
    rw [tanR, Nat.testBit_or, z, Bool.true_or]
  have hlt : ∀ n b, (tanR (oby nd db cr t) (2 ^ h) n).testBit b = true → b < nh := by
    intro n
    induction n with
    | zero => intro b z; rw [tanR, Nat.testBit_two_pow] at z; have : h = b := by simpa using z
              omega
    | succ n ih =>
      intro b z
      rw [tanR, Nat.testBit_or, Bool.or_eq_true, oby_test] at z
      rcases z with z | ⟨a, _, k, hk, _, _, rfl⟩
      · exact ih b z
      · exact hc k hk
  have hstop := grow_stop (nh := nh) (T := tanR (oby nd db cr t) (2 ^ h)) hlt hm (fun n hs b z => by
    rw [tanR, Nat.testBit_or, Bool.or_eq_true, oby_test] at z
    rcases z with z | ⟨a, ha, he⟩
    · exact z
    · rw [tanR, Nat.testBit_or, Bool.or_eq_true, oby_test]
      exact Or.inr ⟨a, hs a ha, he⟩) 1 (by
    have := cnt_lt (n := nh) (p := fun _ => false) (q := fun b => (tanR (oby nd db cr t) (2 ^ h) 0).testBit b) (fun _ _ z => by simp at z) hh (by simp) (by simp [tanR, Nat.testBit_two_pow])
    omega) nh (fun n _ => by
    have h2 := cnt_le (n := nh) (p := fun b => (tanR (oby nd db cr t) (2 ^ h) n).testBit b)
    omega)
  have hmm : ∀ i j b, (tanR (oby nd db cr t) (2 ^ h) i).testBit b = true → (tanR (oby nd db cr t) (2 ^ h) (i + j)).testBit b = true := fun i j b z => by
    induction j with
    | zero => exact z
    | succ j ih => exact hm _ _ ih
  apply Nat.eq_of_testBit_eq
  intro b
  have e1 : (tanR (oby nd db cr t) (2 ^ h) 6).testBit b = true → (tanR (oby nd db cr t) (2 ^ h) nh).testBit b = true := hstop 6 b
  have e2 : (tanR (oby nd db cr t) (2 ^ h) nh).testBit b = true → (tanR (oby nd db cr t) (2 ^ h) 6).testBit b = true := fun z => by
    have := hmm nh (6 - nh) b z
    rwa [show nh + (6 - nh) = 6 from by omega] at this
  cases z1 : (tanR (oby nd db cr t) (2 ^ h) 6).testBit b <;> cases z2 : (tanR (oby nd db cr t) (2 ^ h) nh).testBit b <;> simp_all
theorem d250 {d n : Nat} {I : VI} {L : VL} {S : SW} {r : Res} (hS : S.1 = W0 n) {nh nd : Nat} (hh : I 75 0 = i32 nh) (hd : I 75 1 = i32 nd) (h6 : nh ≤ 6) (h12 : nd ≤ 12) {x : Nat} {db cr : Nat → Nat} (hx : x < 2147483648) (hb : ∀ k, k < nd → I (105 + k) 0 = i32 (db k) ∧ db k < nh) (hc : ∀ k, k < nd → I (105 + k) 1 = i32 (cr k) ∧ cr k < nh) : EvD (d + 2) 250 [.ref 71, .int (i32 x)] I L S r ↔ r = (.inl (some (.int (i32 (oby nd db cr (thr nd (I 536)) x)))), I, L, S) := by
  simp (disch := first | assumption | omega) only [in250, k250_0, k250_1, k250_2, k250_3, k250_5, k250_6, k250_9, k250_10, k250_11, k250_14, k250_15, k250_16, k250_19, k250_20, k250_23, k250_26, k250_27, k250_28, k250_31, k250_32, k250_33, k250_34, k250_35, k250_38, k250_41, k250_42, k250_43, k250_46, k250_47, k250_48, k250_49, k250_50, k250_51, k250_54, k250_55, k250_56, k250_57, k250_60, k250_63, k250_64, c_0, c_1, c_31, hS, t_71, f_71_9, f_71_10, f_71_11, f_71_12, f_71_13, f_71_14, f_71_15, f_71_16, f_71_17, f_71_20, f_71_21, f_71_22, f_71_23, f_71_24, f_71_25, f_71_26, f_71_28, f_71_29, f_71_30, f_71_31, f_71_32, f_71_40, f_71_41, t_72, l_72, t_73, l_73, t_74, l_74, t_75, l_75, t_76, l_76, t_77, l_77, t_84, l_84, t_91, l_91, t_104, l_104, t_117, l_117, t_278, l_278, t_439, l_439, t_446, l_446, t_453, l_453, t_454, l_454, t_455, l_455, t_536, l_536, t_537, l_537, t_538, l_538, t_539, l_539, t_556, l_556, t_560, l_560, t_561, l_561, f_77, t_78, l_78, f_84, t_85, l_85, f_91, t_92, l_92, f_104, t_105, l_105, f_117, t_118, l_118, f_278, t_279, l_279, f_439, t_440, l_440, f_446, t_447, l_447, f_455, t_456, l_456, f_539, t_540, l_540, f_556, t_557, l_557, w_t, w_l, rowX_s, rowX_n, rowX_f, rowX_2, up_s, up_n, Nat.zero_add, n_m1, i_dec, cat_n, cat_i, cat_r, cat_l, i_add, i_tn, i_vi, i_lt, i_eq, i_shl, n_ltT, n_ltF, n_eqT, n_eqF, n_leT, t_and, nb_0, nb_1, b2_0, b2_n, cont_v, cont_n, ex_eq, u_s, u_c, u_j, ↓reduceIte, ite_not, not_true_eq_false, not_false_eq_true, Bool.false_eq_true, Bool.true_eq_false, false_and, true_and, and_false, and_true, or_self, or_false, false_or, or_true, true_or, cont_x, n_leF, c_1]
  unfold oby
  refine Iff.trans (up_to (P := fun j => Ev (d + 1) 250 4 [.ref 71, .int (i32 x), .int (i32 (orB j (fun k => if thr nd (I 536) k = true ∧ x.testBit (db k) = true then 2 ^ cr k else 0))), .int (i32 j)] [] I L S r) (n := nd) (fun j hj => ?_) 0 (Nat.zero_le _)) ?_
  · obtain ⟨b1, b2'⟩ := hb j hj
    obtain ⟨c1, c2'⟩ := hc j hj
    by_cases ht : thr nd (I 536) j = true
    · by_cases hx2 : x.testBit (db j) = true
      · (rw [k250_4]; simp (disch := first | assumption | omega) only [in250, k250_0, k250_1, k250_2, k250_3, k250_5, k250_6, k250_9, k250_10, k250_11, k250_14, k250_15, k250_16, k250_19, k250_20, k250_23, k250_26, k250_27, k250_28, k250_31, k250_32, k250_33, k250_34, k250_35, k250_38, k250_41, k250_42, k250_43, k250_46, k250_47, k250_48, k250_49, k250_50, k250_51, k250_54, k250_55, k250_56, k250_57, k250_60, k250_63, k250_64, c_0, c_1, c_31, hS, t_71, f_71_9, f_71_10, f_71_11, f_71_12, f_71_13, f_71_14, f_71_15, f_71_16, f_71_17, f_71_20, f_71_21, f_71_22, f_71_23, f_71_24, f_71_25, f_71_26, f_71_28, f_71_29, f_71_30, f_71_31, f_71_32, f_71_40, f_71_41, t_72, l_72, t_73, l_73, t_74, l_74, t_75, l_75, t_76, l_76, t_77, l_77, t_84, l_84, t_91, l_91, t_104, l_104, t_117, l_117, t_278, l_278, t_439, l_439, t_446, l_446, t_453, l_453, t_454, l_454, t_455, l_455, t_536, l_536, t_537, l_537, t_538, l_538, t_539, l_539, t_556, l_556, t_560, l_560, t_561, l_561, f_77, t_78, l_78, f_84, t_85, l_85, f_91, t_92, l_92, f_104, t_105, l_105, f_117, t_118, l_118, f_278, t_279, l_279, f_439, t_440, l_440, f_446, t_447, l_447, f_455, t_456, l_456, f_539, t_540, l_540, f_556, t_557, l_557, w_t, w_l, rowX_s, rowX_n, rowX_f, rowX_2, up_s, up_n, Nat.zero_add, n_m1, i_dec, cat_n, cat_i, cat_r, cat_l, i_add, i_tn, i_vi, i_lt, i_eq, i_shl, n_ltT, n_ltF, n_eqT, n_eqF, n_leT, t_and, nb_0, nb_1, b2_0, b2_n, cont_v, cont_n, ex_eq, u_s, u_c, u_j, ↓reduceIte, ite_not, not_true_eq_false, not_false_eq_true, Bool.false_eq_true, Bool.true_eq_false, false_and, true_and, and_false, and_true, or_self, or_false, false_or, or_true, true_or, cont_x, n_leF, c_1, d212 hS (Or.inl rfl) h12, d173 hS, hd, b1, c1, ht, hx2, orB, i_or, b2])
      · (rw [k250_4]; simp (disch := first | assumption | omega) only [in250, k250_0, k250_1, k250_2, k250_3, k250_5, k250_6, k250_9, k250_10, k250_11, k250_14, k250_15, k250_16, k250_19, k250_20, k250_23, k250_26, k250_27, k250_28, k250_31, k250_32, k250_33, k250_34, k250_35, k250_38, k250_41, k250_42, k250_43, k250_46, k250_47, k250_48, k250_49, k250_50, k250_51, k250_54, k250_55, k250_56, k250_57, k250_60, k250_63, k250_64, c_0, c_1, c_31, hS, t_71, f_71_9, f_71_10, f_71_11, f_71_12, f_71_13, f_71_14, f_71_15, f_71_16, f_71_17, f_71_20, f_71_21, f_71_22, f_71_23, f_71_24, f_71_25, f_71_26, f_71_28, f_71_29, f_71_30, f_71_31, f_71_32, f_71_40, f_71_41, t_72, l_72, t_73, l_73, t_74, l_74, t_75, l_75, t_76, l_76, t_77, l_77, t_84, l_84, t_91, l_91, t_104, l_104, t_117, l_117, t_278, l_278, t_439, l_439, t_446, l_446, t_453, l_453, t_454, l_454, t_455, l_455, t_536, l_536, t_537, l_537, t_538, l_538, t_539, l_539, t_556, l_556, t_560, l_560, t_561, l_561, f_77, t_78, l_78, f_84, t_85, l_85, f_91, t_92, l_92, f_104, t_105, l_105, f_117, t_118, l_118, f_278, t_279, l_279, f_439, t_440, l_440, f_446, t_447, l_447, f_455, t_456, l_456, f_539, t_540, l_540, f_556, t_557, l_557, w_t, w_l, rowX_s, rowX_n, rowX_f, rowX_2, up_s, up_n, Nat.zero_add, n_m1, i_dec, cat_n, cat_i, cat_r, cat_l, i_add, i_tn, i_vi, i_lt, i_eq, i_shl, n_ltT, n_ltF, n_eqT, n_eqF, n_leT, t_and, nb_0, nb_1, b2_0, b2_n, cont_v, cont_n, ex_eq, u_s, u_c, u_j, ↓reduceIte, ite_not, not_true_eq_false, not_false_eq_true, Bool.false_eq_true, Bool.true_eq_false, false_and, true_and, and_false, and_true, or_self, or_false, false_or, or_true, true_or, cont_x, n_leF, c_1, d212 hS (Or.inl rfl) h12, d173 hS, hd, b1, c1, ht, hx2, orB, i_or, b2])
    · (rw [k250_4]; simp (disch := first | assumption | omega) only [in250, k250_0, k250_1, k250_2, k250_3, k250_5, k250_6, k250_9, k250_10, k250_11, k250_14, k250_15, k250_16, k250_19, k250_20, k250_23, k250_26, k250_27, k250_28, k250_31, k250_32, k250_33, k250_34, k250_35, k250_38, k250_41, k250_42, k250_43, k250_46, k250_47, k250_48, k250_49, k250_50, k250_51, k250_54, k250_55, k250_56, k250_57, k250_60, k250_63, k250_64, c_0, c_1, c_31, hS, t_71, f_71_9, f_71_10, f_71_11, f_71_12, f_71_13, f_71_14, f_71_15, f_71_16, f_71_17, f_71_20, f_71_21, f_71_22, f_71_23, f_71_24, f_71_25, f_71_26, f_71_28, f_71_29, f_71_30, f_71_31, f_71_32, f_71_40, f_71_41, t_72, l_72, t_73, l_73, t_74, l_74, t_75, l_75, t_76, l_76, t_77, l_77, t_84, l_84, t_91, l_91, t_104, l_104, t_117, l_117, t_278, l_278, t_439, l_439, t_446, l_446, t_453, l_453, t_454, l_454, t_455, l_455, t_536, l_536, t_537, l_537, t_538, l_538, t_539, l_539, t_556, l_556, t_560, l_560, t_561, l_561, f_77, t_78, l_78, f_84, t_85, l_85, f_91, t_92, l_92, f_104, t_105, l_105, f_117, t_118, l_118, f_278, t_279, l_279, f_439, t_440, l_440, f_446, t_447, l_447, f_455, t_456, l_456, f_539, t_540, l_540, f_556, t_557, l_557, w_t, w_l, rowX_s, rowX_n, rowX_f, rowX_2, up_s, up_n, Nat.zero_add, n_m1, i_dec, cat_n, cat_i, cat_r, cat_l, i_add, i_tn, i_vi, i_lt, i_eq, i_shl, n_ltT, n_ltF, n_eqT, n_eqF, n_leT, t_and, nb_0, nb_1, b2_0, b2_n, cont_v, cont_n, ex_eq, u_s, u_c, u_j, ↓reduceIte, ite_not, not_true_eq_false, not_false_eq_true, Bool.false_eq_true, Bool.true_eq_false, false_and, true_and, and_false, and_true, or_self, or_false, false_or, or_true, true_or, cont_x, n_leF, c_1, d212 hS (Or.inl rfl) h12, hd, ht, orB, i_or, b2])
  · (rw [k250_4]; simp (disch := first | assumption | omega) only [in250, k250_0, k250_1, k250_2, k250_3, k250_5, k250_6, k250_9, k250_10, k250_11, k250_14, k250_15, k250_16, k250_19, k250_20, k250_23, k250_26, k250_27, k250_28, k250_31, k250_32, k250_33, k250_34, k250_35, k250_38, k250_41, k250_42, k250_43, k250_46, k250_47, k250_48, k250_49, k250_50, k250_51, k250_54, k250_55, k250_56, k250_57, k250_60, k250_63, k250_64, c_0, c_1, c_31, hS, t_71, f_71_9, f_71_10, f_71_11, f_71_12, f_71_13, f_71_14, f_71_15, f_71_16, f_71_17, f_71_20, f_71_21, f_71_22, f_71_23, f_71_24, f_71_25, f_71_26, f_71_28, f_71_29, f_71_30, f_71_31, f_71_32, f_71_40, f_71_41, t_72, l_72, t_73, l_73, t_74, l_74, t_75, l_75, t_76, l_76, t_77, l_77, t_84, l_84, t_91, l_91, t_104, l_104, t_117, l_117, t_278, l_278, t_439, l_439, t_446, l_446, t_453, l_453, t_454, l_454, t_455, l_455, t_536, l_536, t_537, l_537, t_538, l_538, t_539, l_539, t_556, l_556, t_560, l_560, t_561, l_561, f_77, t_78, l_78, f_84, t_85, l_85, f_91, t_92, l_92, f_104, t_105, l_105, f_117, t_118, l_118, f_278, t_279, l_279, f_439, t_440, l_440, f_446, t_447, l_447, f_455, t_456, l_456, f_539, t_540, l_540, f_556, t_557, l_557, w_t, w_l, rowX_s, rowX_n, rowX_f, rowX_2, up_s, up_n, Nat.zero_add, n_m1, i_dec, cat_n, cat_i, cat_r, cat_l, i_add, i_tn, i_vi, i_lt, i_eq, i_shl, n_ltT, n_ltF, n_eqT, n_eqF, n_leT, t_and, nb_0, nb_1, b2_0, b2_n, cont_v, cont_n, ex_eq, u_s, u_c, u_j, ↓reduceIte, ite_not, not_true_eq_false, not_false_eq_true, Bool.false_eq_true, Bool.true_eq_false, false_and, true_and, and_false, and_true, or_self, or_false, false_or, or_true, true_or, cont_x, n_leF, c_1, hd])
theorem oby_congr {nd : Nat} {db cr : Nat → Nat} {t t' : Nat → Bool} (h : t = t') : oby nd db cr t = oby nd db cr t' := by rw [h]
theorem pr_ring {n d : Nat} {a : Int32} : Pair n (d + 8) 136 251 [.int a] [(1, 1)] := by
  intro I L S hS hI0
  obtain ⟨nh, nd, db, cr, q, sz, lw, nL, bh, bv, nw, ni, nf, hI⟩ := id hI0
  obtain ⟨⟨⟨hh, hd, mh, md⟩, ⟨h6, h12⟩, hho, hde⟩, ⟨hq, hqm, hlw⟩, hR, hB, hW, hIm, hRf, hTp, hZ⟩ := id hI
  have hT := hR.1.2.2
  have hb : ∀ k, k < nd → I 23 k = i32 (db k) ∧ db k < nh := fun k hk => (hde k hk).1
  have hc : ∀ k, k < nd → I 24 k = i32 (cr k) ∧ cr k < nh := fun k hk => (hde k hk).2.1
  have th0 : ∀ x y j, u2 (u2 I 16 j x) 71 0 y 75 0 = i32 nh := fun x y j => by rw [u_c (by omega), u_c (by omega)]; exact mh
  have td0 : ∀ x y j, u2 (u2 I 16 j x) 71 0 y 75 1 = i32 nd := fun x y j => by rw [u_c (by omega), u_c (by omega)]; exact md
  have tz : ∀ x j, u2 (u2 I 16 j x) 71 0 (i32 0) 71 0 = i32 0 := fun x j => u_s
  by_cases hA : a < i32 0 ∨ ¬ a < i32 nh
  · refine pthr (j := 0) (w := 1) (v := .int (i32 0)) hI0 (by omega) (by simp) (fun r => ?_) (fun L S hS r => ?_)
    · simp (disch := first | assumption | omega) only [in136, k136_0, k136_1, k136_2, k136_5, k136_6, k136_9, k136_10, k136_13, hS, t_16, f_16_0, f_16_1, f_16_2, f_16_3, f_16_4, f_16_5, f_16_6, f_16_7, f_16_8, f_16_9, f_16_10, f_16_11, f_16_12, f_16_13, t_17, f_17_0, t_18, l_18, t_19, f_19_0, f_19_1, f_19_2, f_19_3, f_19_4, f_19_5, f_19_6, t_20, l_20, t_21, l_21, t_22, l_22, t_23, l_23, t_24, l_24, t_25, l_25, t_26, l_26, t_27, f_27_0, f_27_1, f_27_2, f_27_3, f_27_4, f_27_5, f_27_6, t_28, l_28, t_29, l_29, t_30, l_30, t_31, l_31, t_32, l_32, t_33, l_33, t_34, l_34, t_35, f_35_0, f_35_1, t_36, l_36, t_37, l_37, t_38, f_38_0, f_38_1, t_39, l_39, t_40, l_40, t_41, f_41_0, t_42, l_42, t_43, f_43_0, t_44, l_44, t_45, f_45_0, f_45_1, f_45_2, f_45_3, t_46, l_46, t_47, l_47, t_48, l_48, t_49, l_49, t_50, l_50, t_51, f_51_0, f_51_1, f_51_2, f_51_3, t_52, l_52, t_53, l_53, t_54, f_54_0, f_54_1, f_54_2, f_54_3, t_55, l_55, t_56, l_56, t_57, f_57_0, f_57_1, f_57_2, f_57_3, t_58, l_58, t_59, l_59, t_60, l_60, t_61, f_61_0, f_61_1, f_61_2, f_61_3, f_61_4, f_61_5, f_61_6, t_62, l_62, t_63, f_63_0, f_63_1, t_64, l_64, t_65, l_65, t_66, f_66_0, f_66_1, t_67, l_67, t_68, l_68, t_69, l_69, t_70, f_70_0, f_70_1, t_1, l_1, t_2, l_2, m_t, m_f0, m_f1, m_f2, m_f3, m_t1, m_l1, m_t2, m_l2, rowX_s, rowX_n, rowX_f, rowX_2, up_s, up_n, Nat.zero_add, n_m1, i_dec, cat_n, cat_i, cat_r, cat_l, i_add, i_tn, i_vi, i_lt, i_eq, i_shl, n_ltT, n_ltF, n_eqT, n_eqF, n_leT, t_and, nb_0, nb_1, b2_0, b2_n, cont_v, cont_n, ex_eq, u_s, u_c, u_j, ↓reduceIte, ite_not, not_true_eq_false, not_false_eq_true, Bool.false_eq_true, Bool.true_eq_false, false_and, true_and, and_false, and_true, or_self, or_false, false_or, or_true, true_or, cont_x, n_leF, c_1, c160 hS, hh, hA, Nat.reduceAdd, Nat.reduceSub]
    · have hr2 := rngX hA
      simp (disch := first | assumption | omega) only [in251, k251_0, k251_1, k251_2, k251_5, k251_6, k251_7, k251_8, k251_11, k251_14, k251_15, k251_18, k251_19, k251_20, k251_21, k251_24, k251_27, k251_28, k251_29, k251_30, k251_31, k251_32, k251_33, k251_36, k251_37, k251_38, k251_40, k251_41, k251_44, k251_45, k251_46, k251_49, k251_50, k251_51, k251_54, k251_57, k251_58, k251_59, k251_60, k251_61, k251_64, k251_65, k251_68, k251_71, k251_72, c_0, c_1, c_31, hS, t_71, f_71_9, f_71_10, f_71_11, f_71_12, f_71_13, f_71_14, f_71_15, f_71_16, f_71_17, f_71_20, f_71_21, f_71_22, f_71_23, f_71_24, f_71_25, f_71_26, f_71_28, f_71_29, f_71_30, f_71_31, f_71_32, f_71_40, f_71_41, t_72, l_72, t_73, l_73, t_74, l_74, t_75, l_75, t_76, l_76, t_77, l_77, t_84, l_84, t_91, l_91, t_104, l_104, t_117, l_117, t_278, l_278, t_439, l_439, t_446, l_446, t_453, l_453, t_454, l_454, t_455, l_455, t_536, l_536, t_537, l_537, t_538, l_538, t_539, l_539, t_556, l_556, t_560, l_560, t_561, l_561, f_77, t_78, l_78, f_84, t_85, l_85, f_91, t_92, l_92, f_104, t_105, l_105, f_117, t_118, l_118, f_278, t_279, l_279, f_439, t_440, l_440, f_446, t_447, l_447, f_455, t_456, l_456, f_539, t_540, l_540, f_556, t_557, l_557, w_t, w_l, rowX_s, rowX_n, rowX_f, rowX_2, up_s, up_n, Nat.zero_add, n_m1, i_dec, cat_n, cat_i, cat_r, cat_l, i_add, i_tn, i_vi, i_lt, i_eq, i_shl, n_ltT, n_ltF, n_eqT, n_eqF, n_leT, t_and, nb_0, nb_1, b2_0, b2_n, cont_v, cont_n, ex_eq, u_s, u_c, u_j, ↓reduceIte, ite_not, not_true_eq_false, not_false_eq_true, Bool.false_eq_true, Bool.true_eq_false, false_and, true_and, and_false, and_true, or_self, or_false, false_or, or_true, true_or, cont_x, n_leF, c_1, d235 hS (th0 _ _ _) (td0 _ _ _) h6 h12, hr2, d169t hS (tz _ _), Nat.reduceAdd]
  obtain ⟨h, hlt, rfl⟩ := rngH (by omega) hA
  clear hA
  obtain ⟨J, hJ⟩ : ∃ J, u2 I 71 0 (i32 0) = J := ⟨_, rfl⟩
  have hJ0 : J 71 0 = i32 0 := by rw [← hJ]; exact u_s
  have aJ : ag I J := by rw [← hJ]; exact ag_u (by unfold scr; omega)
  have hIJ := invP_ag aJ hI
  obtain ⟨⟨⟨_, _, jh, jd⟩, _, jho, jde⟩, ⟨_, jq, _⟩, _, jB, _, _, _, _, _⟩ := id hIJ
  have jr : J 536 = I 536 := (ag_f aJ 536 (by unfold scr; omega))
  have jb : ∀ k, k < nd → J (105 + k) 0 = i32 (db k) ∧ db k < nh := fun k hk => ⟨(jde k hk).2.2.1, (jde k hk).1.2⟩
  have jc : ∀ k, k < nd → J (105 + k) 1 = i32 (cr k) ∧ cr k < nh := fun k hk => ⟨(jde k hk).2.2.2.1, (jde k hk).2.1.2⟩
  have hc2 : ∀ k, k < nd → cr k < nh := fun k hk => (hc k hk).2
  refine pok hI0 (I1 := I) (I2 := J) ag_refl aJ hJ0 (v := .int (ringF (oby nd db cr (thr nd (I 536))) h nh 1 (2 ^ h))) (fun r => ?_) (fun L S hS r => ?_)
  · simp (disch := first | assumption | omega) only [in136, k136_0, k136_1, k136_2, k136_5, k136_6, k136_9, k136_10, k136_13, hS, t_16, f_16_0, f_16_1, f_16_2, f_16_3, f_16_4, f_16_5, f_16_6, f_16_7, f_16_8, f_16_9, f_16_10, f_16_11, f_16_12, f_16_13, t_17, f_17_0, t_18, l_18, t_19, f_19_0, f_19_1, f_19_2, f_19_3, f_19_4, f_19_5, f_19_6, t_20, l_20, t_21, l_21, t_22, l_22, t_23, l_23, t_24, l_24, t_25, l_25, t_26, l_26, t_27, f_27_0, f_27_1, f_27_2, f_27_3, f_27_4, f_27_5, f_27_6, t_28, l_28, t_29, l_29, t_30, l_30, t_31, l_31, t_32, l_32, t_33, l_33, t_34, l_34, t_35, f_35_0, f_35_1, t_36, l_36, t_37, l_37, t_38, f_38_0, f_38_1, t_39, l_39, t_40, l_40, t_41, f_41_0, t_42, l_42, t_43, f_43_0, t_44, l_44, t_45, f_45_0, f_45_1, f_45_2, f_45_3, t_46, l_46, t_47, l_47, t_48, l_48, t_49, l_49, t_50, l_50, t_51, f_51_0, f_51_1, f_51_2, f_51_3, t_52, l_52, t_53, l_53, t_54, f_54_0, f_54_1, f_54_2, f_54_3, t_55, l_55, t_56, l_56, t_57, f_57_0, f_57_1, f_57_2, f_57_3, t_58, l_58, t_59, l_59, t_60, l_60, t_61, f_61_0, f_61_1, f_61_2, f_61_3, f_61_4, f_61_5, f_61_6, t_62, l_62, t_63, f_63_0, f_63_1, t_64, l_64, t_65, l_65, t_66, f_66_0, f_66_1, t_67, l_67, t_68, l_68, t_69, l_69, t_70, f_70_0, f_70_1, t_1, l_1, t_2, l_2, m_t, m_f0, m_f1, m_f2, m_f3, m_t1, m_l1, m_t2, m_l2, rowX_s, rowX_n, rowX_f, rowX_2, up_s, up_n, Nat.zero_add, n_m1, i_dec, cat_n, cat_i, cat_r, cat_l, i_add, i_tn, i_vi, i_lt, i_eq, i_shl, n_ltT, n_ltF, n_eqT, n_eqF, n_leT, t_and, nb_0, nb_1, b2_0, b2_n, cont_v, cont_n, ex_eq, u_s, u_c, u_j, ↓reduceIte, ite_not, not_true_eq_false, not_false_eq_true, Bool.false_eq_true, Bool.true_eq_false, false_and, true_and, and_false, and_true, or_self, or_false, false_or, or_true, true_or, cont_x, n_leF, c_1, c160 hS, hh, n54 hS hh hd h6 h12 hT hlt hb hc, rw_thr hR, ring_eq hc2 h6 hlt]
  · have key : ∀ k l x, k + l = nh + 1 → x < 2147483648 → (Ev (d + 7) 251 39 [.ref 71, .int (i32 h), .int (i32 (oby nd db cr (thr nd (I 536)) x)), .int (i32 l)] [] J L S r ↔ r = (.inl (some (.int (ringF (oby nd db cr (thr nd (I 536))) h k l x))), J, L, S)) := by
      intro k
      induction k with
      | zero =>
        intro l x hl hx
        (rw [k251_39]; simp (disch := first | assumption | omega) only [in251, k251_0, k251_1, k251_2, k251_5, k251_6, k251_7, k251_8, k251_11, k251_14, k251_15, k251_18, k251_19, k251_20, k251_21, k251_24, k251_27, k251_28, k251_29, k251_30, k251_31, k251_32, k251_33, k251_36, k251_37, k251_38, k251_40, k251_41, k251_44, k251_45, k251_46, k251_49, k251_50, k251_51, k251_54, k251_57, k251_58, k251_59, k251_60, k251_61, k251_64, k251_65, k251_68, k251_71, k251_72, c_0, c_1, c_31, hS, t_71, f_71_9, f_71_10, f_71_11, f_71_12, f_71_13, f_71_14, f_71_15, f_71_16, f_71_17, f_71_20, f_71_21, f_71_22, f_71_23, f_71_24, f_71_25, f_71_26, f_71_28, f_71_29, f_71_30, f_71_31, f_71_32, f_71_40, f_71_41, t_72, l_72, t_73, l_73, t_74, l_74, t_75, l_75, t_76, l_76, t_77, l_77, t_84, l_84, t_91, l_91, t_104, l_104, t_117, l_117, t_278, l_278, t_439, l_439, t_446, l_446, t_453, l_453, t_454, l_454, t_455, l_455, t_536, l_536, t_537, l_537, t_538, l_538, t_539, l_539, t_556, l_556, t_560, l_560, t_561, l_561, f_77, t_78, l_78, f_84, t_85, l_85, f_91, t_92, l_92, f_104, t_105, l_105, f_117, t_118, l_118, f_278, t_279, l_279, f_439, t_440, l_440, f_446, t_447, l_447, f_455, t_456, l_456, f_539, t_540, l_540, f_556, t_557, l_557, w_t, w_l, rowX_s, rowX_n, rowX_f, rowX_2, up_s, up_n, Nat.zero_add, n_m1, i_dec, cat_n, cat_i, cat_r, cat_l, i_add, i_tn, i_vi, i_lt, i_eq, i_shl, n_ltT, n_ltF, n_eqT, n_eqF, n_leT, t_and, nb_0, nb_1, b2_0, b2_n, cont_v, cont_n, ex_eq, u_s, u_c, u_j, ↓reduceIte, ite_not, not_true_eq_false, not_false_eq_true, Bool.false_eq_true, Bool.true_eq_false, false_and, true_and, and_false, and_true, or_self, or_false, false_or, or_true, true_or, cont_x, n_leF, c_1, jh, ringF])
      | succ k ih =>
        intro l x hl hx
        have hg := oby_31 (db := db) (t := thr nd (I 536)) (x := x) h6 hc2
        have ih2 := ih (l + 1) (oby nd db cr (thr nd (I 536)) x) (by omega) hg
        by_cases ht : (oby nd db cr (thr nd (I 536)) x).testBit h = true
        · (rw [k251_39]; simp (disch := first | assumption | omega) only [in251, k251_0, k251_1, k251_2, k251_5, k251_6, k251_7, k251_8, k251_11, k251_14, k251_15, k251_18, k251_19, k251_20, k251_21, k251_24, k251_27, k251_28, k251_29, k251_30, k251_31, k251_32, k251_33, k251_36, k251_37, k251_38, k251_40, k251_41, k251_44, k251_45, k251_46, k251_49, k251_50, k251_51, k251_54, k251_57, k251_58, k251_59, k251_60, k251_61, k251_64, k251_65, k251_68, k251_71, k251_72, c_0, c_1, c_31, hS, t_71, f_71_9, f_71_10, f_71_11, f_71_12, f_71_13, f_71_14, f_71_15, f_71_16, f_71_17, f_71_20, f_71_21, f_71_22, f_71_23, f_71_24, f_71_25, f_71_26, f_71_28, f_71_29, f_71_30, f_71_31, f_71_32, f_71_40, f_71_41, t_72, l_72, t_73, l_73, t_74, l_74, t_75, l_75, t_76, l_76, t_77, l_77, t_84, l_84, t_91, l_91, t_104, l_104, t_117, l_117, t_278, l_278, t_439, l_439, t_446, l_446, t_453, l_453, t_454, l_454, t_455, l_455, t_536, l_536, t_537, l_537, t_538, l_538, t_539, l_539, t_556, l_556, t_560, l_560, t_561, l_561, f_77, t_78, l_78, f_84, t_85, l_85, f_91, t_92, l_92, f_104, t_105, l_105, f_117, t_118, l_118, f_278, t_279, l_279, f_439, t_440, l_440, f_446, t_447, l_447, f_455, t_456, l_456, f_539, t_540, l_540, f_556, t_557, l_557, w_t, w_l, rowX_s, rowX_n, rowX_f, rowX_2, up_s, up_n, Nat.zero_add, n_m1, i_dec, cat_n, cat_i, cat_r, cat_l, i_add, i_tn, i_vi, i_lt, i_eq, i_shl, n_ltT, n_ltF, n_eqT, n_eqF, n_leT, t_and, nb_0, nb_1, b2_0, b2_n, cont_v, cont_n, ex_eq, u_s, u_c, u_j, ↓reduceIte, ite_not, not_true_eq_false, not_false_eq_true, Bool.false_eq_true, Bool.true_eq_false, false_and, true_and, and_false, and_true, or_self, or_false, false_or, or_true, true_or, cont_x, n_leF, c_1, jh, d173 hS, ringF, ht, b2])
        · (rw [k251_39]; simp (disch := first | assumption | omega) only [in251, k251_0, k251_1, k251_2, k251_5, k251_6, k251_7, k251_8, k251_11, k251_14, k251_15, k251_18, k251_19, k251_20, k251_21, k251_24, k251_27, k251_28, k251_29, k251_30, k251_31, k251_32, k251_33, k251_36, k251_37, k251_38, k251_40, k251_41, k251_44, k251_45, k251_46, k251_49, k251_50, k251_51, k251_54, k251_57, k251_58, k251_59, k251_60, k251_61, k251_64, k251_65, k251_68, k251_71, k251_72, c_0, c_1, c_31, hS, t_71, f_71_9, f_71_10, f_71_11, f_71_12, f_71_13, f_71_14, f_71_15, f_71_16, f_71_17, f_71_20, f_71_21, f_71_22, f_71_23, f_71_24, f_71_25, f_71_26, f_71_28, f_71_29, f_71_30, f_71_31, f_71_32, f_71_40, f_71_41, t_72, l_72, t_73, l_73, t_74, l_74, t_75, l_75, t_76, l_76, t_77, l_77, t_84, l_84, t_91, l_91, t_104, l_104, t_117, l_117, t_278, l_278, t_439, l_439, t_446, l_446, t_453, l_453, t_454, l_454, t_455, l_455, t_536, l_536, t_537, l_537, t_538, l_538, t_539, l_539, t_556, l_556, t_560, l_560, t_561, l_561, f_77, t_78, l_78, f_84, t_85, l_85, f_91, t_92, l_92, f_104, t_105, l_105, f_117, t_118, l_118, f_278, t_279, l_279, f_439, t_440, l_440, f_446, t_447, l_447, f_455, t_456, l_456, f_539, t_540, l_540, f_556, t_557, l_557, w_t, w_l, rowX_s, rowX_n, rowX_f, rowX_2, up_s, up_n, Nat.zero_add, n_m1, i_dec, cat_n, cat_i, cat_r, cat_l, i_add, i_tn, i_vi, i_lt, i_eq, i_shl, n_ltT, n_ltF, n_eqT, n_eqF, n_leT, t_and, nb_0, nb_1, b2_0, b2_n, cont_v, cont_n, ex_eq, u_s, u_c, u_j, ↓reduceIte, ite_not, not_true_eq_false, not_false_eq_true, Bool.false_eq_true, Bool.true_eq_false, false_and, true_and, and_false, and_true, or_self, or_false, false_or, or_true, true_or, cont_x, n_leF, c_1, jh, d173 hS, d250 hS jh jd h6 h12 hg jb jc, jr, ringF, ht, ih2, b2])
    have hp := pow_le31 (k := h) (by omega)
    simp (disch := first | assumption | omega) only [in251, k251_0, k251_1, k251_2, k251_5, k251_6, k251_7, k251_8, k251_11, k251_14, k251_15, k251_18, k251_19, k251_20, k251_21, k251_24, k251_27, k251_28, k251_29, k251_30, k251_31, k251_32, k251_33, k251_36, k251_37, k251_38, k251_40, k251_41, k251_44, k251_45, k251_46, k251_49, k251_50, k251_51, k251_54, k251_57, k251_58, k251_59, k251_60, k251_61, k251_64, k251_65, k251_68, k251_71, k251_72, c_0, c_1, c_31, hS, t_71, f_71_9, f_71_10, f_71_11, f_71_12, f_71_13, f_71_14, f_71_15, f_71_16, f_71_17, f_71_20, f_71_21, f_71_22, f_71_23, f_71_24, f_71_25, f_71_26, f_71_28, f_71_29, f_71_30, f_71_31, f_71_32, f_71_40, f_71_41, t_72, l_72, t_73, l_73, t_74, l_74, t_75, l_75, t_76, l_76, t_77, l_77, t_84, l_84, t_91, l_91, t_104, l_104, t_117, l_117, t_278, l_278, t_439, l_439, t_446, l_446, t_453, l_453, t_454, l_454, t_455, l_455, t_536, l_536, t_537, l_537, t_538, l_538, t_539, l_539, t_556, l_556, t_560, l_560, t_561, l_561, f_77, t_78, l_78, f_84, t_85, l_85, f_91, t_92, l_92, f_104, t_105, l_105, f_117, t_118, l_118, f_278, t_279, l_279, f_439, t_440, l_440, f_446, t_447, l_447, f_455, t_456, l_456, f_539, t_540, l_540, f_556, t_557, l_557, w_t, w_l, rowX_s, rowX_n, rowX_f, rowX_2, up_s, up_n, Nat.zero_add, n_m1, i_dec, cat_n, cat_i, cat_r, cat_l, i_add, i_tn, i_vi, i_lt, i_eq, i_shl, n_ltT, n_ltF, n_eqT, n_eqF, n_leT, t_and, nb_0, nb_1, b2_0, b2_n, cont_v, cont_n, ex_eq, u_s, u_c, u_j, ↓reduceIte, ite_not, not_true_eq_false, not_false_eq_true, Bool.false_eq_true, Bool.true_eq_false, false_and, true_and, and_false, and_true, or_self, or_false, false_or, or_true, true_or, cont_x, n_leF, c_1, hJ, d235 hS jh jd h6 h12, d169f hS, b2_0, d250 hS jh jd h6 h12 hp jb jc, jr]
    exact key nh 1 _ rfl hp
theorem pr_tangle {n d : Nat} {a : Int32} : Pair n (d + 8) 137 252 [.int a] [(1, 1)] := by
  intro I L S hS hI0
  obtain ⟨nh, nd, db, cr, q, sz, lw, nL, bh, bv, nw, ni, nf, hI⟩ := id hI0
  obtain ⟨⟨⟨hh, hd, mh, md⟩, ⟨h6, h12⟩, hho, hde⟩, ⟨hq, hqm, hlw⟩, hR, hB, hW, hIm, hRf, hTp, hZ⟩ := id hI
  have hT := hR.1.2.2
  have hb : ∀ k, k < nd → I 23 k = i32 (db k) ∧ db k < nh := fun k hk => (hde k hk).1
  have hc : ∀ k, k < nd → I 24 k = i32 (cr k) ∧ cr k < nh := fun k hk => (hde k hk).2.1
  have th0 : ∀ x y j, u2 (u2 I 16 j x) 71 0 y 75 0 = i32 nh := fun x y j => by rw [u_c (by omega), u_c (by omega)]; exact mh
  have td0 : ∀ x y j, u2 (u2 I 16 j x) 71 0 y 75 1 = i32 nd := fun x y j => by rw [u_c (by omega), u_c (by omega)]; exact md
  have tz : ∀ x j, u2 (u2 I 16 j x) 71 0 (i32 0) 71 0 = i32 0 := fun x j => u_s
  by_cases hA : a < i32 0 ∨ ¬ a < i32 nh
  · refine pthr (j := 0) (w := 1) (v := .int (i32 0)) hI0 (by omega) (by simp) (fun r => ?_) (fun L S hS r => ?_)
    · simp (disch := first | assumption | omega) only [in137, k137_0, k137_1, k137_2, k137_5, k137_6, k137_9, k137_10, k137_13, hS, t_16, f_16_0, f_16_1, f_16_2, f_16_3, f_16_4, f_16_5, f_16_6, f_16_7, f_16_8, f_16_9, f_16_10, f_16_11, f_16_12, f_16_13, t_17, f_17_0, t_18, l_18, t_19, f_19_0, f_19_1, f_19_2, f_19_3, f_19_4, f_19_5, f_19_6, t_20, l_20, t_21, l_21, t_22, l_22, t_23, l_23, t_24, l_24, t_25, l_25, t_26, l_26, t_27, f_27_0, f_27_1, f_27_2, f_27_3, f_27_4, f_27_5, f_27_6, t_28, l_28, t_29, l_29, t_30, l_30, t_31, l_31, t_32, l_32, t_33, l_33, t_34, l_34, t_35, f_35_0, f_35_1, t_36, l_36, t_37, l_37, t_38, f_38_0, f_38_1, t_39, l_39, t_40, l_40, t_41, f_41_0, t_42, l_42, t_43, f_43_0, t_44, l_44, t_45, f_45_0, f_45_1, f_45_2, f_45_3, t_46, l_46, t_47, l_47, t_48, l_48, t_49, l_49, t_50, l_50, t_51, f_51_0, f_51_1, f_51_2, f_51_3, t_52, l_52, t_53, l_53, t_54, f_54_0, f_54_1, f_54_2, f_54_3, t_55, l_55, t_56, l_56, t_57, f_57_0, f_57_1, f_57_2, f_57_3, t_58, l_58, t_59, l_59, t_60, l_60, t_61, f_61_0, f_61_1, f_61_2, f_61_3, f_61_4, f_61_5, f_61_6, t_62, l_62, t_63, f_63_0, f_63_1, t_64, l_64, t_65, l_65, t_66, f_66_0, f_66_1, t_67, l_67, t_68, l_68, t_69, l_69, t_70, f_70_0, f_70_1, t_1, l_1, t_2, l_2, m_t, m_f0, m_f1, m_f2, m_f3, m_t1, m_l1, m_t2, m_l2, rowX_s, rowX_n, rowX_f, rowX_2, up_s, up_n, Nat.zero_add, n_m1, i_dec, cat_n, cat_i, cat_r, cat_l, i_add, i_tn, i_vi, i_lt, i_eq, i_shl, n_ltT, n_ltF, n_eqT, n_eqF, n_leT, t_and, nb_0, nb_1, b2_0, b2_n, cont_v, cont_n, ex_eq, u_s, u_c, u_j, ↓reduceIte, ite_not, not_true_eq_false, not_false_eq_true, Bool.false_eq_true, Bool.true_eq_false, false_and, true_and, and_false, and_true, or_self, or_false, false_or, or_true, true_or, cont_x, n_leF, c_1, c160 hS, hh, hA, Nat.reduceAdd, Nat.reduceSub]
    · have hr2 := rngX hA
      simp (disch := first | assumption | omega) only [in252, k252_0, k252_1, k252_2, k252_5, k252_6, k252_7, k252_8, k252_11, k252_14, k252_15, k252_18, k252_19, k252_20, k252_21, k252_24, k252_27, k252_28, k252_29, k252_30, k252_31, k252_32, k252_33, k252_34, k252_36, k252_37, k252_40, k252_41, k252_42, k252_45, k252_46, k252_47, k252_48, k252_51, k252_52, k252_53, k252_56, k252_59, k252_60, c_0, c_1, c_31, hS, t_71, f_71_9, f_71_10, f_71_11, f_71_12, f_71_13, f_71_14, f_71_15, f_71_16, f_71_17, f_71_20, f_71_21, f_71_22, f_71_23, f_71_24, f_71_25, f_71_26, f_71_28, f_71_29, f_71_30, f_71_31, f_71_32, f_71_40, f_71_41, t_72, l_72, t_73, l_73, t_74, l_74, t_75, l_75, t_76, l_76, t_77, l_77, t_84, l_84, t_91, l_91, t_104, l_104, t_117, l_117, t_278, l_278, t_439, l_439, t_446, l_446, t_453, l_453, t_454, l_454, t_455, l_455, t_536, l_536, t_537, l_537, t_538, l_538, t_539, l_539, t_556, l_556, t_560, l_560, t_561, l_561, f_77, t_78, l_78, f_84, t_85, l_85, f_91, t_92, l_92, f_104, t_105, l_105, f_117, t_118, l_118, f_278, t_279, l_279, f_439, t_440, l_440, f_446, t_447, l_447, f_455, t_456, l_456, f_539, t_540, l_540, f_556, t_557, l_557, w_t, w_l, rowX_s, rowX_n, rowX_f, rowX_2, up_s, up_n, Nat.zero_add, n_m1, i_dec, cat_n, cat_i, cat_r, cat_l, i_add, i_tn, i_vi, i_lt, i_eq, i_shl, n_ltT, n_ltF, n_eqT, n_eqF, n_leT, t_and, nb_0, nb_1, b2_0, b2_n, cont_v, cont_n, ex_eq, u_s, u_c, u_j, ↓reduceIte, ite_not, not_true_eq_false, not_false_eq_true, Bool.false_eq_true, Bool.true_eq_false, false_and, true_and, and_false, and_true, or_self, or_false, false_or, or_true, true_or, cont_x, n_leF, c_1, d235 hS (th0 _ _ _) (td0 _ _ _) h6 h12, hr2, d169t hS (tz _ _), Nat.reduceAdd]
  obtain ⟨h, hlt, rfl⟩ := rngH (by omega) hA
  clear hA
  obtain ⟨J, hJ⟩ : ∃ J, u2 I 71 0 (i32 0) = J := ⟨_, rfl⟩
  have hJ0 : J 71 0 = i32 0 := by rw [← hJ]; exact u_s
  have aJ : ag I J := by rw [← hJ]; exact ag_u (by unfold scr; omega)
  have hIJ := invP_ag aJ hI
  obtain ⟨⟨⟨_, _, jh, jd⟩, _, jho, jde⟩, ⟨_, jq, _⟩, _, jB, _, _, _, _, _⟩ := id hIJ
  have jr : J 536 = I 536 := (ag_f aJ 536 (by unfold scr; omega))
  have jb : ∀ k, k < nd → J (105 + k) 0 = i32 (db k) ∧ db k < nh := fun k hk => ⟨(jde k hk).2.2.1, (jde k hk).1.2⟩
  have jc : ∀ k, k < nd → J (105 + k) 1 = i32 (cr k) ∧ cr k < nh := fun k hk => ⟨(jde k hk).2.2.2.1, (jde k hk).2.1.2⟩
  have hc2 : ∀ k, k < nd → cr k < nh := fun k hk => (hc k hk).2
  refine pok hI0 (I1 := I) (I2 := J) ag_refl aJ hJ0 (v := .int (i32 (tanF (oby nd db cr (thr nd (I 536))) nh (2 ^ h)))) (fun r => ?_) (fun L S hS r => ?_)
  · simp (disch := first | assumption | omega) only [in137, k137_0, k137_1, k137_2, k137_5, k137_6, k137_9, k137_10, k137_13, hS, t_16, f_16_0, f_16_1, f_16_2, f_16_3, f_16_4, f_16_5, f_16_6, f_16_7, f_16_8, f_16_9, f_16_10, f_16_11, f_16_12, f_16_13, t_17, f_17_0, t_18, l_18, t_19, f_19_0, f_19_1, f_19_2, f_19_3, f_19_4, f_19_5, f_19_6, t_20, l_20, t_21, l_21, t_22, l_22, t_23, l_23, t_24, l_24, t_25, l_25, t_26, l_26, t_27, f_27_0, f_27_1, f_27_2, f_27_3, f_27_4, f_27_5, f_27_6, t_28, l_28, t_29, l_29, t_30, l_30, t_31, l_31, t_32, l_32, t_33, l_33, t_34, l_34, t_35, f_35_0, f_35_1, t_36, l_36, t_37, l_37, t_38, f_38_0, f_38_1, t_39, l_39, t_40, l_40, t_41, f_41_0, t_42, l_42, t_43, f_43_0, t_44, l_44, t_45, f_45_0, f_45_1, f_45_2, f_45_3, t_46, l_46, t_47, l_47, t_48, l_48, t_49, l_49, t_50, l_50, t_51, f_51_0, f_51_1, f_51_2, f_51_3, t_52, l_52, t_53, l_53, t_54, f_54_0, f_54_1, f_54_2, f_54_3, t_55, l_55, t_56, l_56, t_57, f_57_0, f_57_1, f_57_2, f_57_3, t_58, l_58, t_59, l_59, t_60, l_60, t_61, f_61_0, f_61_1, f_61_2, f_61_3, f_61_4, f_61_5, f_61_6, t_62, l_62, t_63, f_63_0, f_63_1, t_64, l_64, t_65, l_65, t_66, f_66_0, f_66_1, t_67, l_67, t_68, l_68, t_69, l_69, t_70, f_70_0, f_70_1, t_1, l_1, t_2, l_2, m_t, m_f0, m_f1, m_f2, m_f3, m_t1, m_l1, m_t2, m_l2, rowX_s, rowX_n, rowX_f, rowX_2, up_s, up_n, Nat.zero_add, n_m1, i_dec, cat_n, cat_i, cat_r, cat_l, i_add, i_tn, i_vi, i_lt, i_eq, i_shl, n_ltT, n_ltF, n_eqT, n_eqF, n_leT, t_and, nb_0, nb_1, b2_0, b2_n, cont_v, cont_n, ex_eq, u_s, u_c, u_j, ↓reduceIte, ite_not, not_true_eq_false, not_false_eq_true, Bool.false_eq_true, Bool.true_eq_false, false_and, true_and, and_false, and_true, or_self, or_false, false_or, or_true, true_or, cont_x, n_leF, c_1, c160 hS, hh, n55 hS hh hd h6 h12 hT hlt hb hc, rw_thr hR, tan_eq hc2 h6 hlt]
  · have key : ∀ k l x, k + l = nh → x < 2147483648 → (Ev (d + 7) 252 35 [.ref 71, .int (i32 h), .int (i32 x), .int (i32 l)] [] J L S r ↔ r = (.inl (some (.int (i32 (tanF (oby nd db cr (thr nd (I 536))) k x)))), J, L, S)) := by
      intro k
      induction k with
      | zero =>
        intro l x hl hx
        (rw [k252_35]; simp (disch := first | assumption | omega) only [in252, k252_0, k252_1, k252_2, k252_5, k252_6, k252_7, k252_8, k252_11, k252_14, k252_15, k252_18, k252_19, k252_20, k252_21, k252_24, k252_27, k252_28, k252_29, k252_30, k252_31, k252_32, k252_33, k252_34, k252_36, k252_37, k252_40, k252_41, k252_42, k252_45, k252_46, k252_47, k252_48, k252_51, k252_52, k252_53, k252_56, k252_59, k252_60, c_0, c_1, c_31, hS, t_71, f_71_9, f_71_10, f_71_11, f_71_12, f_71_13, f_71_14, f_71_15, f_71_16, f_71_17, f_71_20, f_71_21, f_71_22, f_71_23, f_71_24, f_71_25, f_71_26, f_71_28, f_71_29, f_71_30, f_71_31, f_71_32, f_71_40, f_71_41, t_72, l_72, t_73, l_73, t_74, l_74, t_75, l_75, t_76, l_76, t_77, l_77, t_84, l_84, t_91, l_91, t_104, l_104, t_117, l_117, t_278, l_278, t_439, l_439, t_446, l_446, t_453, l_453, t_454, l_454, t_455, l_455, t_536, l_536, t_537, l_537, t_538, l_538, t_539, l_539, t_556, l_556, t_560, l_560, t_561, l_561, f_77, t_78, l_78, f_84, t_85, l_85, f_91, t_92, l_92, f_104, t_105, l_105, f_117, t_118, l_118, f_278, t_279, l_279, f_439, t_440, l_440, f_446, t_447, l_447, f_455, t_456, l_456, f_539, t_540, l_540, f_556, t_557, l_557, w_t, w_l, rowX_s, rowX_n, rowX_f, rowX_2, up_s, up_n, Nat.zero_add, n_m1, i_dec, cat_n, cat_i, cat_r, cat_l, i_add, i_tn, i_vi, i_lt, i_eq, i_shl, n_ltT, n_ltF, n_eqT, n_eqF, n_leT, t_and, nb_0, nb_1, b2_0, b2_n, cont_v, cont_n, ex_eq, u_s, u_c, u_j, ↓reduceIte, ite_not, not_true_eq_false, not_false_eq_true, Bool.false_eq_true, Bool.true_eq_false, false_and, true_and, and_false, and_true, or_self, or_false, false_or, or_true, true_or, cont_x, n_leF, c_1, jh, tanF])
      | succ k ih =>
        intro l x hl hx
        have hg := oby_31 (db := db) (t := thr nd (I 536)) (x := x) h6 hc2
        have ih2 := ih (l + 1) (x ||| oby nd db cr (thr nd (I 536)) x) (by omega) (or_lt31 hx hg)
        (rw [k252_35]; simp (disch := first | assumption | omega) only [in252, k252_0, k252_1, k252_2, k252_5, k252_6, k252_7, k252_8, k252_11, k252_14, k252_15, k252_18, k252_19, k252_20, k252_21, k252_24, k252_27, k252_28, k252_29, k252_30, k252_31, k252_32, k252_33, k252_34, k252_36, k252_37, k252_40, k252_41, k252_42, k252_45, k252_46, k252_47, k252_48, k252_51, k252_52, k252_53, k252_56, k252_59, k252_60, c_0, c_1, c_31, hS, t_71, f_71_9, f_71_10, f_71_11, f_71_12, f_71_13, f_71_14, f_71_15, f_71_16, f_71_17, f_71_20, f_71_21, f_71_22, f_71_23, f_71_24, f_71_25, f_71_26, f_71_28, f_71_29, f_71_30, f_71_31, f_71_32, f_71_40, f_71_41, t_72, l_72, t_73, l_73, t_74, l_74, t_75, l_75, t_76, l_76, t_77, l_77, t_84, l_84, t_91, l_91, t_104, l_104, t_117, l_117, t_278, l_278, t_439, l_439, t_446, l_446, t_453, l_453, t_454, l_454, t_455, l_455, t_536, l_536, t_537, l_537, t_538, l_538, t_539, l_539, t_556, l_556, t_560, l_560, t_561, l_561, f_77, t_78, l_78, f_84, t_85, l_85, f_91, t_92, l_92, f_104, t_105, l_105, f_117, t_118, l_118, f_278, t_279, l_279, f_439, t_440, l_440, f_446, t_447, l_447, f_455, t_456, l_456, f_539, t_540, l_540, f_556, t_557, l_557, w_t, w_l, rowX_s, rowX_n, rowX_f, rowX_2, up_s, up_n, Nat.zero_add, n_m1, i_dec, cat_n, cat_i, cat_r, cat_l, i_add, i_tn, i_vi, i_lt, i_eq, i_shl, n_ltT, n_ltF, n_eqT, n_eqF, n_leT, t_and, nb_0, nb_1, b2_0, b2_n, cont_v, cont_n, ex_eq, u_s, u_c, u_j, ↓reduceIte, ite_not, not_true_eq_false, not_false_eq_true, Bool.false_eq_true, Bool.true_eq_false, false_and, true_and, and_false, and_true, or_self, or_false, false_or, or_true, true_or, cont_x, n_leF, c_1, jh, d250 hS jh jd h6 h12 hx jb jc, jr, i_or, tanF, ih2])
    have hp := pow_le31 (k := h) (by omega)
    simp (disch := first | assumption | omega) only [in252, k252_0, k252_1, k252_2, k252_5, k252_6, k252_7, k252_8, k252_11, k252_14, k252_15, k252_18, k252_19, k252_20, k252_21, k252_24, k252_27, k252_28, k252_29, k252_30, k252_31, k252_32, k252_33, k252_34, k252_36, k252_37, k252_40, k252_41, k252_42, k252_45, k252_46, k252_47, k252_48, k252_51, k252_52, k252_53, k252_56, k252_59, k252_60, c_0, c_1, c_31, hS, t_71, f_71_9, f_71_10, f_71_11, f_71_12, f_71_13, f_71_14, f_71_15, f_71_16, f_71_17, f_71_20, f_71_21, f_71_22, f_71_23, f_71_24, f_71_25, f_71_26, f_71_28, f_71_29, f_71_30, f_71_31, f_71_32, f_71_40, f_71_41, t_72, l_72, t_73, l_73, t_74, l_74, t_75, l_75, t_76, l_76, t_77, l_77, t_84, l_84, t_91, l_91, t_104, l_104, t_117, l_117, t_278, l_278, t_439, l_439, t_446, l_446, t_453, l_453, t_454, l_454, t_455, l_455, t_536, l_536, t_537, l_537, t_538, l_538, t_539, l_539, t_556, l_556, t_560, l_560, t_561, l_561, f_77, t_78, l_78, f_84, t_85, l_85, f_91, t_92, l_92, f_104, t_105, l_105, f_117, t_118, l_118, f_278, t_279, l_279, f_439, t_440, l_440, f_446, t_447, l_447, f_455, t_456, l_456, f_539, t_540, l_540, f_556, t_557, l_557, w_t, w_l, rowX_s, rowX_n, rowX_f, rowX_2, up_s, up_n, Nat.zero_add, n_m1, i_dec, cat_n, cat_i, cat_r, cat_l, i_add, i_tn, i_vi, i_lt, i_eq, i_shl, n_ltT, n_ltF, n_eqT, n_eqF, n_leT, t_and, nb_0, nb_1, b2_0, b2_n, cont_v, cont_n, ex_eq, u_s, u_c, u_j, ↓reduceIte, ite_not, not_true_eq_false, not_false_eq_true, Bool.false_eq_true, Bool.true_eq_false, false_and, true_and, and_false, and_true, or_self, or_false, false_or, or_true, true_or, cont_x, n_leF, c_1, hJ, d235 hS jh jd h6 h12, d169f hS, b2_0]
    exact key nh 0 _ rfl hp
