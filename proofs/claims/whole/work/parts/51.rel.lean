/-! THE TWO ROWS SAY THE SAME -/
section Rel
variable {nh nd D : Nat} {f g : Nat → Int32}
theorem rw_thr (h : Rw nh nd D f g) : thr nd (fun d => f (21 + d)) = thr nd g := thr_congr fun k hk => (h.2.2.1 k hk).1
theorem rw_hgr (h : Rw nh nd D f g) : bitsN nh (fun h => decide (i32 0 < f (9 + h))) = bitsN nh (fun h => decide (i32 0 < g (30 + h))) := bits_congr fun k hk => by rw [(h.2.1 k hk).2.1]
theorem rw_cro (h : Rw nh nd D f g) : sumN nh (fun h => f (3 + h)) = sumN nh (fun h => g (24 + h)) := sum_congr fun k hk => (h.2.1 k hk).1
theorem rw_hun (h : Rw nh nd D f g) : sumN nh (fun h => f (9 + h)) = sumN nh (fun h => g (30 + h)) := sum_congr fun k hk => (h.2.1 k hk).2.1
theorem rw_wei (h : Rw nh nd D f g) : sumN nd (fun d => f (21 + d)) = sumN nd (fun j => g j) := sum_congr fun k hk => (h.2.2.1 k hk).1
theorem rw_gri (h : Rw nh nd D f g) : bitsN nd (fun k => decide (thr nd (fun d => f (21 + d)) k = true ∧ ¬ f 1 < i32 1 + f (21 + k) / i32 5)) = bitsN nd (fun k => decide (thr nd g k = true ∧ ¬ g 42 < i32 1 + g k / i32 5)) := bits_congr fun k hk => by rw [rw_thr h, h.1.2.1, (h.2.2.1 k hk).1]
theorem rw_T (h : Rw nh nd D f g) : f 2 = i32 (bitsN nd (thr nd g)) := by rw [← rw_thr h]; exact h.1.2.2
theorem rw_oweN (h : Rw nh nd D f g) {db cr : Nat → Nat} {a b : Nat} : owesN nd db cr (fun d => f (21 + d)) a b = owesN nd db cr g a b := sum_congr fun k hk => by simp only [(h.2.2.1 k hk).1]
theorem thr_no (h : nd ≤ 12) {w : Nat → Int32} {k : Nat} (hk : ¬ thr nd w k = true) (hk2 : k < nd) (hw : inN (w k) 60) : w k = i32 0 := by
  obtain ⟨m, hm, e⟩ := hw
  rw [thr_t hk2, e, i_lt (by omega) (by omega)] at hk
  rw [e, show m = 0 from by omega]
/-- flour of a debt, the component's and the reference's -/
theorem fl_eq {I J : VI} {db cr : Nat → Nat} {q : Nat → Nat × Nat} {sz : Nat} {lw : (Nat → Int32) → Int32} (h : Rw nh nd D f g) (hde : ∀ k, k < nd → db k < nh ∧ cr k < nh ∧ J (105 + k) 2 = I 25 k) (hho : ∀ h, h < nh → J (85 + h) 0 = I 20 h ∧ J (85 + h) 1 = I 21 h) (hlw : ∀ t, lawQ q sz t = lw t) {k : Nat} : flF nd (lawQ q sz) db cr (I 25) (I 21) (I 20) (fun d => f (21 + d)) (fun d => f (33 + d)) (fun h => f (9 + h)) k = flF nd lw db cr (fun k => J (105 + k) 2) (fun h => J (85 + h) 1) (fun h => J (85 + h) 0) g (fun d => g (12 + d)) (fun h => g (30 + h)) k := by
  unfold flF
  rw [rw_thr h]
  by_cases ht : thr nd g k = true
  · have hk := thr_lt ht
    rw [if_pos ht, if_pos ht, hlw]
    obtain ⟨h1, h2, h3⟩ := hde k hk
    obtain ⟨h4, h5⟩ := hho _ h1
    simp only [rw_oweN h, (h.2.2.1 k hk).1, (h.2.2.1 k hk).2, (h.2.1 _ h1).2.1, h3, h4, h5]
  · rw [if_neg ht, if_neg ht]
end Rel
/-! SUMS -/
theorem sum_zero {n : Nat} : sumN n (fun _ => i32 0) = i32 0 := by
  induction n with
  | zero => rfl
  | succ n ih => rw [sumN, ih]; rfl
theorem i0_add {x : Int32} : i32 0 + x = x := by show (0 : Int32) + x = x; exact Int32.zero_add x
theorem add_i0 {x : Int32} : x + i32 0 = x := by show x + (0 : Int32) = x; exact Int32.add_zero x
theorem sum_add {n : Nat} {f g : Nat → Int32} : sumN n (fun k => f k + g k) = sumN n f + sumN n g := by
  induction n with
  | zero => rfl
  | succ n ih =>
    rw [sumN, sumN, sumN, ih]
    rw [Int32.add_assoc, Int32.add_assoc, ← Int32.add_assoc (sumN n g), Int32.add_comm (sumN n g), Int32.add_assoc]
theorem sum_swap {n m : Nat} {f : Nat → Nat → Int32} : sumN n (fun i => sumN m (fun j => f i j)) = sumN m (fun j => sumN n (fun i => f i j)) := by
  induction n with
  | zero => exact sum_zero.symm
  | succ n ih => rw [sumN, ih, ← sum_add]; rfl
theorem sum_one {n c : Nat} {x : Int32} (h : c < n) : sumN n (fun k => if c = k then x else i32 0) = x := by
  induction n with
  | zero => omega
  | succ n ih =>
    rw [sumN]
    by_cases e : c = n
    · subst e
      have : sumN c (fun k => if c = k then x else i32 0) = sumN c (fun _ => i32 0) := sum_congr fun k hk => if_neg (by omega)
      rw [this, sum_zero, if_pos rfl, i0_add]
    · rw [ih (by omega), if_neg e, add_i0]
/-- all that one owes: over all to whom -/
theorem owe_all {nh nd : Nat} {db cr : Nat → Nat} {w : Nat → Int32} {a : Nat} (hc : ∀ k, k < nd → cr k < nh) : sumN nh (fun b => owesN nd db cr w a b) = sumN nd (fun k => if db k = a then w k else i32 0) := by
  unfold owesN
  rw [sum_swap]
  refine sum_congr fun k hk => ?_
  by_cases e : db k = a
  · simp only [e, if_true]; exact sum_one (hc k hk)
  · simp only [e, if_false]; exact sum_zero
theorem owd_all {nh nd : Nat} {db cr : Nat → Nat} {w : Nat → Int32} {b : Nat} (hb : ∀ k, k < nd → db k < nh) : sumN nh (fun a => owesN nd db cr w a b) = sumN nd (fun k => if cr k = b then w k else i32 0) := by
  unfold owesN
  rw [sum_swap]
  refine sum_congr fun k hk => ?_
  by_cases e : cr k = b
  · simp only [e, if_true]; exact sum_one (hb k hk)
  · simp only [e, if_false]
    have : (fun i => if db k = i then i32 0 else i32 0) = fun _ => i32 0 := funext fun i => by split <;> rfl
    rw [this]; exact sum_zero
theorem pok {n d yC yM : Nat} {as : List Value} {ex : List (Nat × Nat)} {I I1 I2 : VI} {L : VL} {S : SW} {v : Value} (hI : Inv I) (a1 : ag I I1) (a2 : ag I1 I2) (z : I2 71 0 = i32 0) (h1 : ∀ r, EvD d yC (.ref 16 :: as) I L S r ↔ r = (.inl (some v), I1, L, S)) (h2 : ∀ L S, S.1 = W0 n → ∀ r, EvD d yM (.ref 71 :: as) I1 L S r ↔ r = (.inl (some v), I2, L, S)) : PairQ n d yC yM as ex I L S :=
  Or.inl ⟨v, I1, h1, fun L S hS => ⟨I2, L, rfl, h2 L S hS, inv_ag (ag_trans a1 a2) hI, z, ag_f (ag_trans a1 a2) 1 (by unfold scr; omega)⟩⟩
theorem pok2 {n d yC yM : Nat} {as : List Value} {ex : List (Nat × Nat)} {I I1 : VI} {L : VL} {S : SW} {v : Value} (hI : Inv I) (a1 : ag I I1) (h1 : ∀ r, EvD d yC (.ref 16 :: as) I L S r ↔ r = (.inl (some v), I1, L, S)) (h2 : ∀ L S, S.1 = W0 n → ∃ I2, ag I1 I2 ∧ I2 71 0 = i32 0 ∧ ∀ r, EvD d yM (.ref 71 :: as) I1 L S r ↔ r = (.inl (some v), I2, L, S)) : PairQ n d yC yM as ex I L S :=
  Or.inl ⟨v, I1, h1, fun L S hS => by
    obtain ⟨I2, a2, z, h3⟩ := h2 L S hS
    exact ⟨I2, L, rfl, h3, inv_ag (ag_trans a1 a2) hI, z, ag_f (ag_trans a1 a2) 1 (by unfold scr; omega)⟩⟩
theorem pthr {n d yC yM j w : Nat} {as : List Value} {ex : List (Nat × Nat)} {I : VI} {L : VL} {S : SW} {v : Value} (hI : Inv I) (hj : j < 2) (hm : (1 - j, w) ∈ ex) (h1 : ∀ r, EvD d yC (.ref 16 :: as) I L S r ↔ r = (.inr (1 - j), u2 I 16 (14 + j) (I 16 (14 + j) + i32 1), L, bump S)) (h2 : ∀ L S, S.1 = W0 n → ∀ r, EvD d yM (.ref 71 :: as) (u2 I 16 (14 + j) (I 16 (14 + j) + i32 1)) L S r ↔ r = (.inl (some v), u2 (u2 (u2 (u2 I 16 (14 + j) (I 16 (14 + j) + i32 1)) 71 0 (i32 0)) 71 0 (i32 w)) 73 j (I 73 j + i32 1), L, S)) : PairQ n d yC yM as ex I L S :=
  Or.inr ⟨1 - j, w, v, _, hm, h1, fun L S hS => ⟨_, h2 L S hS, inv_ref hj hI, by rw [u_c (by omega)]; exact u_s, by
    funext i
    rw [u_c (by omega), u_c (by omega), u_c (by omega), u_c (by omega)]⟩⟩
