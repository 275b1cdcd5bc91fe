/-! WHAT HOLDS BETWEEN TWO CALLS: piece by piece -/
def clVl (c j : Nat) : Prop := (c = 19 ∧ (j = 7 ∨ j = 8)) ∨ c = 20 ∨ c = 21 ∨ (23 ≤ c ∧ c ≤ 25) ∨ c = 75 ∨ (85 ≤ c ∧ c ≤ 90) ∨ (105 ≤ c ∧ c ≤ 116)
def clLw (c j : Nat) : Prop := (c = 35 ∧ j = 2) ∨ c = 36 ∨ (c = 71 ∧ j = 18) ∨ (118 ≤ c ∧ c ≤ 277)
def clBk (c j : Nat) : Prop := c = 41 ∨ c = 42 ∨ (c = 71 ∧ j = 33) ∨ (440 ≤ c ∧ c ≤ 445)
def clWk (c j : Nat) : Prop := (c = 57 ∧ j = 4) ∨ (c = 71 ∧ j = 34) ∨ c = 58 ∨ (540 ≤ c ∧ c ≤ 555)
def clIm (c j : Nat) : Prop := (c = 57 ∧ j = 5) ∨ (c = 71 ∧ j = 36) ∨ c = 59 ∨ c = 60 ∨ (557 ≤ c ∧ c ≤ 559)
def clRf (c j : Nat) : Prop := (c = 16 ∧ (j = 14 ∨ j = 15)) ∨ c = 73 ∨ (c = 57 ∧ j = 6) ∨ (c = 71 ∧ (j = 3 ∨ j = 35)) ∨ (c = 17 ∧ j = 6)
def clTp (c j : Nat) : Prop := (c = 17 ∧ j = 1) ∨ (c = 71 ∧ j = 1) ∨ c = 72 ∨ c = 18
def clZr (c j : Nat) : Prop := (c = 64 ∨ c = 65 ∨ c = 67 ∨ c = 68) ∧ j = 0
theorem row_f {I I' : VI} {P : Nat → Nat → Prop} (h : ∀ c j, P c j → I' c j = I c j) (c : Nat) (hc : ∀ j, P c j) : I' c = I c := funext fun j => h c j (hc j)
section Agree
variable {I I' : VI} {nh nd nL nw ni nf sz : Nat} {db cr bh bv : Nat → Nat} {q : Nat → Nat × Nat} {lw : (Nat → Int32) → Int32}
theorem Vl_eq (a : ∀ c j, clVl c j → I' c j = I c j) (h : Vl I nh nd db cr) : Vl I' nh nd db cr := by
  obtain ⟨⟨h1, h2, h3, h4⟩, ⟨h5, h6⟩, h7, h8⟩ := h
  refine ⟨⟨?_, ?_, ?_, ?_⟩, ⟨h5, h6⟩, fun k hk => ?_, fun k hk => ?_⟩
  · rw [a 19 7 (by unfold clVl; omega)]; exact h1
  · rw [a 19 8 (by unfold clVl; omega)]; exact h2
  · rw [a 75 0 (by unfold clVl; omega)]; exact h3
  · rw [a 75 1 (by unfold clVl; omega)]; exact h4
  · rw [a (85 + k) 0 (by unfold clVl; omega), a (85 + k) 1 (by unfold clVl; omega), a 20 k (by unfold clVl; omega), a 21 k (by unfold clVl; omega)]; exact h7 k hk
  · rw [a (105 + k) 0 (by unfold clVl; omega), a (105 + k) 1 (by unfold clVl; omega), a (105 + k) 2 (by unfold clVl; omega), a 23 k (by unfold clVl; omega), a 24 k (by unfold clVl; omega), a 25 k (by unfold clVl; omega)]; exact h8 k hk
theorem Lw_eq (a : ∀ c j, clLw c j → I' c j = I c j) (h : Lw I q sz lw) : Lw I' q sz lw := by
  obtain ⟨⟨h1, h2, h3, h4, h5⟩, h6, h7⟩ := h
  refine ⟨⟨?_, h2, h3, h4, fun k hk => ?_⟩, ?_, h7⟩
  · rw [a 35 2 (by unfold clLw; omega)]; exact h1
  · rw [a 36 k (by unfold clLw; omega)]; exact h5 k hk
  · rcases h6 with ⟨h0, hl⟩ | ⟨q', sz', g0, g1, g2, g3, g4, g5⟩
    · left; rw [a 71 18 (by unfold clLw; omega)]; exact ⟨h0, hl⟩
    · right
      refine ⟨q', sz', ?_, g1, g2, g3, fun k hk => ?_, g5⟩
      · rw [a 71 18 (by unfold clLw; omega)]; exact g0
      · rw [a (118 + k) 0 (by unfold clLw; omega), a (118 + k) 1 (by unfold clLw; omega)]; exact g4 k hk
theorem Bk_eq (a : ∀ c j, clBk c j → I' c j = I c j) (h : Bk I nh nL bh bv) : Bk I' nh nL bh bv := by
  obtain ⟨⟨h1, h2, h3, h4⟩, h5, h6⟩ := h
  refine ⟨⟨?_, ?_, h3, ?_⟩, fun k hk => ?_, h6⟩
  · rw [a 41 2 (by unfold clBk; omega)]; exact h1
  · rw [a 71 33 (by unfold clBk; omega)]; exact h2
  · rw [a 41 1 (by unfold clBk; omega)]; exact h4
  · rw [a (440 + k) 0 (by unfold clBk; omega), a (440 + k) 1 (by unfold clBk; omega), a 42 (bh k) (by unfold clBk; omega)]; exact h5 k hk
theorem Wk_eq (a : ∀ c j, clWk c j → I' c j = I c j) (h : Wk I nh nd nw) : Wk I' nh nd nw := by
  obtain ⟨⟨h1, h2, h3⟩, h4⟩ := h
  refine ⟨⟨?_, ?_, h3⟩, fun k hk => ?_⟩
  · rw [a 57 4 (by unfold clWk; omega)]; exact h1
  · rw [a 71 34 (by unfold clWk; omega)]; exact h2
  · rw [row_f a 58 (fun j => by unfold clWk; omega), row_f a (540 + k) (fun j => by unfold clWk; omega)]; exact h4 k hk
theorem Im_eq (a : ∀ c j, clIm c j → I' c j = I c j) (h : Im I nh nd ni) : Im I' nh nd ni := by
  obtain ⟨⟨h1, h2, h3⟩, h4⟩ := h
  refine ⟨⟨?_, ?_, h3⟩, fun k hk => ?_⟩
  · rw [a 57 5 (by unfold clIm; omega)]; exact h1
  · rw [a 71 36 (by unfold clIm; omega)]; exact h2
  · rw [row_f a 59 (fun j => by unfold clIm; omega), row_f a 60 (fun j => by unfold clIm; omega), row_f a (557 + k) (fun j => by unfold clIm; omega)]; exact h4 k hk
theorem Rf_eq (a : ∀ c j, clRf c j → I' c j = I c j) (h : Rf I) : Rf I' := by
  obtain ⟨h1, h2, h3, h4⟩ := h
  unfold Rf
  rw [a 16 14 (by unfold clRf; omega), a 16 15 (by unfold clRf; omega), a 73 0 (by unfold clRf; omega), a 73 1 (by unfold clRf; omega), a 57 6 (by unfold clRf; omega), a 71 35 (by unfold clRf; omega), a 17 6 (by unfold clRf; omega), a 71 3 (by unfold clRf; omega)]
  exact ⟨h1, h2, h3, h4⟩
theorem Tp_eq (a : ∀ c j, clTp c j → I' c j = I c j) (h : Tp I nf) : Tp I' nf := by
  unfold Tp
  rw [a 17 1 (by unfold clTp; omega), a 71 1 (by unfold clTp; omega), row_f a 72 (fun j => by unfold clTp; omega), row_f a 18 (fun j => by unfold clTp; omega)]
  exact h
theorem Zr_eq (a : ∀ c j, clZr c j → I' c j = I c j) (h : Zr I) : Zr I' := by
  unfold Zr
  rw [a 64 0 (by unfold clZr; omega), a 65 0 (by unfold clZr; omega), a 67 0 (by unfold clZr; omega), a 68 0 (by unfold clZr; omega)]
  exact h
end Agree
theorem Rw_c {nh nd D : Nat} {f f' g g' : Nat → Int32} (h : Rw nh nd D f g) (h6 : nh ≤ 6) (h12 : nd ≤ 12) (hf : ∀ j, j < 45 → f' j = f j) (hg : ∀ j, j < 44 → g' j = g j) : Rw nh nd D f' g' := by
  have et : thr nd (fun d => f' (21 + d)) = thr nd (fun d => f (21 + d)) := thr_congr fun k hk => hf _ (by omega)
  obtain ⟨⟨h0, h1, h2⟩, hH, hK, ⟨y, hy, hy2, hage⟩, hwa, hcr, hwe⟩ := h
  refine ⟨⟨?_, ?_, ?_⟩, fun i hi => ?_, fun k hk => ?_, ⟨y, hy, ?_, fun k hk => ?_⟩, ?_, fun i hi => ?_, fun k hk => ?_⟩
  · rw [hf _ (by omega), hg _ (by omega)]; exact h0
  · rw [hf _ (by omega), hg _ (by omega)]; exact h1
  · rw [hf _ (by omega), et]; exact h2
  · rw [hf _ (by omega), hf _ (by omega), hf _ (by omega), hg _ (by omega), hg _ (by omega), hg _ (by omega)]; exact hH i hi
  · rw [hf _ (by omega), hf _ (by omega), hg _ (by omega), hg _ (by omega)]; exact hK k hk
  · rw [hg _ (by omega)]; exact hy2
  · rw [hg _ (by omega), hg _ (by omega)]; exact hage k hk
  · rw [hg _ (by omega)]; exact hwa
  · rw [hg _ (by omega), hg _ (by omega)]; exact hcr i hi
  · rw [hg _ (by omega)]; exact hwe k hk
theorem Rw_D {nh nd D D' : Nat} {f g : Nat → Int32} (h : Rw nh nd D f g) (hD : D ≤ D') : Rw nh nd D' f g := by
  obtain ⟨h0, hH, hK, ⟨y, hy, hy2, hage⟩, hr⟩ := h
  exact ⟨h0, hH, hK, ⟨y, by omega, hy2, hage⟩, hr⟩
theorem pst {n d yC yM : Nat} {as : List Value} {ex : List (Nat × Nat)} {I : VI} {L : VL} {S : SW} (v : Value) (I1 : VI) (h1 : ∀ r, EvD d yC (.ref 16 :: as) I L S r ↔ r = (.inl (some v), I1, L, S)) (h2 : ∀ L S, S.1 = W0 n → ∃ I2, (∀ r, EvD d yM (.ref 71 :: as) I1 L S r ↔ r = (.inl (some v), I2, L, S)) ∧ Inv I2 ∧ I2 71 0 = i32 0 ∧ I2 1 = I 1) : PairQ n d yC yM as ex I L S :=
  Or.inl ⟨v, I1, h1, fun L S hS => by
    obtain ⟨I2, g1, g2, g3, g4⟩ := h2 L S hS
    exact ⟨I2, L, rfl, g1, g2, g3, g4⟩⟩
theorem cp_n {I : VI} {a s b e m c j : Nat} (h : c ≠ b) : cpI I a s b e m c j = I c j := if_neg h
theorem cp_in {I : VI} {a s b e m j : Nat} (h : e ≤ j ∧ j < e + m) : cpI I a s b e m b j = I a (s + (j - e)) := by unfold cpI; rw [if_pos rfl, if_pos h]
theorem cp_out {I : VI} {a s b e m j : Nat} (h : ¬ (e ≤ j ∧ j < e + m)) : cpI I a s b e m b j = I b j := by unfold cpI; rw [if_pos rfl, if_neg h]
theorem cp_row {I : VI} {a s b e m : Nat} : cpI I a s b e m = rowX I b (cpI I a s b e m b) := by
  funext c j
  by_cases h : c = b
  · subst h; rw [rowX_s]
  · rw [rowX_n h, cp_n h]
theorem c_765 : (765 : Int32) = i32 765 := rfl
theorem cp_g {I : VI} {a s b e m c : Nat} (h : c ≠ b) : cpI I a s b e m c = I c := funext fun _ => cp_n h
