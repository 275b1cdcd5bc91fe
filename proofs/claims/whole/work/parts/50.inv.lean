/-! WHAT HOLDS BETWEEN TWO CALLS -/
theorem up_iv {σ : Type} {P : Nat → σ → Res → Prop} {Q : Nat → σ → Prop} {n : Nat} (h : ∀ k, k < n → ∀ x, Q k x → ∃ x', Q (k + 1) x' ∧ ∀ r, P k x r ↔ P (k + 1) x' r) : ∀ k, k ≤ n → ∀ x, Q k x → ∃ x', Q n x' ∧ ∀ r, P k x r ↔ P n x' r := by
  intro k hk
  obtain ⟨m, rfl⟩ := Nat.exists_eq_add_of_le hk
  clear hk
  induction m generalizing k with
  | zero => exact fun x hx => ⟨x, hx, fun _ => Iff.rfl⟩
  | succ m ih =>
    have e : k + (m + 1) = (k + 1) + m := by omega
    rw [e] at h ⊢
    intro x hx
    obtain ⟨x1, q1, h1⟩ := h k (by omega) x hx
    obtain ⟨x2, q2, h2⟩ := ih (k + 1) h x1 q1
    exact ⟨x2, q2, fun r => (h1 r).trans (h2 r)⟩
/-- what a call may use and leave as it will -/
def scr (c j : Nat) : Prop := c = 37 ∨ c = 50 ∨ c = 53 ∨ c = 55 ∨ c = 56 ∨ c = 61 ∨ c = 62 ∨ ((c = 64 ∨ c = 65 ∨ c = 67 ∨ c = 68) ∧ 1 ≤ j) ∨ c = 69 ∨ c = 70 ∨ c = 453 ∨ c = 454 ∨ c = 537 ∨ c = 538 ∨ c = 560 ∨ (c = 71 ∧ (j = 0 ∨ j = 37 ∨ j = 42 ∨ j = 2 ∨ (4 ≤ j ∧ j ≤ 8) ∨ j = 19 ∨ j = 27 ∨ j = 38 ∨ j = 39)) ∨ (c = 17 ∧ 2 ≤ j ∧ j ≤ 5) ∨ (27 ≤ c ∧ c ≤ 34) ∨ (38 ≤ c ∧ c ≤ 40) ∨ (43 ≤ c ∧ c ≤ 49) ∨ c = 74 ∨ (76 ≤ c ∧ c ≤ 83) ∨ (91 ≤ c ∧ c ≤ 103) ∨ (278 ≤ c ∧ c ≤ 438) ∨ (446 ≤ c ∧ c ≤ 452) ∨ (455 ≤ c ∧ c ≤ 535)
def ag (I I' : VI) : Prop := ∀ c j, ¬ scr c j → I' c j = I c j
theorem ag_refl {I : VI} : ag I I := fun _ _ _ => rfl
theorem ag_trans {I I' I'' : VI} (h : ag I I') (h' : ag I' I'') : ag I I'' := fun c j hs => (h' c j hs).trans (h c j hs)
theorem ag_u {I : VI} {c j : Nat} {x : Int32} (h : scr c j) : ag I (u2 I c j x) := fun c' j' hs => by
  unfold u2
  by_cases e1 : c' = c
  · by_cases e2 : j' = j
    · subst e1 e2; exact absurd h hs
    · rw [if_pos e1, if_neg e2]
  · rw [if_neg e1]
theorem ag_ov {I X : VI} : ag I (ov I X) := fun c j hs => ov_n (by unfold scr at hs; omega)
theorem ag_row {I : VI} {c : Nat} {f : Nat → Int32} (h : ∀ j, scr c j) : ag I (rowX I c f) := fun c' j hs => by
  by_cases e : c' = c
  · subst e; exact absurd (h j) hs
  · exact rowX_n e
theorem ag_cp {I : VI} {a s b dp m : Nat} (h : ∀ j, scr b j) : ag I (cpI I a s b dp m) := fun c' j hs => by
  unfold cpI
  by_cases e : c' = b
  · subst e; exact absurd (h j) hs
  · rw [if_neg e]
theorem ag_f {I I' : VI} (h : ag I I') (c : Nat) (hc : ∀ j, ¬ scr c j) : I' c = I c := funext fun j => h c j (hc j)
/-- a number up to b -/
def inN (x : Int32) (b : Nat) : Prop := ∃ k, k ≤ b ∧ x = i32 k
def Vl (I : VI) (nh nd : Nat) (db cr : Nat → Nat) : Prop := (I 19 7 = i32 nh ∧ I 19 8 = i32 nd ∧ I 75 0 = i32 nh ∧ I 75 1 = i32 nd) ∧ (nh ≤ 6 ∧ nd ≤ 12) ∧ (∀ h, h < nh → I (85 + h) 0 = I 20 h ∧ I (85 + h) 1 = I 21 h ∧ ∃ m, 1 ≤ m ∧ m ≤ 9 ∧ I 20 h = i32 m) ∧ (∀ k, k < nd → (I 23 k = i32 (db k) ∧ db k < nh) ∧ (I 24 k = i32 (cr k) ∧ cr k < nh) ∧ I (105 + k) 0 = i32 (db k) ∧ I (105 + k) 1 = i32 (cr k) ∧ I (105 + k) 2 = I 25 k)
def Lw (I : VI) (q : Nat → Nat × Nat) (sz : Nat) (lw : (Nat → Int32) → Int32) : Prop := isLawC I q sz ∧ isLawM I lw ∧ ∀ t, lawQ q sz t = lw t
/-- a row of the reference's -/
def Gd (nh nd D : Nat) (g : Nat → Int32) : Prop := (∃ y, y ≤ D ∧ g 43 = i32 y ∧ ∀ k, k < nd → ∃ a, a ≤ y ∧ g (12 + k) = i32 a ∧ (g k = i32 0 → a = 0)) ∧ inN (g 42) 99 ∧ (∀ h, h < nh → inN (g (24 + h)) 999 ∧ inN (g (30 + h)) 99) ∧ ∀ k, k < nd → inN (g k) 60
/-- a row of the component's beside a row of the reference's -/
def Rw (nh nd D : Nat) (f g : Nat → Int32) : Prop := (f 0 = g 43 ∧ f 1 = g 42 ∧ f 2 = i32 (bitsN nd (thr nd (fun d => f (21 + d))))) ∧ (∀ h, h < nh → f (3 + h) = g (24 + h) ∧ f (9 + h) = g (30 + h) ∧ f (15 + h) = g (36 + h)) ∧ (∀ k, k < nd → f (21 + k) = g k ∧ f (33 + k) = g (12 + k)) ∧ Gd nh nd D g
def lst (bh : Nat → Nat) : Nat → Nat → Bool
  | 0, _ => false
  | n + 1, h => lst bh n h || decide (bh n = h)
def Bk (I : VI) (nh nL : Nat) (bh bv : Nat → Nat) : Prop := (I 41 2 = i32 nL ∧ I 71 33 = i32 nL ∧ nL ≤ 6 ∧ I 41 1 = i32 (bitsN 6 (lst bh nL))) ∧ (∀ k, k < nL → bh k < nh ∧ bv k ≤ 999 ∧ I (440 + k) 0 = i32 (bh k) ∧ I (440 + k) 1 = i32 (bv k) ∧ I 42 (bh k) = i32 (bv k)) ∧ ∀ k, k < nL → lst bh k (bh k) = false
def Wk (I : VI) (nh nd nw : Nat) : Prop := (I 57 4 = i32 nw ∧ I 71 34 = i32 nw ∧ nw ≤ 16) ∧ ∀ w, w < nw → Rw nh nd 400 (fun j => I 58 (45 * w + j)) (I (540 + w))
def Im (I : VI) (nh nd ni : Nat) : Prop := (I 57 5 = i32 ni ∧ I 71 36 = i32 ni ∧ ni ≤ 3) ∧ ∀ i, i < ni → ∃ wi, wi ≤ 16 ∧ I 60 i = i32 wi ∧ I (557 + i) 0 = i32 wi ∧ Rw nh nd 400 (fun j => I 59 (765 * i + j)) (fun j => I (557 + i) (1 + j)) ∧ ∀ w, w < wi → Rw nh nd 400 (fun j => I 59 (765 * i + (45 + 45 * w) + j)) (fun j => I (557 + i) (45 + 44 * w + j))
def Rf (I : VI) : Prop := I 16 14 = I 73 0 ∧ I 16 15 = I 73 1 ∧ I 57 6 = I 71 35 ∧ I 17 6 = I 71 3
def sgn (b : Nat) : Int32 := if b < 128 then i32 b else i32 b - i32 256
def Tp (I : VI) (nf : Nat) : Prop := (I 17 1 = i32 nf ∧ I 71 1 = i32 nf ∧ nf ≤ 600) ∧ ∀ k, k < nf → ∃ b, b < 256 ∧ I 72 k = i32 b ∧ I 18 k = sgn b
def Zr (I : VI) : Prop := I 64 0 = i32 0 ∧ I 65 0 = i32 0 ∧ I 67 0 = i32 0 ∧ I 68 0 = i32 0
def InvP (I : VI) (nh nd : Nat) (db cr : Nat → Nat) (q : Nat → Nat × Nat) (sz : Nat) (lw : (Nat → Int32) → Int32) (nL : Nat) (bh bv : Nat → Nat) (nw ni nf : Nat) : Prop := Vl I nh nd db cr ∧ Lw I q sz lw ∧ Rw nh nd 400 (I 52) (I 536) ∧ Bk I nh nL bh bv ∧ Wk I nh nd nw ∧ Im I nh nd ni ∧ Rf I ∧ Tp I nf ∧ Zr I
def Inv (I : VI) : Prop := ∃ nh nd db cr q sz lw nL bh bv nw ni nf, InvP I nh nd db cr q sz lw nL bh bv nw ni nf
section Agree
variable {I I' : VI} {nh nd nL nw ni nf sz : Nat} {db cr bh bv : Nat → Nat} {q : Nat → Nat × Nat} {lw : (Nat → Int32) → Int32}
theorem Vl_ag (a : ag I I') (h : Vl I nh nd db cr) : Vl I' nh nd db cr := by
  obtain ⟨⟨h1, h2, h3, h4⟩, ⟨h5, h6⟩, h7, h8⟩ := h
  refine ⟨⟨?_, ?_, ?_, ?_⟩, ⟨h5, h6⟩, fun k hk => ?_, fun k hk => ?_⟩
  · rw [a 19 7 (by unfold scr; omega)]; exact h1
  · rw [a 19 8 (by unfold scr; omega)]; exact h2
  · rw [a 75 0 (by unfold scr; omega)]; exact h3
  · rw [a 75 1 (by unfold scr; omega)]; exact h4
  · rw [a (85 + k) 0 (by unfold scr; omega), a (85 + k) 1 (by unfold scr; omega), a 20 k (by unfold scr; omega), a 21 k (by unfold scr; omega)]; exact h7 k hk
  · rw [a (105 + k) 0 (by unfold scr; omega), a (105 + k) 1 (by unfold scr; omega), a (105 + k) 2 (by unfold scr; omega), a 23 k (by unfold scr; omega), a 24 k (by unfold scr; omega), a 25 k (by unfold scr; omega)]; exact h8 k hk
theorem Lw_ag (a : ag I I') (h : Lw I q sz lw) : Lw I' q sz lw := by
  obtain ⟨⟨h1, h2, h3, h4, h5⟩, h6, h7⟩ := h
  refine ⟨⟨?_, h2, h3, h4, fun k hk => ?_⟩, ?_, h7⟩
  · rw [a 35 2 (by unfold scr; omega)]; exact h1
  · rw [a 36 k (by unfold scr; omega)]; exact h5 k hk
  · rcases h6 with ⟨h0, hl⟩ | ⟨q', sz', g0, g1, g2, g3, g4, g5⟩
    · left; rw [a 71 18 (by unfold scr; omega)]; exact ⟨h0, hl⟩
    · right
      refine ⟨q', sz', ?_, g1, g2, g3, fun k hk => ?_, g5⟩
      · rw [a 71 18 (by unfold scr; omega)]; exact g0
      · rw [a (118 + k) 0 (by unfold scr; omega), a (118 + k) 1 (by unfold scr; omega)]; exact g4 k hk
theorem Bk_ag (a : ag I I') (h : Bk I nh nL bh bv) : Bk I' nh nL bh bv := by
  obtain ⟨⟨h1, h2, h3, h4⟩, h5, h6⟩ := h
  refine ⟨⟨?_, ?_, h3, ?_⟩, fun k hk => ?_, h6⟩
  · rw [a 41 2 (by unfold scr; omega)]; exact h1
  · rw [a 71 33 (by unfold scr; omega)]; exact h2
  · rw [a 41 1 (by unfold scr; omega)]; exact h4
  · rw [a (440 + k) 0 (by unfold scr; omega), a (440 + k) 1 (by unfold scr; omega), a 42 (bh k) (by unfold scr; omega)]; exact h5 k hk
theorem Wk_ag (a : ag I I') (h : Wk I nh nd nw) : Wk I' nh nd nw := by
  obtain ⟨⟨h1, h2, h3⟩, h4⟩ := h
  refine ⟨⟨?_, ?_, h3⟩, fun k hk => ?_⟩
  · rw [a 57 4 (by unfold scr; omega)]; exact h1
  · rw [a 71 34 (by unfold scr; omega)]; exact h2
  · rw [ag_f a 58 (by unfold scr; omega), ag_f a (540 + k) (by unfold scr; omega)]; exact h4 k hk
theorem Im_ag (a : ag I I') (h : Im I nh nd ni) : Im I' nh nd ni := by
  obtain ⟨⟨h1, h2, h3⟩, h4⟩ := h
  refine ⟨⟨?_, ?_, h3⟩, fun k hk => ?_⟩
  · rw [a 57 5 (by unfold scr; omega)]; exact h1
  · rw [a 71 36 (by unfold scr; omega)]; exact h2
  · rw [ag_f a 59 (by unfold scr; omega), ag_f a 60 (by unfold scr; omega), ag_f a (557 + k) (by unfold scr; omega)]; exact h4 k hk
theorem Rf_ag (a : ag I I') (h : Rf I) : Rf I' := by
  obtain ⟨h1, h2, h3, h4⟩ := h
  unfold Rf
  rw [a 16 14 (by unfold scr; omega), a 16 15 (by unfold scr; omega), a 73 0 (by unfold scr; omega), a 73 1 (by unfold scr; omega), a 57 6 (by unfold scr; omega), a 71 35 (by unfold scr; omega), a 17 6 (by unfold scr; omega), a 71 3 (by unfold scr; omega)]
  exact ⟨h1, h2, h3, h4⟩
theorem Tp_ag (a : ag I I') (h : Tp I nf) : Tp I' nf := by
  unfold Tp
  rw [a 17 1 (by unfold scr; omega), a 71 1 (by unfold scr; omega), ag_f a 72 (by unfold scr; omega), ag_f a 18 (by unfold scr; omega)]
  exact h
theorem Zr_ag (a : ag I I') (h : Zr I) : Zr I' := by
  unfold Zr
  rw [a 64 0 (by unfold scr; omega), a 65 0 (by unfold scr; omega), a 67 0 (by unfold scr; omega), a 68 0 (by unfold scr; omega)]
  exact h
theorem invP_ag (a : ag I I') (h : InvP I nh nd db cr q sz lw nL bh bv nw ni nf) : InvP I' nh nd db cr q sz lw nL bh bv nw ni nf := by
  obtain ⟨h1, h2, h3, h4, h5, h6, h7, h8, h9⟩ := h
  refine ⟨Vl_ag a h1, Lw_ag a h2, ?_, Bk_ag a h4, Wk_ag a h5, Im_ag a h6, Rf_ag a h7, Tp_ag a h8, Zr_ag a h9⟩
  rw [ag_f a 52 (by unfold scr; omega), ag_f a 536 (by unfold scr; omega)]
  exact h3
theorem inv_ag (a : ag I I') (h : Inv I) : Inv I' := by
  obtain ⟨nh, nd, db, cr, q, sz, lw, nL, bh, bv, nw, ni, nf, h⟩ := h
  exact ⟨nh, nd, db, cr, q, sz, lw, nL, bh, bv, nw, ni, nf, invP_ag a h⟩
/-- a refusal is counted on both sides -/
theorem inv_ref {j : Nat} {w x : Int32} (hj : j < 2) (h : Inv I) : Inv (u2 (u2 (u2 (u2 I 16 (14 + j) (I 16 (14 + j) + i32 1)) 71 0 x) 71 0 w) 73 j (I 73 j + i32 1)) := by
  obtain ⟨nh, nd, db, cr, q, sz, lw, nL, bh, bv, nw, ni, nf, h1, h2, h3, h4, h5, h6, h7, h8, h9⟩ := h
  have hb : ∀ c i, ¬ c = 16 → ¬ c = 73 → ¬ c = 71 → u2 (u2 (u2 (u2 I 16 (14 + j) (I 16 (14 + j) + i32 1)) 71 0 x) 71 0 w) 73 j (I 73 j + i32 1) c i = I c i := fun c i a b e => by
    rw [u_c b, u_c e, u_c e, u_c a]
  have h71 : ∀ i, ¬ i = 0 → u2 (u2 (u2 (u2 I 16 (14 + j) (I 16 (14 + j) + i32 1)) 71 0 x) 71 0 w) 73 j (I 73 j + i32 1) 71 i = I 71 i := fun i a => by
    rw [u_c (by omega), u_j a, u_j a, u_c (by omega)]
  generalize hI : u2 (u2 (u2 (u2 I 16 (14 + j) (I 16 (14 + j) + i32 1)) 71 0 x) 71 0 w) 73 j (I 73 j + i32 1) = I' at hb h71
  have hf : ∀ c, ¬ c = 16 → ¬ c = 73 → ¬ c = 71 → I' c = I c := fun c a b e => funext fun i => hb c i a b e
  refine ⟨nh, nd, db, cr, q, sz, lw, nL, bh, bv, nw, ni, nf, ?_, ?_, ?_, ?_, ?_, ?_, ?_, ?_, ?_⟩
  · obtain ⟨a1, a2, a3, a4⟩ := h1
    refine ⟨?_, a2, fun k hk => ?_, fun k hk => ?_⟩
    · rw [hf 19 (by omega) (by omega) (by omega), hf 75 (by omega) (by omega) (by omega)]; exact a1
    · rw [hf (85 + k) (by omega) (by omega) (by omega), hf 20 (by omega) (by omega) (by omega), hf 21 (by omega) (by omega) (by omega)]; exact a3 k hk
    · rw [hf (105 + k) (by omega) (by omega) (by omega), hf 23 (by omega) (by omega) (by omega), hf 24 (by omega) (by omega) (by omega), hf 25 (by omega) (by omega) (by omega)]; exact a4 k hk
  · obtain ⟨⟨a1, a2, a3, a4, a5⟩, h6, h7⟩ := h2
    refine ⟨⟨?_, a2, a3, a4, fun k hk => ?_⟩, ?_, h7⟩
    · rw [hf 35 (by omega) (by omega) (by omega)]; exact a1
    · rw [hf 36 (by omega) (by omega) (by omega)]; exact a5 k hk
    · rcases h6 with ⟨h0, hl⟩ | ⟨q', sz', g0, g1, g2, g3, g4, g5⟩
      · left; rw [h71 18 (by omega)]; exact ⟨h0, hl⟩
      · right
        refine ⟨q', sz', ?_, g1, g2, g3, fun k hk => ?_, g5⟩
        · rw [h71 18 (by omega)]; exact g0
        · rw [hf (118 + k) (by omega) (by omega) (by omega)]; exact g4 k hk
  · rw [hf 52 (by omega) (by omega) (by omega), hf 536 (by omega) (by omega) (by omega)]; exact h3
  · obtain ⟨⟨a1, a2, a3, a4⟩, a5, a6⟩ := h4
    refine ⟨⟨?_, ?_, a3, ?_⟩, fun k hk => ?_, a6⟩
    · rw [hf 41 (by omega) (by omega) (by omega)]; exact a1
    · rw [h71 33 (by omega)]; exact a2
    · rw [hf 41 (by omega) (by omega) (by omega)]; exact a4
    · rw [hf (440 + k) (by omega) (by omega) (by omega), hf 42 (by omega) (by omega) (by omega)]; exact a5 k hk
  · obtain ⟨⟨a1, a2, a3⟩, a4⟩ := h5
    refine ⟨⟨?_, ?_, a3⟩, fun k hk => ?_⟩
    · rw [hf 57 (by omega) (by omega) (by omega)]; exact a1
    · rw [h71 34 (by omega)]; exact a2
    · rw [hf 58 (by omega) (by omega) (by omega), hf (540 + k) (by omega) (by omega) (by omega)]; exact a4 k hk
  · obtain ⟨⟨a1, a2, a3⟩, a4⟩ := h6
    refine ⟨⟨?_, ?_, a3⟩, fun k hk => ?_⟩
    · rw [hf 57 (by omega) (by omega) (by omega)]; exact a1
    · rw [h71 36 (by omega)]; exact a2
    · rw [hf 59 (by omega) (by omega) (by omega), hf 60 (by omega) (by omega) (by omega), hf (557 + k) (by omega) (by omega) (by omega)]; exact a4 k hk
  · obtain ⟨a1, a2, a3, a4⟩ := h7
    unfold Rf
    rw [hf 57 (by omega) (by omega) (by omega), hf 17 (by omega) (by omega) (by omega), h71 35 (by omega), h71 3 (by omega)]
    rw [← hI]
    have : j = 0 ∨ j = 1 := by omega
    rcases this with rfl | rfl
    · refine ⟨?_, ?_, a3, a4⟩
      · simp (disch := omega) only [u_s, u_c, u_j, a1]
      · simp (disch := omega) only [u_s, u_c, u_j, a2]
    · refine ⟨?_, ?_, a3, a4⟩
      · simp (disch := omega) only [u_s, u_c, u_j, a1]
      · simp (disch := omega) only [u_s, u_c, u_j, a2]
  · unfold Tp
    rw [hf 17 (by omega) (by omega) (by omega), hf 72 (by omega) (by omega) (by omega), hf 18 (by omega) (by omega) (by omega), h71 1 (by omega)]
    exact h8
  · unfold Zr
    rw [hf 64 (by omega) (by omega) (by omega), hf 65 (by omega) (by omega) (by omega), hf 67 (by omega) (by omega) (by omega), hf 68 (by omega) (by omega) (by omega)]
    exact h9
end Agree
/-- a call of the component and the reference's, one behind the other, from what holds between calls to what holds between calls: the same answer, or a refusal of the same kind -/
def PairQ (n d yC yM : Nat) (as : List Value) (ex : List (Nat × Nat)) (I : VI) (L : VL) (S : SW) : Prop :=
  (∃ v I1, (∀ r, EvD d yC (.ref 16 :: as) I L S r ↔ r = (.inl (some v), I1, L, S)) ∧ ∀ L S, S.1 = W0 n → ∃ I2 L', L' 562 0 = L 562 0 ∧ (∀ r, EvD d yM (.ref 71 :: as) I1 L S r ↔ r = (.inl (some v), I2, L', S)) ∧ Inv I2 ∧ I2 71 0 = i32 0 ∧ I2 1 = I 1) ∨
  (∃ E w v I1, (E, w) ∈ ex ∧ (∀ r, EvD d yC (.ref 16 :: as) I L S r ↔ r = (.inr E, I1, L, bump S)) ∧ ∀ L S, S.1 = W0 n → ∃ I2, (∀ r, EvD d yM (.ref 71 :: as) I1 L S r ↔ r = (.inl (some v), I2, L, S)) ∧ Inv I2 ∧ I2 71 0 = i32 w ∧ I2 1 = I 1)
def Pair (n d yC yM : Nat) (as : List Value) (ex : List (Nat × Nat)) : Prop := ∀ I L S, S.1 = W0 n → Inv I → PairQ n d yC yM as ex I L S
theorem mo_lt : ∀ y, y < 285 → mO y < 12 := by decide +kernel
theorem hn_no {y pc E : Nat} (h : y < 285) : hn y pc E = none := by
  unfold hn
  have h1 : ∀ e ∈ hnTab, 290 ≤ e.1 := by decide
  rw [List.find?_eq_none.mpr (fun e he => by
    have := h1 e he
    have h2 : (e.1 == y) = false := by simp; omega
    simp [h2])]
  rfl
theorem cont_x {d y pc nx E : Nat} {ls st : List Value} {I : VI} {L : VL} {S : SW} {r : Res} (h : y < 285) (hE : E < 2) : cont true y pc nx ls st (evK d y r) r (.inr E, I, L, S) ↔ r = (.inr E, I, L, S) := by
  have h2 := mo_lt y h
  unfold cont
  dsimp only
  rw [hn_no h]
  simp [hE, h2]
theorem rng {v : Int32} {a b : Nat} (hb : b < 2147483648) (h : ¬ (v < i32 a ∨ i32 b < v)) (ha : a ≤ b) : ∃ k, a ≤ k ∧ k ≤ b ∧ v = i32 k := by
  rw [not_or, Int32.lt_iff_toInt_lt, Int32.lt_iff_toInt_lt, i_int hb, i_int (by omega)] at h
  refine ⟨v.toInt.toNat, by omega, by omega, ?_⟩
  apply Int32.toInt_inj.mp
  rw [i_int (by omega)]
  omega
theorem rng2 {v : Int32} {a b : Nat} (hb : b < 2147483648) (ha : a ≤ b) (h : v < i32 a ∨ i32 b < v) : ¬ (¬ v < i32 a ∧ ¬ i32 b < v) := fun z => h.elim z.1 z.2
theorem c158 {d n : Nat} {I : VI} {L : VL} {S : SW} {r : Res} (hS : S.1 = W0 n) {v a b : Int32} : EvD (d + 1) 158 [.ref 16, .int v, .int a, .int b] I L S r ↔ r = (if v < a ∨ b < v then (.inr 0, u2 I 16 15 (I 16 15 + i32 1), L, bump S) else (.inl none, I, L, S)) := by
  by_cases h1 : v < a
  · simp (disch := first | assumption | omega) only [in158, k158_0, k158_1, k158_2, k158_5, k158_6, k158_7, k158_10, k158_11, k158_11r, k158_12, k158_15, k158_16, k158_17, k158_20, k158_23, k158_23r, k158_31, c_1, hS, t_16, f_16_0, f_16_1, f_16_2, f_16_3, f_16_4, f_16_5, f_16_6, f_16_7, f_16_8, f_16_9, f_16_10, f_16_11, f_16_12, f_16_13, t_17, f_17_0, t_18, l_18, t_19, f_19_0, f_19_1, f_19_2, f_19_3, f_19_4, f_19_5, f_19_6, t_20, l_20, t_21, l_21, t_22, l_22, t_23, l_23, t_24, l_24, t_25, l_25, t_26, l_26, t_27, f_27_0, f_27_1, f_27_2, f_27_3, f_27_4, f_27_5, f_27_6, t_28, l_28, t_29, l_29, t_30, l_30, t_31, l_31, t_32, l_32, t_33, l_33, t_34, l_34, t_35, f_35_0, f_35_1, t_36, l_36, t_37, l_37, t_38, f_38_0, f_38_1, t_39, l_39, t_40, l_40, t_41, f_41_0, t_42, l_42, t_43, f_43_0, t_44, l_44, t_45, f_45_0, f_45_1, f_45_2, f_45_3, t_46, l_46, t_47, l_47, t_48, l_48, t_49, l_49, t_50, l_50, t_51, f_51_0, f_51_1, f_51_2, f_51_3, t_52, l_52, t_53, l_53, t_54, f_54_0, f_54_1, f_54_2, f_54_3, t_55, l_55, t_56, l_56, t_57, f_57_0, f_57_1, f_57_2, f_57_3, t_58, l_58, t_59, l_59, t_60, l_60, t_61, f_61_0, f_61_1, f_61_2, f_61_3, f_61_4, f_61_5, f_61_6, t_62, l_62, t_63, f_63_0, f_63_1, t_64, l_64, t_65, l_65, t_66, f_66_0, f_66_1, t_67, l_67, t_68, l_68, t_69, l_69, t_70, f_70_0, f_70_1, t_1, l_1, t_2, l_2, m_t, m_f0, m_f1, m_f2, m_f3, m_t1, m_l1, m_t2, m_l2, rowX_s, rowX_n, rowX_f, rowX_2, up_s, up_n, Nat.zero_add, n_m1, i_dec, cat_n, cat_i, cat_r, cat_l, i_add, i_tn, i_vi, i_lt, i_eq, i_shl, n_ltT, n_ltF, n_eqT, n_eqF, n_leT, t_and, nb_0, nb_1, b2_0, b2_n, cont_v, cont_n, ex_eq, u_s, u_c, u_j, reduceIte, ite_not, not_true_eq_false, not_false_eq_true, Bool.false_eq_true, Bool.true_eq_false, false_and, true_and, and_false, and_true, or_self, or_false, false_or, or_true, true_or, cont_x, h1, true_or]
  · by_cases h2 : b < v
    · simp (disch := first | assumption | omega) only [in158, k158_0, k158_1, k158_2, k158_5, k158_6, k158_7, k158_10, k158_11, k158_11r, k158_12, k158_15, k158_16, k158_17, k158_20, k158_23, k158_23r, k158_31, c_1, hS, t_16, f_16_0, f_16_1, f_16_2, f_16_3, f_16_4, f_16_5, f_16_6, f_16_7, f_16_8, f_16_9, f_16_10, f_16_11, f_16_12, f_16_13, t_17, f_17_0, t_18, l_18, t_19, f_19_0, f_19_1, f_19_2, f_19_3, f_19_4, f_19_5, f_19_6, t_20, l_20, t_21, l_21, t_22, l_22, t_23, l_23, t_24, l_24, t_25, l_25, t_26, l_26, t_27, f_27_0, f_27_1, f_27_2, f_27_3, f_27_4, f_27_5, f_27_6, t_28, l_28, t_29, l_29, t_30, l_30, t_31, l_31, t_32, l_32, t_33, l_33, t_34, l_34, t_35, f_35_0, f_35_1, t_36, l_36, t_37, l_37, t_38, f_38_0, f_38_1, t_39, l_39, t_40, l_40, t_41, f_41_0, t_42, l_42, t_43, f_43_0, t_44, l_44, t_45, f_45_0, f_45_1, f_45_2, f_45_3, t_46, l_46, t_47, l_47, t_48, l_48, t_49, l_49, t_50, l_50, t_51, f_51_0, f_51_1, f_51_2, f_51_3, t_52, l_52, t_53, l_53, t_54, f_54_0, f_54_1, f_54_2, f_54_3, t_55, l_55, t_56, l_56, t_57, f_57_0, f_57_1, f_57_2, f_57_3, t_58, l_58, t_59, l_59, t_60, l_60, t_61, f_61_0, f_61_1, f_61_2, f_61_3, f_61_4, f_61_5, f_61_6, t_62, l_62, t_63, f_63_0, f_63_1, t_64, l_64, t_65, l_65, t_66, f_66_0, f_66_1, t_67, l_67, t_68, l_68, t_69, l_69, t_70, f_70_0, f_70_1, t_1, l_1, t_2, l_2, m_t, m_f0, m_f1, m_f2, m_f3, m_t1, m_l1, m_t2, m_l2, rowX_s, rowX_n, rowX_f, rowX_2, up_s, up_n, Nat.zero_add, n_m1, i_dec, cat_n, cat_i, cat_r, cat_l, i_add, i_tn, i_vi, i_lt, i_eq, i_shl, n_ltT, n_ltF, n_eqT, n_eqF, n_leT, t_and, nb_0, nb_1, b2_0, b2_n, cont_v, cont_n, ex_eq, u_s, u_c, u_j, reduceIte, ite_not, not_true_eq_false, not_false_eq_true, Bool.false_eq_true, Bool.true_eq_false, false_and, true_and, and_false, and_true, or_self, or_false, false_or, or_true, true_or, cont_x, h1, h2, or_true]
    · simp (disch := first | assumption | omega) only [in158, k158_0, k158_1, k158_2, k158_5, k158_6, k158_7, k158_10, k158_11, k158_11r, k158_12, k158_15, k158_16, k158_17, k158_20, k158_23, k158_23r, k158_31, c_1, hS, t_16, f_16_0, f_16_1, f_16_2, f_16_3, f_16_4, f_16_5, f_16_6, f_16_7, f_16_8, f_16_9, f_16_10, f_16_11, f_16_12, f_16_13, t_17, f_17_0, t_18, l_18, t_19, f_19_0, f_19_1, f_19_2, f_19_3, f_19_4, f_19_5, f_19_6, t_20, l_20, t_21, l_21, t_22, l_22, t_23, l_23, t_24, l_24, t_25, l_25, t_26, l_26, t_27, f_27_0, f_27_1, f_27_2, f_27_3, f_27_4, f_27_5, f_27_6, t_28, l_28, t_29, l_29, t_30, l_30, t_31, l_31, t_32, l_32, t_33, l_33, t_34, l_34, t_35, f_35_0, f_35_1, t_36, l_36, t_37, l_37, t_38, f_38_0, f_38_1, t_39, l_39, t_40, l_40, t_41, f_41_0, t_42, l_42, t_43, f_43_0, t_44, l_44, t_45, f_45_0, f_45_1, f_45_2, f_45_3, t_46, l_46, t_47, l_47, t_48, l_48, t_49, l_49, t_50, l_50, t_51, f_51_0, f_51_1, f_51_2, f_51_3, t_52, l_52, t_53, l_53, t_54, f_54_0, f_54_1, f_54_2, f_54_3, t_55, l_55, t_56, l_56, t_57, f_57_0, f_57_1, f_57_2, f_57_3, t_58, l_58, t_59, l_59, t_60, l_60, t_61, f_61_0, f_61_1, f_61_2, f_61_3, f_61_4, f_61_5, f_61_6, t_62, l_62, t_63, f_63_0, f_63_1, t_64, l_64, t_65, l_65, t_66, f_66_0, f_66_1, t_67, l_67, t_68, l_68, t_69, l_69, t_70, f_70_0, f_70_1, t_1, l_1, t_2, l_2, m_t, m_f0, m_f1, m_f2, m_f3, m_t1, m_l1, m_t2, m_l2, rowX_s, rowX_n, rowX_f, rowX_2, up_s, up_n, Nat.zero_add, n_m1, i_dec, cat_n, cat_i, cat_r, cat_l, i_add, i_tn, i_vi, i_lt, i_eq, i_shl, n_ltT, n_ltF, n_eqT, n_eqF, n_leT, t_and, nb_0, nb_1, b2_0, b2_n, cont_v, cont_n, ex_eq, u_s, u_c, u_j, reduceIte, ite_not, not_true_eq_false, not_false_eq_true, Bool.false_eq_true, Bool.true_eq_false, false_and, true_and, and_false, and_true, or_self, or_false, false_or, or_true, true_or, cont_x, h1, h2, or_self]
theorem c160 {d n : Nat} {I : VI} {L : VL} {S : SW} {r : Res} (hS : S.1 = W0 n) {v : Int32} : EvD (d + 1) 160 [.ref 16, .int v] I L S r ↔ r = (if v < i32 0 ∨ ¬ v < I 19 7 then (.inr 1, u2 I 16 14 (I 16 14 + i32 1), L, bump S) else (.inl none, I, L, S)) := by
  by_cases h1 : v < i32 0
  · simp (disch := first | assumption | omega) only [in160, k160_0, k160_1, k160_4, k160_5, k160_6, k160_9, k160_12, k160_15, k160_16, k160_16r, k160_17, k160_20, k160_21, k160_22, k160_25, k160_28, k160_28r, k160_36, c_0, c_1, hS, t_16, f_16_0, f_16_1, f_16_2, f_16_3, f_16_4, f_16_5, f_16_6, f_16_7, f_16_8, f_16_9, f_16_10, f_16_11, f_16_12, f_16_13, t_17, f_17_0, t_18, l_18, t_19, f_19_0, f_19_1, f_19_2, f_19_3, f_19_4, f_19_5, f_19_6, t_20, l_20, t_21, l_21, t_22, l_22, t_23, l_23, t_24, l_24, t_25, l_25, t_26, l_26, t_27, f_27_0, f_27_1, f_27_2, f_27_3, f_27_4, f_27_5, f_27_6, t_28, l_28, t_29, l_29, t_30, l_30, t_31, l_31, t_32, l_32, t_33, l_33, t_34, l_34, t_35, f_35_0, f_35_1, t_36, l_36, t_37, l_37, t_38, f_38_0, f_38_1, t_39, l_39, t_40, l_40, t_41, f_41_0, t_42, l_42, t_43, f_43_0, t_44, l_44, t_45, f_45_0, f_45_1, f_45_2, f_45_3, t_46, l_46, t_47, l_47, t_48, l_48, t_49, l_49, t_50, l_50, t_51, f_51_0, f_51_1, f_51_2, f_51_3, t_52, l_52, t_53, l_53, t_54, f_54_0, f_54_1, f_54_2, f_54_3, t_55, l_55, t_56, l_56, t_57, f_57_0, f_57_1, f_57_2, f_57_3, t_58, l_58, t_59, l_59, t_60, l_60, t_61, f_61_0, f_61_1, f_61_2, f_61_3, f_61_4, f_61_5, f_61_6, t_62, l_62, t_63, f_63_0, f_63_1, t_64, l_64, t_65, l_65, t_66, f_66_0, f_66_1, t_67, l_67, t_68, l_68, t_69, l_69, t_70, f_70_0, f_70_1, t_1, l_1, t_2, l_2, m_t, m_f0, m_f1, m_f2, m_f3, m_t1, m_l1, m_t2, m_l2, rowX_s, rowX_n, rowX_f, rowX_2, up_s, up_n, Nat.zero_add, n_m1, i_dec, cat_n, cat_i, cat_r, cat_l, i_add, i_tn, i_vi, i_lt, i_eq, i_shl, n_ltT, n_ltF, n_eqT, n_eqF, n_leT, t_and, nb_0, nb_1, b2_0, b2_n, cont_v, cont_n, ex_eq, u_s, u_c, u_j, reduceIte, ite_not, not_true_eq_false, not_false_eq_true, Bool.false_eq_true, Bool.true_eq_false, false_and, true_and, and_false, and_true, or_self, or_false, false_or, or_true, true_or, cont_x, h1, true_or]
  · by_cases h2 : v < I 19 7
    · simp (disch := first | assumption | omega) only [in160, k160_0, k160_1, k160_4, k160_5, k160_6, k160_9, k160_12, k160_15, k160_16, k160_16r, k160_17, k160_20, k160_21, k160_22, k160_25, k160_28, k160_28r, k160_36, c_0, c_1, hS, t_16, f_16_0, f_16_1, f_16_2, f_16_3, f_16_4, f_16_5, f_16_6, f_16_7, f_16_8, f_16_9, f_16_10, f_16_11, f_16_12, f_16_13, t_17, f_17_0, t_18, l_18, t_19, f_19_0, f_19_1, f_19_2, f_19_3, f_19_4, f_19_5, f_19_6, t_20, l_20, t_21, l_21, t_22, l_22, t_23, l_23, t_24, l_24, t_25, l_25, t_26, l_26, t_27, f_27_0, f_27_1, f_27_2, f_27_3, f_27_4, f_27_5, f_27_6, t_28, l_28, t_29, l_29, t_30, l_30, t_31, l_31, t_32, l_32, t_33, l_33, t_34, l_34, t_35, f_35_0, f_35_1, t_36, l_36, t_37, l_37, t_38, f_38_0, f_38_1, t_39, l_39, t_40, l_40, t_41, f_41_0, t_42, l_42, t_43, f_43_0, t_44, l_44, t_45, f_45_0, f_45_1, f_45_2, f_45_3, t_46, l_46, t_47, l_47, t_48, l_48, t_49, l_49, t_50, l_50, t_51, f_51_0, f_51_1, f_51_2, f_51_3, t_52, l_52, t_53, l_53, t_54, f_54_0, f_54_1, f_54_2, f_54_3, t_55, l_55, t_56, l_56, t_57, f_57_0, f_57_1, f_57_2, f_57_3, t_58, l_58, t_59, l_59, t_60, l_60, t_61, f_61_0, f_61_1, f_61_2, f_61_3, f_61_4, f_61_5, f_61_6, t_62, l_62, t_63, f_63_0, f_63_1, t_64, l_64, t_65, l_65, t_66, f_66_0, f_66_1, t_67, l_67, t_68, l_68, t_69, l_69, t_70, f_70_0, f_70_1, t_1, l_1, t_2, l_2, m_t, m_f0, m_f1, m_f2, m_f3, m_t1, m_l1, m_t2, m_l2, rowX_s, rowX_n, rowX_f, rowX_2, up_s, up_n, Nat.zero_add, n_m1, i_dec, cat_n, cat_i, cat_r, cat_l, i_add, i_tn, i_vi, i_lt, i_eq, i_shl, n_ltT, n_ltF, n_eqT, n_eqF, n_leT, t_and, nb_0, nb_1, b2_0, b2_n, cont_v, cont_n, ex_eq, u_s, u_c, u_j, reduceIte, ite_not, not_true_eq_false, not_false_eq_true, Bool.false_eq_true, Bool.true_eq_false, false_and, true_and, and_false, and_true, or_self, or_false, false_or, or_true, true_or, cont_x, h1, h2, or_self]
    · simp (disch := first | assumption | omega) only [in160, k160_0, k160_1, k160_4, k160_5, k160_6, k160_9, k160_12, k160_15, k160_16, k160_16r, k160_17, k160_20, k160_21, k160_22, k160_25, k160_28, k160_28r, k160_36, c_0, c_1, hS, t_16, f_16_0, f_16_1, f_16_2, f_16_3, f_16_4, f_16_5, f_16_6, f_16_7, f_16_8, f_16_9, f_16_10, f_16_11, f_16_12, f_16_13, t_17, f_17_0, t_18, l_18, t_19, f_19_0, f_19_1, f_19_2, f_19_3, f_19_4, f_19_5, f_19_6, t_20, l_20, t_21, l_21, t_22, l_22, t_23, l_23, t_24, l_24, t_25, l_25, t_26, l_26, t_27, f_27_0, f_27_1, f_27_2, f_27_3, f_27_4, f_27_5, f_27_6, t_28, l_28, t_29, l_29, t_30, l_30, t_31, l_31, t_32, l_32, t_33, l_33, t_34, l_34, t_35, f_35_0, f_35_1, t_36, l_36, t_37, l_37, t_38, f_38_0, f_38_1, t_39, l_39, t_40, l_40, t_41, f_41_0, t_42, l_42, t_43, f_43_0, t_44, l_44, t_45, f_45_0, f_45_1, f_45_2, f_45_3, t_46, l_46, t_47, l_47, t_48, l_48, t_49, l_49, t_50, l_50, t_51, f_51_0, f_51_1, f_51_2, f_51_3, t_52, l_52, t_53, l_53, t_54, f_54_0, f_54_1, f_54_2, f_54_3, t_55, l_55, t_56, l_56, t_57, f_57_0, f_57_1, f_57_2, f_57_3, t_58, l_58, t_59, l_59, t_60, l_60, t_61, f_61_0, f_61_1, f_61_2, f_61_3, f_61_4, f_61_5, f_61_6, t_62, l_62, t_63, f_63_0, f_63_1, t_64, l_64, t_65, l_65, t_66, f_66_0, f_66_1, t_67, l_67, t_68, l_68, t_69, l_69, t_70, f_70_0, f_70_1, t_1, l_1, t_2, l_2, m_t, m_f0, m_f1, m_f2, m_f3, m_t1, m_l1, m_t2, m_l2, rowX_s, rowX_n, rowX_f, rowX_2, up_s, up_n, Nat.zero_add, n_m1, i_dec, cat_n, cat_i, cat_r, cat_l, i_add, i_tn, i_vi, i_lt, i_eq, i_shl, n_ltT, n_ltF, n_eqT, n_eqF, n_leT, t_and, nb_0, nb_1, b2_0, b2_n, cont_v, cont_n, ex_eq, u_s, u_c, u_j, reduceIte, ite_not, not_true_eq_false, not_false_eq_true, Bool.false_eq_true, Bool.true_eq_false, false_and, true_and, and_false, and_true, or_self, or_false, false_or, or_true, true_or, cont_x, h1, h2, or_true]
theorem c161 {d n : Nat} {I : VI} {L : VL} {S : SW} {r : Res} (hS : S.1 = W0 n) {v : Int32} : EvD (d + 1) 161 [.ref 16, .int v] I L S r ↔ r = (if v < i32 0 ∨ ¬ v < I 19 8 then (.inr 1, u2 I 16 14 (I 16 14 + i32 1), L, bump S) else (.inl none, I, L, S)) := by
  by_cases h1 : v < i32 0
  · simp (disch := first | assumption | omega) only [in161, k161_0, k161_1, k161_4, k161_5, k161_6, k161_9, k161_12, k161_15, k161_16, k161_16r, k161_17, k161_20, k161_21, k161_22, k161_25, k161_28, k161_28r, k161_36, c_0, c_1, hS, t_16, f_16_0, f_16_1, f_16_2, f_16_3, f_16_4, f_16_5, f_16_6, f_16_7, f_16_8, f_16_9, f_16_10, f_16_11, f_16_12, f_16_13, t_17, f_17_0, t_18, l_18, t_19, f_19_0, f_19_1, f_19_2, f_19_3, f_19_4, f_19_5, f_19_6, t_20, l_20, t_21, l_21, t_22, l_22, t_23, l_23, t_24, l_24, t_25, l_25, t_26, l_26, t_27, f_27_0, f_27_1, f_27_2, f_27_3, f_27_4, f_27_5, f_27_6, t_28, l_28, t_29, l_29, t_30, l_30, t_31, l_31, t_32, l_32, t_33, l_33, t_34, l_34, t_35, f_35_0, f_35_1, t_36, l_36, t_37, l_37, t_38, f_38_0, f_38_1, t_39, l_39, t_40, l_40, t_41, f_41_0, t_42, l_42, t_43, f_43_0, t_44, l_44, t_45, f_45_0, f_45_1, f_45_2, f_45_3, t_46, l_46, t_47, l_47, t_48, l_48, t_49, l_49, t_50, l_50, t_51, f_51_0, f_51_1, f_51_2, f_51_3, t_52, l_52, t_53, l_53, t_54, f_54_0, f_54_1, f_54_2, f_54_3, t_55, l_55, t_56, l_56, t_57, f_57_0, f_57_1, f_57_2, f_57_3, t_58, l_58, t_59, l_59, t_60, l_60, t_61, f_61_0, f_61_1, f_61_2, f_61_3, f_61_4, f_61_5, f_61_6, t_62, l_62, t_63, f_63_0, f_63_1, t_64, l_64, t_65, l_65, t_66, f_66_0, f_66_1, t_67, l_67, t_68, l_68, t_69, l_69, t_70, f_70_0, f_70_1, t_1, l_1, t_2, l_2, m_t, m_f0, m_f1, m_f2, m_f3, m_t1, m_l1, m_t2, m_l2, rowX_s, rowX_n, rowX_f, rowX_2, up_s, up_n, Nat.zero_add, n_m1, i_dec, cat_n, cat_i, cat_r, cat_l, i_add, i_tn, i_vi, i_lt, i_eq, i_shl, n_ltT, n_ltF, n_eqT, n_eqF, n_leT, t_and, nb_0, nb_1, b2_0, b2_n, cont_v, cont_n, ex_eq, u_s, u_c, u_j, reduceIte, ite_not, not_true_eq_false, not_false_eq_true, Bool.false_eq_true, Bool.true_eq_false, false_and, true_and, and_false, and_true, or_self, or_false, false_or, or_true, true_or, cont_x, h1, true_or]
  · by_cases h2 : v < I 19 8
    · simp (disch := first | assumption | omega) only [in161, k161_0, k161_1, k161_4, k161_5, k161_6, k161_9, k161_12, k161_15, k161_16, k161_16r, k161_17, k161_20, k161_21, k161_22, k161_25, k161_28, k161_28r, k161_36, c_0, c_1, hS, t_16, f_16_0, f_16_1, f_16_2, f_16_3, f_16_4, f_16_5, f_16_6, f_16_7, f_16_8, f_16_9, f_16_10, f_16_11, f_16_12, f_16_13, t_17, f_17_0, t_18, l_18, t_19, f_19_0, f_19_1, f_19_2, f_19_3, f_19_4, f_19_5, f_19_6, t_20, l_20, t_21, l_21, t_22, l_22, t_23, l_23, t_24, l_24, t_25, l_25, t_26, l_26, t_27, f_27_0, f_27_1, f_27_2, f_27_3, f_27_4, f_27_5, f_27_6, t_28, l_28, t_29, l_29, t_30, l_30, t_31, l_31, t_32, l_32, t_33, l_33, t_34, l_34, t_35, f_35_0, f_35_1, t_36, l_36, t_37, l_37, t_38, f_38_0, f_38_1, t_39, l_39, t_40, l_40, t_41, f_41_0, t_42, l_42, t_43, f_43_0, t_44, l_44, t_45, f_45_0, f_45_1, f_45_2, f_45_3, t_46, l_46, t_47, l_47, t_48, l_48, t_49, l_49, t_50, l_50, t_51, f_51_0, f_51_1, f_51_2, f_51_3, t_52, l_52, t_53, l_53, t_54, f_54_0, f_54_1, f_54_2, f_54_3, t_55, l_55, t_56, l_56, t_57, f_57_0, f_57_1, f_57_2, f_57_3, t_58, l_58, t_59, l_59, t_60, l_60, t_61, f_61_0, f_61_1, f_61_2, f_61_3, f_61_4, f_61_5, f_61_6, t_62, l_62, t_63, f_63_0, f_63_1, t_64, l_64, t_65, l_65, t_66, f_66_0, f_66_1, t_67, l_67, t_68, l_68, t_69, l_69, t_70, f_70_0, f_70_1, t_1, l_1, t_2, l_2, m_t, m_f0, m_f1, m_f2, m_f3, m_t1, m_l1, m_t2, m_l2, rowX_s, rowX_n, rowX_f, rowX_2, up_s, up_n, Nat.zero_add, n_m1, i_dec, cat_n, cat_i, cat_r, cat_l, i_add, i_tn, i_vi, i_lt, i_eq, i_shl, n_ltT, n_ltF, n_eqT, n_eqF, n_leT, t_and, nb_0, nb_1, b2_0, b2_n, cont_v, cont_n, ex_eq, u_s, u_c, u_j, reduceIte, ite_not, not_true_eq_false, not_false_eq_true, Bool.false_eq_true, Bool.true_eq_false, false_and, true_and, and_false, and_true, or_self, or_false, false_or, or_true, true_or, cont_x, h1, h2, or_self]
    · simp (disch := first | assumption | omega) only [in161, k161_0, k161_1, k161_4, k161_5, k161_6, k161_9, k161_12, k161_15, k161_16, k161_16r, k161_17, k161_20, k161_21, k161_22, k161_25, k161_28, k161_28r, k161_36, c_0, c_1, hS, t_16, f_16_0, f_16_1, f_16_2, f_16_3, f_16_4, f_16_5, f_16_6, f_16_7, f_16_8, f_16_9, f_16_10, f_16_11, f_16_12, f_16_13, t_17, f_17_0, t_18, l_18, t_19, f_19_0, f_19_1, f_19_2, f_19_3, f_19_4, f_19_5, f_19_6, t_20, l_20, t_21, l_21, t_22, l_22, t_23, l_23, t_24, l_24, t_25, l_25, t_26, l_26, t_27, f_27_0, f_27_1, f_27_2, f_27_3, f_27_4, f_27_5, f_27_6, t_28, l_28, t_29, l_29, t_30, l_30, t_31, l_31, t_32, l_32, t_33, l_33, t_34, l_34, t_35, f_35_0, f_35_1, t_36, l_36, t_37, l_37, t_38, f_38_0, f_38_1, t_39, l_39, t_40, l_40, t_41, f_41_0, t_42, l_42, t_43, f_43_0, t_44, l_44, t_45, f_45_0, f_45_1, f_45_2, f_45_3, t_46, l_46, t_47, l_47, t_48, l_48, t_49, l_49, t_50, l_50, t_51, f_51_0, f_51_1, f_51_2, f_51_3, t_52, l_52, t_53, l_53, t_54, f_54_0, f_54_1, f_54_2, f_54_3, t_55, l_55, t_56, l_56, t_57, f_57_0, f_57_1, f_57_2, f_57_3, t_58, l_58, t_59, l_59, t_60, l_60, t_61, f_61_0, f_61_1, f_61_2, f_61_3, f_61_4, f_61_5, f_61_6, t_62, l_62, t_63, f_63_0, f_63_1, t_64, l_64, t_65, l_65, t_66, f_66_0, f_66_1, t_67, l_67, t_68, l_68, t_69, l_69, t_70, f_70_0, f_70_1, t_1, l_1, t_2, l_2, m_t, m_f0, m_f1, m_f2, m_f3, m_t1, m_l1, m_t2, m_l2, rowX_s, rowX_n, rowX_f, rowX_2, up_s, up_n, Nat.zero_add, n_m1, i_dec, cat_n, cat_i, cat_r, cat_l, i_add, i_tn, i_vi, i_lt, i_eq, i_shl, n_ltT, n_ltF, n_eqT, n_eqF, n_leT, t_and, nb_0, nb_1, b2_0, b2_n, cont_v, cont_n, ex_eq, u_s, u_c, u_j, reduceIte, ite_not, not_true_eq_false, not_false_eq_true, Bool.false_eq_true, Bool.true_eq_false, false_and, true_and, and_false, and_true, or_self, or_false, false_or, or_true, true_or, cont_x, h1, h2, or_true]
theorem d169f {d n : Nat} {I : VI} {L : VL} {S : SW} {r : Res} (hS : S.1 = W0 n) {w k : Int32} (h0 : I 71 0 = i32 0) : EvD (d + 1) 169 [.ref 71, .int (i32 0), .int w, .int k] I L S r ↔ r = (.inl (some (.int (i32 0))), I, L, S) := by
  simp (disch := first | assumption | omega) only [in169, k169_0, k169_1, k169_4, k169_5, k169_8, k169_11, k169_12, k169_13, k169_16, k169_17, k169_20, k169_21, k169_22, k169_23, k169_24, k169_25, k169_26, k169_27, k169_30, k169_33, k169_34, k169_37, k169_38, c_0, c_1, hS, t_71, f_71_9, f_71_10, f_71_11, f_71_12, f_71_13, f_71_14, f_71_15, f_71_16, f_71_17, f_71_20, f_71_21, f_71_22, f_71_23, f_71_24, f_71_25, f_71_26, f_71_28, f_71_29, f_71_30, f_71_31, f_71_32, f_71_40, f_71_41, t_72, l_72, t_73, l_73, t_74, l_74, t_75, l_75, t_76, l_76, t_77, l_77, t_84, l_84, t_91, l_91, t_104, l_104, t_117, l_117, t_278, l_278, t_439, l_439, t_446, l_446, t_453, l_453, t_454, l_454, t_455, l_455, t_536, l_536, t_537, l_537, t_538, l_538, t_539, l_539, t_556, l_556, t_560, l_560, t_561, l_561, f_77, t_78, l_78, f_84, t_85, l_85, f_91, t_92, l_92, f_104, t_105, l_105, f_117, t_118, l_118, f_278, t_279, l_279, f_439, t_440, l_440, f_446, t_447, l_447, f_455, t_456, l_456, f_539, t_540, l_540, f_556, t_557, l_557, w_t, w_l, rowX_s, rowX_n, rowX_f, rowX_2, up_s, up_n, Nat.zero_add, n_m1, i_dec, cat_n, cat_i, cat_r, cat_l, i_add, i_tn, i_vi, i_lt, i_eq, i_shl, n_ltT, n_ltF, n_eqT, n_eqF, n_leT, t_and, nb_0, nb_1, b2_0, b2_n, cont_v, cont_n, ex_eq, u_s, u_c, u_j, reduceIte, ite_not, not_true_eq_false, not_false_eq_true, Bool.false_eq_true, Bool.true_eq_false, false_and, true_and, and_false, and_true, or_self, or_false, false_or, or_true, true_or, cont_x, h0]
theorem d169t {d n : Nat} {I : VI} {L : VL} {S : SW} {r : Res} (hS : S.1 = W0 n) {w k : Nat} (h0 : I 71 0 = i32 0) (hw : 0 < w) (hw9 : w < 9) (hk : k < 2) : EvD (d + 1) 169 [.ref 71, .int (i32 1), .int (i32 w), .int (i32 k)] I L S r ↔ r = (.inl (some (.int (i32 1))), u2 (u2 I 71 0 (i32 w)) 73 k (I 73 k + i32 1), L, S) := by
  simp (disch := first | assumption | omega) only [in169, k169_0, k169_1, k169_4, k169_5, k169_8, k169_11, k169_12, k169_13, k169_16, k169_17, k169_20, k169_21, k169_22, k169_23, k169_24, k169_25, k169_26, k169_27, k169_30, k169_33, k169_34, k169_37, k169_38, c_0, c_1, hS, t_71, f_71_9, f_71_10, f_71_11, f_71_12, f_71_13, f_71_14, f_71_15, f_71_16, f_71_17, f_71_20, f_71_21, f_71_22, f_71_23, f_71_24, f_71_25, f_71_26, f_71_28, f_71_29, f_71_30, f_71_31, f_71_32, f_71_40, f_71_41, t_72, l_72, t_73, l_73, t_74, l_74, t_75, l_75, t_76, l_76, t_77, l_77, t_84, l_84, t_91, l_91, t_104, l_104, t_117, l_117, t_278, l_278, t_439, l_439, t_446, l_446, t_453, l_453, t_454, l_454, t_455, l_455, t_536, l_536, t_537, l_537, t_538, l_538, t_539, l_539, t_556, l_556, t_560, l_560, t_561, l_561, f_77, t_78, l_78, f_84, t_85, l_85, f_91, t_92, l_92, f_104, t_105, l_105, f_117, t_118, l_118, f_278, t_279, l_279, f_439, t_440, l_440, f_446, t_447, l_447, f_455, t_456, l_456, f_539, t_540, l_540, f_556, t_557, l_557, w_t, w_l, rowX_s, rowX_n, rowX_f, rowX_2, up_s, up_n, Nat.zero_add, n_m1, i_dec, cat_n, cat_i, cat_r, cat_l, i_add, i_tn, i_vi, i_lt, i_eq, i_shl, n_ltT, n_ltF, n_eqT, n_eqF, n_leT, t_and, nb_0, nb_1, b2_0, b2_n, cont_v, cont_n, ex_eq, u_s, u_c, u_j, reduceIte, ite_not, not_true_eq_false, not_false_eq_true, Bool.false_eq_true, Bool.true_eq_false, false_and, true_and, and_false, and_true, or_self, or_false, false_or, or_true, true_or, cont_x, h0]
theorem d168 {d n : Nat} {I : VI} {L : VL} {S : SW} {r : Res} (hS : S.1 = W0 n) : EvD (d + 1) 168 [.ref 71] I L S r ↔ r = (.inl (some (.int (I 71 0))), I, L, S) := by
  simp (disch := first | assumption | omega) only [in168, k168_0, k168_1, k168_4, hS, t_71, f_71_9, f_71_10, f_71_11, f_71_12, f_71_13, f_71_14, f_71_15, f_71_16, f_71_17, f_71_20, f_71_21, f_71_22, f_71_23, f_71_24, f_71_25, f_71_26, f_71_28, f_71_29, f_71_30, f_71_31, f_71_32, f_71_40, f_71_41, t_72, l_72, t_73, l_73, t_74, l_74, t_75, l_75, t_76, l_76, t_77, l_77, t_84, l_84, t_91, l_91, t_104, l_104, t_117, l_117, t_278, l_278, t_439, l_439, t_446, l_446, t_453, l_453, t_454, l_454, t_455, l_455, t_536, l_536, t_537, l_537, t_538, l_538, t_539, l_539, t_556, l_556, t_560, l_560, t_561, l_561, f_77, t_78, l_78, f_84, t_85, l_85, f_91, t_92, l_92, f_104, t_105, l_105, f_117, t_118, l_118, f_278, t_279, l_279, f_439, t_440, l_440, f_446, t_447, l_447, f_455, t_456, l_456, f_539, t_540, l_540, f_556, t_557, l_557, w_t, w_l, rowX_s, rowX_n, rowX_f, rowX_2, up_s, up_n, Nat.zero_add, n_m1, i_dec, cat_n, cat_i, cat_r, cat_l, i_add, i_tn, i_vi, i_lt, i_eq, i_shl, n_ltT, n_ltF, n_eqT, n_eqF, n_leT, t_and, nb_0, nb_1, b2_0, b2_n, cont_v, cont_n, ex_eq, u_s, u_c, u_j, reduceIte, ite_not, not_true_eq_false, not_false_eq_true, Bool.false_eq_true, Bool.true_eq_false, false_and, true_and, and_false, and_true, or_self, or_false, false_or, or_true, true_or, cont_x]
