/-! WHAT IS DONE TO THE ONE ROW IS DONE TO THE OTHER: grinding, swelling, rain, giving -/
theorem bits_rem {nd k : Nat} {p : Nat → Bool} (h12 : nd ≤ 31) : i32 (bitsN nd p) &&& (i32 (2 ^ k) ^^^ m1) = i32 (bitsN nd (fun j => p j && decide (j ≠ k))) := by
  apply Int32.toBitVec_inj.mp
  apply BitVec.eq_of_getLsbD_eq
  intro j hj
  have e2 : m1.toBitVec.getLsbD j = true := (by decide : ∀ k < 32, m1.toBitVec.getLsbD k = true) j hj
  rw [Int32.toBitVec_and, Int32.toBitVec_xor, i_bv, i_bv, i_bv, BitVec.getLsbD_and, BitVec.getLsbD_xor, BitVec.getLsbD_ofNat, BitVec.getLsbD_ofNat, BitVec.getLsbD_ofNat, e2, bits_test, bits_test, Nat.testBit_two_pow]
  by_cases e : k = j
  · subst e; simp; intro h _ _; exact h
  · have e' : ¬ j = k := fun z => e z.symm
    simp [e, e', hj]
section Rows
variable {nh nd D : Nat} {f g : Nat → Int32}
theorem remC_n {k j : Nat} (h : j ≠ 2 ∧ j ≠ 21 + k ∧ j ≠ 33 + k) : remC f k j = f j := by unfold remC; rw [up_n h.2.2, up_n h.2.1, up_n h.1]
theorem remM_n {k j : Nat} (h : j ≠ k ∧ j ≠ 12 + k) : remM g k j = g j := by unfold remM; rw [up_n h.2, up_n h.1]
theorem rw_rem (h : Rw nh nd D f g) (h6 : nh ≤ 6) (h12 : nd ≤ 12) {k : Nat} (hk : k < nd) : Rw nh nd D (remC f k) (remM g k) := by
  obtain ⟨⟨h0, h1, h2⟩, hH, hK, ⟨y, hy, hy2, hage⟩, hwa, hcr, hwe⟩ := h
  have cw : remC f k (21 + k) = i32 0 := by unfold remC; rw [up_n (by omega), up_s]
  have ca : remC f k (33 + k) = i32 0 := by unfold remC; rw [up_s]
  have mw : remM g k k = i32 0 := by unfold remM; rw [up_n (by omega), up_s]
  have ma : remM g k (12 + k) = i32 0 := by unfold remM; rw [up_s]
  refine ⟨⟨?_, ?_, ?_⟩, fun i hi => ?_, fun j hj => ?_, ⟨y, hy, ?_, fun j hj => ?_⟩, ?_, fun i hi => ?_, fun j hj => ?_⟩
  · rw [remC_n (by omega), remM_n (by omega)]; exact h0
  · rw [remC_n (by omega), remM_n (by omega)]; exact h1
  · have c2 : remC f k 2 = f 2 &&& (i32 (2 ^ k) ^^^ m1) := by unfold remC; rw [up_n (by omega), up_n (by omega), up_s]
    rw [c2, h2, bits_rem (by omega)]
    congr 1
    refine bits_congr fun j hj => ?_
    by_cases e : j = k
    · subst e
      unfold thr
      dsimp only
      simp only [cw]
      simp [hj]
    · unfold thr
      have e9 : remC f k (21 + j) = f (21 + j) := remC_n (by omega)
      simp only [e9]
      simp [e]
  · rw [remC_n (by omega), remC_n (by omega), remC_n (by omega), remM_n (by omega), remM_n (by omega), remM_n (by omega)]; exact hH i hi
  · by_cases e : j = k
    · subst e; exact ⟨cw.trans mw.symm, ca.trans ma.symm⟩
    · rw [remC_n (by omega), remC_n (by omega), remM_n (by omega), remM_n (by omega)]; exact hK j hj
  · rw [remM_n (by omega)]; exact hy2
  · by_cases e : j = k
    · subst e; exact ⟨0, by omega, ma, fun _ => rfl⟩
    · rw [remM_n (by omega), remM_n (by omega)]; exact hage j hj
  · rw [remM_n (by omega)]; exact hwa
  · rw [remM_n (by omega), remM_n (by omega)]; exact hcr i hi
  · by_cases e : j = k
    · subst e; exact ⟨0, by omega, mw⟩
    · rw [remM_n (by omega)]; exact hwe j hj
/-- a change of crock, of what came, of water -/
theorem rw_cr (h : Rw nh nd D f g) (h6 : nh ≤ 6) (h12 : nd ≤ 12) {a c : Nat} (ha : a < nh) (hc : c ≤ 999) : Rw nh nd D (updF f (3 + a) (i32 c)) (updF g (24 + a) (i32 c)) := by
  have et : thr nd (fun d => updF f (3 + a) (i32 c) (21 + d)) = thr nd (fun d => f (21 + d)) := thr_congr fun k hk => up_n (by omega)
  obtain ⟨⟨h0, h1, h2⟩, hH, hK, ⟨y, hy, hy2, hage⟩, hwa, hcr, hwe⟩ := h
  refine ⟨⟨?_, ?_, ?_⟩, fun i hi => ?_, fun j hj => ?_, ⟨y, hy, ?_, fun j hj => ?_⟩, ?_, fun i hi => ?_, fun j hj => ?_⟩
  · rw [up_n (by omega), up_n (by omega)]; exact h0
  · rw [up_n (by omega), up_n (by omega)]; exact h1
  · rw [up_n (by omega), et]; exact h2
  · by_cases e : i = a
    · subst e; rw [up_s, up_s, up_n (by omega), up_n (by omega), up_n (by omega), up_n (by omega)]; exact ⟨rfl, (hH i hi).2⟩
    · rw [up_n (by omega), up_n (by omega), up_n (by omega), up_n (by omega), up_n (by omega), up_n (by omega)]; exact hH i hi
  · rw [up_n (by omega), up_n (by omega), up_n (by omega), up_n (by omega)]; exact hK j hj
  · rw [up_n (by omega)]; exact hy2
  · rw [up_n (by omega), up_n (by omega)]; exact hage j hj
  · rw [up_n (by omega)]; exact hwa
  · by_cases e : i = a
    · subst e; rw [up_s, up_n (by omega)]; exact ⟨⟨c, hc, rfl⟩, (hcr i hi).2⟩
    · rw [up_n (by omega), up_n (by omega)]; exact hcr i hi
  · rw [up_n (by omega)]; exact hwe j hj
theorem rw_cm (h : Rw nh nd D f g) (h6 : nh ≤ 6) (h12 : nd ≤ 12) {a : Nat} {x : Int32} (ha : a < nh) : Rw nh nd D (updF f (15 + a) x) (updF g (36 + a) x) := by
  have et : thr nd (fun d => updF f (15 + a) x (21 + d)) = thr nd (fun d => f (21 + d)) := thr_congr fun k hk => up_n (by omega)
  obtain ⟨⟨h0, h1, h2⟩, hH, hK, ⟨y, hy, hy2, hage⟩, hwa, hcr, hwe⟩ := h
  refine ⟨⟨?_, ?_, ?_⟩, fun i hi => ?_, fun j hj => ?_, ⟨y, hy, ?_, fun j hj => ?_⟩, ?_, fun i hi => ?_, fun j hj => ?_⟩
  · rw [up_n (by omega), up_n (by omega)]; exact h0
  · rw [up_n (by omega), up_n (by omega)]; exact h1
  · rw [up_n (by omega), et]; exact h2
  · by_cases e : i = a
    · subst e; rw [up_s, up_s, up_n (by omega), up_n (by omega), up_n (by omega), up_n (by omega)]; exact ⟨(hH i hi).1, (hH i hi).2.1, rfl⟩
    · rw [up_n (by omega), up_n (by omega), up_n (by omega), up_n (by omega), up_n (by omega), up_n (by omega)]; exact hH i hi
  · rw [up_n (by omega), up_n (by omega), up_n (by omega), up_n (by omega)]; exact hK j hj
  · rw [up_n (by omega)]; exact hy2
  · rw [up_n (by omega), up_n (by omega)]; exact hage j hj
  · rw [up_n (by omega)]; exact hwa
  · rw [up_n (by omega), up_n (by omega)]; exact hcr i hi
  · rw [up_n (by omega)]; exact hwe j hj
theorem rw_wa (h : Rw nh nd D f g) (h6 : nh ≤ 6) (h12 : nd ≤ 12) {c : Nat} (hc : c ≤ 99) : Rw nh nd D (updF f 1 (i32 c)) (updF g 42 (i32 c)) := by
  have et : thr nd (fun d => updF f 1 (i32 c) (21 + d)) = thr nd (fun d => f (21 + d)) := thr_congr fun k hk => up_n (by omega)
  obtain ⟨⟨h0, h1, h2⟩, hH, hK, ⟨y, hy, hy2, hage⟩, hwa, hcr, hwe⟩ := h
  refine ⟨⟨?_, ?_, ?_⟩, fun i hi => ?_, fun j hj => ?_, ⟨y, hy, ?_, fun j hj => ?_⟩, ?_, fun i hi => ?_, fun j hj => ?_⟩
  · rw [up_n (by omega), up_n (by omega)]; exact h0
  · rw [up_s, up_s]
  · rw [up_n (by omega), et]; exact h2
  · rw [up_n (by omega), up_n (by omega), up_n (by omega), up_n (by omega), up_n (by omega), up_n (by omega)]; exact hH i hi
  · rw [up_n (by omega), up_n (by omega), up_n (by omega), up_n (by omega)]; exact hK j hj
  · rw [up_n (by omega)]; exact hy2
  · rw [up_n (by omega), up_n (by omega)]; exact hage j hj
  · rw [up_s]; exact ⟨c, hc, rfl⟩
  · rw [up_n (by omega), up_n (by omega)]; exact hcr i hi
  · rw [up_n (by omega)]; exact hwe j hj
theorem rw_wt (h : Rw nh nd D f g) (h6 : nh ≤ 6) (h12 : nd ≤ 12) {k c : Nat} (hk : k < nd) (ht : thr nd g k = true) (hc1 : 1 ≤ c) (hc : c ≤ 60) : Rw nh nd D (updF f (21 + k) (i32 c)) (updF g k (i32 c)) := by
  have hth := rw_thr h
  obtain ⟨⟨h0, h1, h2⟩, hH, hK, ⟨y, hy, hy2, hage⟩, hwa, hcr, hwe⟩ := h
  have et : thr nd (fun d => updF f (21 + k) (i32 c) (21 + d)) = thr nd (fun d => f (21 + d)) := by
    rw [hth]
    funext j
    by_cases e : j = k
    · subst e
      rw [ht]
      unfold thr
      simp only [up_s]
      have : i32 0 < i32 c := by rw [i_lt (by omega) (by omega)]; omega
      simp [hk, this]
    · rw [← hth]
      unfold thr
      have e9 : updF f (21 + k) (i32 c) (21 + j) = f (21 + j) := up_n (by omega)
      simp only [e9]
  refine ⟨⟨?_, ?_, ?_⟩, fun i hi => ?_, fun j hj => ?_, ⟨y, hy, ?_, fun j hj => ?_⟩, ?_, fun i hi => ?_, fun j hj => ?_⟩
  · rw [up_n (by omega), up_n (by omega)]; exact h0
  · rw [up_n (by omega), up_n (by omega)]; exact h1
  · rw [up_n (by omega), et]; exact h2
  · rw [up_n (by omega), up_n (by omega), up_n (by omega), up_n (by omega), up_n (by omega), up_n (by omega)]; exact hH i hi
  · by_cases e : j = k
    · subst e; rw [up_s, up_s, up_n (by omega), up_n (by omega)]; exact ⟨rfl, (hK j hj).2⟩
    · rw [up_n (by omega), up_n (by omega), up_n (by omega), up_n (by omega)]; exact hK j hj
  · rw [up_n (by omega)]; exact hy2
  · obtain ⟨a, h3, h4, h5⟩ := hage j hj
    refine ⟨a, h3, by rw [up_n (by omega)]; exact h4, fun z => ?_⟩
    by_cases e : j = k
    · subst e; rw [up_s, i_eq (by omega) (by omega)] at z; omega
    · rw [up_n (by omega)] at z; exact h5 z
  · rw [up_n (by omega)]; exact hwa
  · rw [up_n (by omega), up_n (by omega)]; exact hcr i hi
  · by_cases e : j = k
    · subst e; rw [up_s]; exact ⟨c, hc, rfl⟩
    · rw [up_n (by omega)]; exact hwe j hj
theorem rw_gr (h : Rw nh nd D f g) (h6 : nh ≤ 6) (h12 : nd ≤ 12) {k a : Nat} {fl : Int32} (hk : k < nd) (ha : a < nh) (hfl : inN fl 99) (hw : ¬ g 42 < i32 1 + g k / i32 5) : Rw nh nd D (grC f k a fl) (grM g k a fl) := by
  unfold grC grM
  obtain ⟨x, hx, ex⟩ := hfl
  obtain ⟨⟨c, hc, ec⟩, _⟩ := h.2.2.2.2.2.1 a ha
  obtain ⟨w, hw9, ew⟩ := h.2.2.2.2.1
  obtain ⟨v, hv, ev⟩ := h.2.2.2.2.2.2 k hk
  have e1 : mnI (i32 999) (f (3 + a) + fl) = i32 (min 999 (c + x)) := by rw [(h.2.1 a ha).1, ec, ex, i_add, mnI_n (by omega) (by omega)]
  have e2 : mnI (i32 999) (g (24 + a) + fl) = i32 (min 999 (c + x)) := by rw [ec, ex, i_add, mnI_n (by omega) (by omega)]
  have e3 : f (15 + a) = g (36 + a) := (h.2.1 a ha).2.2
  have hd5 : v / 5 ≤ v := Nat.div_le_self _ _
  have e4 : i32 1 + g k / i32 5 = i32 (1 + v / 5) := by rw [ev, i_div (by omega) (by omega), i_add]
  have hw2 : 1 + v / 5 ≤ w := by rw [e4, ew, i_lt (by omega) (by omega)] at hw; omega
  have e5 : g 42 - (i32 1 + g k / i32 5) = i32 (w - (1 + v / 5)) := by rw [e4, ew, i_sub hw2]
  have e6 : f 1 - (i32 1 + f (21 + k) / i32 5) = i32 (w - (1 + v / 5)) := by rw [h.1.2.1, (h.2.2.1 k hk).1]; exact e5
  rw [e1, e2, e3, e5, e6]
  exact rw_rem (rw_wa (rw_cm (rw_cr h h6 h12 ha (by omega)) h6 h12 ha) h6 h12 (by omega)) h6 h12 hk
theorem sw_c (h : Rw nh nd D f g) {k : Nat} (hk : k < nd) : (f (21 + k) < i32 60) = ¬ g k = i32 60 := by
  obtain ⟨v, hv, ev⟩ := h.2.2.2.2.2.2 k hk
  rw [(h.2.2.1 k hk).1, ev, i_lt (by omega) (by omega), i_eq (by omega) (by omega)]
  exact propext ⟨fun z => by omega, fun z => by omega⟩
theorem ra_c (h : Rw nh nd D f g) : (f 1 < i32 99) = ¬ g 42 = i32 99 := by
  obtain ⟨v, hv, ev⟩ := h.2.2.2.2.1
  rw [h.1.2.1, ev, i_lt (by omega) (by omega), i_eq (by omega) (by omega)]
  exact propext ⟨fun z => by omega, fun z => by omega⟩
theorem rw_sw (h : Rw nh nd D f g) (h6 : nh ≤ 6) (h12 : nd ≤ 12) {k x : Nat} (hk : k < nd) (ht : thr nd g k = true) (hx1 : 1 ≤ x) (hx : x ≤ 99) : Rw nh nd D (updF f (21 + k) (mnI (i32 60) (f (21 + k) + i32 x))) (updF g k (mnI (i32 60) (g k + i32 x))) := by
  obtain ⟨v, hv, ev⟩ := h.2.2.2.2.2.2 k hk
  rw [(h.2.2.1 k hk).1, ev, i_add, mnI_n (by omega) (by omega)]
  exact rw_wt h h6 h12 hk ht (by omega) (by omega)
theorem rw_ra (h : Rw nh nd D f g) (h6 : nh ≤ 6) (h12 : nd ≤ 12) {x : Nat} (hx : x ≤ 99) : Rw nh nd D (updF f 1 (mnI (i32 99) (f 1 + i32 x))) (updF g 42 (mnI (i32 99) (g 42 + i32 x))) := by
  obtain ⟨v, hv, ev⟩ := h.2.2.2.2.1
  rw [h.1.2.1, ev, i_add, mnI_n (by omega) (by omega)]
  exact rw_wa h h6 h12 (by omega)
theorem rw_gi (h : Rw nh nd D f g) (h6 : nh ≤ 6) (h12 : nd ≤ 12) {a b x : Nat} (ha : a < nh) (hb : b < nh) (hx : x ≤ 99) (hc : ¬ g (24 + a) < i32 x) : Rw nh nd D (updF (updF f (3 + a) (f (3 + a) - i32 x)) (3 + b) (mnI (i32 999) (f (3 + b) + i32 x))) (updF (updF g (24 + a) (g (24 + a) - i32 x)) (24 + b) (mnI (i32 999) (g (24 + b) + i32 x))) := by
  obtain ⟨⟨v, hv, ev⟩, _⟩ := h.2.2.2.2.2.1 a ha
  obtain ⟨⟨u, hu, eu⟩, _⟩ := h.2.2.2.2.2.1 b hb
  rw [ev, i_lt (by omega) (by omega)] at hc
  rw [(h.2.1 a ha).1, (h.2.1 b hb).1, ev, eu, i_sub (by omega), i_add, mnI_n (by omega) (by omega)]
  exact rw_cr (rw_cr h h6 h12 ha (by omega)) h6 h12 hb (by omega)
end Rows
