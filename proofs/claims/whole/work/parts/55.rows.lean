/-! WHAT IS DONE TO THE ONE ROW IS DONE TO THE OTHER -/
section Rows
variable {mou f g : Nat → Int32} {t : Nat → Bool}
theorem dayH_3 {n h : Nat} (hh : h < n) (hn : n ≤ 6) : dayH mou f n (3 + h) = mxI (i32 0) (f (3 + h) - mou h) := by
  induction n with
  | zero => omega
  | succ n ih =>
    rw [dayH, up_n (by omega)]
    by_cases e : h = n
    · subst e; exact up_s
    · rw [up_n (by omega), ih (by omega) (by omega)]
theorem dayH_9 {n h : Nat} (hh : h < n) (hn : n ≤ 6) : dayH mou f n (9 + h) = if f (3 + h) - mou h < i32 0 then mnI (i32 99) (f (9 + h) - (f (3 + h) - mou h)) else i32 0 := by
  induction n with
  | zero => omega
  | succ n ih =>
    rw [dayH]
    by_cases e : h = n
    · subst e; exact up_s
    · rw [up_n (by omega), up_n (by omega), ih (by omega) (by omega)]
theorem dayD_33 {n k : Nat} (hk : k < n) : dayD t f n (33 + k) = f (33 + k) + (if t k = true then i32 1 else i32 0) := by
  induction n with
  | zero => omega
  | succ n ih =>
    rw [dayD]
    by_cases e : k = n
    · subst e; exact up_s
    · rw [up_n (by omega), ih (by omega)]
theorem dayMH_24 {n h : Nat} (hh : h < n) (hn : n ≤ 6) : dayMH mou g n (24 + h) = g (24 + h) - mnI (mou h) (g (24 + h)) := by
  induction n with
  | zero => omega
  | succ n ih =>
    rw [dayMH, up_n (by omega)]
    by_cases e : h = n
    · subst e; exact up_s
    · rw [up_n (by omega), ih (by omega) (by omega)]
theorem dayMH_30 {n h : Nat} (hh : h < n) (hn : n ≤ 6) : dayMH mou g n (30 + h) = if mou h - mnI (mou h) (g (24 + h)) = i32 0 then i32 0 else mnI (i32 99) (g (30 + h) + (mou h - mnI (mou h) (g (24 + h)))) := by
  induction n with
  | zero => omega
  | succ n ih =>
    rw [dayMH]
    by_cases e : h = n
    · subst e; exact up_s
    · rw [up_n (by omega), up_n (by omega), ih (by omega) (by omega)]
theorem dayMD_12 {n k : Nat} (hk : k < n) : dayMD t g n (12 + k) = g (12 + k) + (if t k = true then i32 1 else i32 0) := by
  induction n with
  | zero => omega
  | succ n ih =>
    rw [dayMD]
    by_cases e : k = n
    · subst e; exact up_s
    · rw [up_n (by omega), ih (by omega)]
end Rows
theorem a_sub {a b c : Int32} : a - (b - c) = a + (c - b) := by rw [Int32.sub_eq_add_neg a, Int32.neg_sub]
theorem mnI_n {a b : Nat} (ha : a < 2147483648) (hb : b < 2147483648) : mnI (i32 a) (i32 b) = i32 (min a b) := by
  unfold mnI
  by_cases h : a < b
  · rw [if_pos ((i_lt ha hb).mpr h), Nat.min_eq_left (by omega)]
  · rw [if_neg (fun z => h ((i_lt ha hb).mp z)), Nat.min_eq_right (by omega)]
theorem neg_lt {a b : Nat} (ha : a < 1000000) (hb : b < 1000000) : (i32 a - i32 b < i32 0) = (a < b) := by
  by_cases h : b ≤ a
  · rw [i_sub h, i_lt (by omega) (by omega)]
    refine propext ⟨fun z => by omega, fun z => by omega⟩
  · have e : i32 a - i32 b = -(i32 (b - a)) := by rw [← i_sub (by omega : a ≤ b), Int32.neg_sub]
    rw [e, Int32.lt_iff_toInt_lt, Int32.toInt_neg, i_int (by omega), i_int (by omega)]
    have : (-((b - a : Nat) : Int)).bmod 4294967296 = -((b - a : Nat) : Int) := Int.bmod_eq_of_le (by omega) (by omega)
    refine propext ⟨fun _ => by omega, fun _ => ?_⟩
    show (-((b - a : Nat) : Int)).bmod 4294967296 < ((0 : Nat) : Int)
    rw [this]; omega
/-- what a house eats -/
theorem eat {c m hu : Nat} (hc : c ≤ 999) (hm : m ≤ 9) (hh : hu ≤ 99) : ∃ c' hu', c' ≤ 999 ∧ hu' ≤ 99 ∧ mxI (i32 0) (i32 c - i32 m) = i32 c' ∧ i32 c - mnI (i32 m) (i32 c) = i32 c' ∧ (if i32 c - i32 m < i32 0 then mnI (i32 99) (i32 hu - (i32 c - i32 m)) else i32 0) = i32 hu' ∧ (if i32 m - mnI (i32 m) (i32 c) = i32 0 then i32 0 else mnI (i32 99) (i32 hu + (i32 m - mnI (i32 m) (i32 c)))) = i32 hu' := by
  rw [mnI_n (by omega) (by omega), a_sub]
  by_cases h : c < m
  · have hl : i32 c - i32 m < i32 0 := (neg_lt (by omega) (by omega)).mpr h
    refine ⟨0, min 99 (hu + (m - c)), by omega, by omega, ?_, ?_, ?_, ?_⟩
    · unfold mxI
      rw [if_pos hl]
    · rw [Nat.min_eq_right (by omega), i_sub (by omega), Nat.sub_self]
    · rw [if_pos hl, i_sub (by omega), i_add, mnI_n (by omega) (by omega)]
    · rw [Nat.min_eq_right (by omega), i_sub (by omega), if_neg (by rw [i_eq (by omega) (by omega)]; omega), i_add, mnI_n (by omega) (by omega)]
  · have hl : ¬ i32 c - i32 m < i32 0 := fun z => h ((neg_lt (by omega) (by omega)).mp z)
    refine ⟨c - m, 0, by omega, by omega, ?_, ?_, ?_, ?_⟩
    · unfold mxI
      rw [if_neg hl, i_sub (by omega)]
    · rw [Nat.min_eq_left (by omega), i_sub (by omega)]
    · rw [if_neg hl]
    · rw [Nat.min_eq_left (by omega), if_pos (by rw [i_sub (by omega), Nat.sub_self])]
theorem bits_upd {nd : Nat} {p p' : Nat → Bool} (h : ∀ k, k < nd → p k = p' k) : bitsN nd p = bitsN nd p' := bits_congr h
theorem rw_day {nh nd D : Nat} {mou mou' f g : Nat → Int32} (h : Rw nh nd D f g) (h6 : nh ≤ 6) (h12 : nd ≤ 12) (hm : ∀ h, h < nh → mou' h = mou h ∧ ∃ m, 1 ≤ m ∧ m ≤ 9 ∧ mou h = i32 m) : Rw nh nd (D + 1) (dayC nh nd mou f) (dayM nh nd mou' g) := by
  have ht := rw_thr h
  obtain ⟨⟨h0, h1, h2⟩, hH, hK, ⟨y, hy, hy2, hage⟩, hwa, hcr, hwe⟩ := h
  have kC : ∀ j, j ≠ 0 → (∀ i, i < nh → j ≠ 3 + i ∧ j ≠ 9 + i) → (∀ i, i < nd → j ≠ 33 + i) → dayC nh nd mou f j = f j := fun j a b c => by
    unfold dayC; rw [up_n a, dayD_n c, dayH_n b]
  have kM : ∀ j, j ≠ 43 → (∀ i, i < nh → j ≠ 24 + i ∧ j ≠ 30 + i) → (∀ i, i < nd → j ≠ 12 + i) → dayM nh nd mou' g j = g j := fun j a b c => by
    unfold dayM; rw [up_n a, dayMD_n c, dayMH_n b]
  have eat2 : ∀ i, i < nh → ∃ c' hu', c' ≤ 999 ∧ hu' ≤ 99 ∧ dayC nh nd mou f (3 + i) = i32 c' ∧ dayM nh nd mou' g (24 + i) = i32 c' ∧ dayC nh nd mou f (9 + i) = i32 hu' ∧ dayM nh nd mou' g (30 + i) = i32 hu' := fun i hi => by
    obtain ⟨e1, m, m1, m9, hm1⟩ := hm i hi
    obtain ⟨⟨c, hc, hc1⟩, ⟨hu, hhu, hhu1⟩⟩ := hcr i hi
    obtain ⟨a1, a2, a3⟩ := hH i hi
    obtain ⟨c', hu', b1, b2, b3, b4, b5, b6⟩ := eat hc m9 hhu
    refine ⟨c', hu', b1, b2, ?_, ?_, ?_, ?_⟩
    · unfold dayC; rw [up_n (by omega), dayD_n (fun q hq => by omega), dayH_3 hi h6, a1, hc1, hm1]; exact b3
    · unfold dayM; rw [up_n (by omega), dayMD_n (fun q hq => by omega), dayMH_24 hi h6, hc1, e1, hm1]; exact b4
    · unfold dayC; rw [up_n (by omega), dayD_n (fun q hq => by omega), dayH_9 hi h6, a1, a2, hc1, hm1, hhu1]; exact b5
    · unfold dayM; rw [up_n (by omega), dayMD_n (fun q hq => by omega), dayMH_30 hi h6, e1, hm1, hc1, hhu1]; exact b6
  have ag2 : ∀ k, k < nd → dayC nh nd mou f (33 + k) = g (12 + k) + (if thr nd g k = true then i32 1 else i32 0) ∧ dayM nh nd mou' g (12 + k) = g (12 + k) + (if thr nd g k = true then i32 1 else i32 0) := fun k hk => by
    constructor
    · unfold dayC; rw [up_n (by omega), dayD_33 hk, dayH_n (fun q hq => by omega), ht, (hK k hk).2]
    · unfold dayM; rw [up_n (by omega), dayMD_12 hk, dayMH_n (fun q hq => by omega)]
  have eT : thr nd (fun d => dayC nh nd mou f (21 + d)) = thr nd (fun d => f (21 + d)) := thr_congr fun k hk => kC _ (by omega) (fun i hi => by omega) (fun i hi => by omega)
  have c0 : dayC nh nd mou f 0 = f 0 + i32 1 := up_s
  have m0 : dayM nh nd mou' g 43 = g 43 + i32 1 := up_s
  refine ⟨⟨?_, ?_, ?_⟩, fun i hi => ?_, fun k hk => ?_, ⟨y + 1, by omega, ?_, fun k hk => ?_⟩, ?_, fun i hi => ?_, fun k hk => ?_⟩
  · rw [c0, m0, h0]
  · rw [kC 1 (by omega) (fun i hi => by omega) (fun i hi => by omega), kM 42 (by omega) (fun i hi => by omega) (fun i hi => by omega)]; exact h1
  · rw [kC 2 (by omega) (fun i hi => by omega) (fun i hi => by omega), eT]; exact h2
  · obtain ⟨c', hu', b1, b2, b3, b4, b5, b6⟩ := eat2 i hi
    refine ⟨b3.trans b4.symm, b5.trans b6.symm, ?_⟩
    rw [kC _ (by omega) (fun i hi => by omega) (fun i hi => by omega), kM _ (by omega) (fun i hi => by omega) (fun i hi => by omega)]
    exact (hH i hi).2.2
  · refine ⟨?_, (ag2 k hk).1.trans (ag2 k hk).2.symm⟩
    rw [kC _ (by omega) (fun i hi => by omega) (fun i hi => by omega), kM _ (by omega) (fun i hi => by omega) (fun i hi => by omega)]
    exact (hK k hk).1
  · rw [m0, hy2, i_add]
  · obtain ⟨a, ha, ha1, ha2⟩ := hage k hk
    have ek : dayM nh nd mou' g k = g k := kM _ (by omega) (fun i hi => by omega) (fun i hi => by omega)
    by_cases hth : thr nd g k = true
    · refine ⟨a + 1, by omega, ?_, fun z => ?_⟩
      · rw [(ag2 k hk).2, ha1, if_pos hth, i_add]
      · rw [ek] at z
        rw [thr_t hk, z] at hth
        exact absurd hth (by decide)
    · refine ⟨a, by omega, ?_, fun z => ?_⟩
      · rw [(ag2 k hk).2, ha1, if_neg hth, i_add]; rfl
      · rw [ek] at z; exact ha2 z
  · rw [kM 42 (by omega) (fun i hi => by omega) (fun i hi => by omega)]; exact hwa
  · obtain ⟨c', hu', b1, b2, b3, b4, b5, b6⟩ := eat2 i hi
    exact ⟨⟨c', b1, b4⟩, ⟨hu', b2, b6⟩⟩
  · rw [kM _ (by omega) (fun i hi => by omega) (fun i hi => by omega)]; exact hwe k hk
