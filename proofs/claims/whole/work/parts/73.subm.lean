/-! SETS OF DEBTS: going through the sets within one -/
/-- x lies within A -/
def sub (A x : Nat) : Bool := decide (x &&& A = x)
theorem sub_t {A x : Nat} : (sub A x = true) = ∀ k, x.testBit k = true → A.testBit k = true := by
  unfold sub
  rw [decide_eq_true_eq]
  refine propext ⟨fun h k hk => ?_, fun h => ?_⟩
  · rw [← h, Nat.testBit_and, Bool.and_eq_true] at hk; exact hk.2
  · apply Nat.eq_of_testBit_eq
    intro k
    rw [Nat.testBit_and]
    cases hx : x.testBit k
    · rfl
    · rw [h k hx]; rfl
theorem sub_le {A x : Nat} (h : sub A x = true) : x ≤ A := by
  unfold sub at h
  rw [decide_eq_true_eq] at h
  rw [← h]; exact Nat.and_le_right
theorem sub_0 {A : Nat} : sub A 0 = true := by rw [sub_t]; intro k h; rw [Nat.zero_testBit] at h; cases h
theorem sub_self {A : Nat} : sub A A = true := by rw [sub_t]; exact fun _ h => h
theorem sub_half {A x : Nat} : (sub A x = true) = (sub (A / 2) (x / 2) = true ∧ (x % 2 = 1 → A % 2 = 1)) := by
  unfold sub
  rw [decide_eq_true_eq, decide_eq_true_eq, ← Nat.and_div_two]
  have h1 := Nat.and_mod_two_eq_one (a := x) (b := A)
  refine propext ⟨fun h => ⟨by rw [h], fun z => ?_⟩, fun ⟨h2, h3⟩ => ?_⟩
  · rw [h] at h1; exact (h1.mp z).2
  · by_cases z : x % 2 = 1
    · have := h1.mpr ⟨z, h3 z⟩
      omega
    · have : ¬ (x &&& A) % 2 = 1 := fun q => z (h1.mp q).1
      omega
/-- the set behind x -/
theorem next_ok : ∀ w A x, A < 2 ^ w → sub A x = true → ((x + (2 ^ w - 1 - A)) &&& A = x) ∧ (x ≠ A → sub A ((x + (2 ^ w - A)) &&& A) = true ∧ x < ((x + (2 ^ w - A)) &&& A) ∧ ∀ y, sub A y = true → x < y → ((x + (2 ^ w - A)) &&& A) ≤ y) := by
  intro w
  induction w with
  | zero =>
    intro A x hA hx
    have := sub_le hx
    have hA0 : A = 0 := by omega
    have hx0 : x = 0 := by omega
    subst hA0 hx0
    exact ⟨rfl, fun z => absurd rfl z⟩
  | succ w ih =>
    intro A x hA hx
    have hx' := hx
    rw [sub_half] at hx
    obtain ⟨h1, h2⟩ := hx
    have hA2 : A / 2 < 2 ^ w := by rw [Nat.pow_succ] at hA; omega
    obtain ⟨i1, i2⟩ := ih (A / 2) (x / 2) hA2 h1
    have hle := sub_le h1
    have hp : 2 ^ (w + 1) = 2 * 2 ^ w := by rw [Nat.pow_succ]; omega
    rw [hp] at hA ⊢
    generalize 2 ^ w = P at *
    constructor
    · have m1 := Nat.and_mod_two_eq_one (a := x + (2 * P - 1 - A)) (b := A)
      have m2 : ((x + (2 * P - 1 - A)) &&& A) / 2 = x / 2 := by
        rw [Nat.and_div_two]
        have : (x + (2 * P - 1 - A)) / 2 = x / 2 + (P - 1 - A / 2) := by omega
        rw [this]; exact i1
      by_cases z : x % 2 = 1
      · have z2 := h2 z
        have := m1.mpr ⟨by omega, z2⟩
        omega
      · by_cases z2 : A % 2 = 1
        · have : ¬ (x + (2 * P - 1 - A)) % 2 = 1 := by omega
          have : ¬ ((x + (2 * P - 1 - A)) &&& A) % 2 = 1 := fun q => this (m1.mp q).1
          omega
        · have : ¬ ((x + (2 * P - 1 - A)) &&& A) % 2 = 1 := fun q => z2 (m1.mp q).2
          omega
    · intro hne
      have m1 := Nat.and_mod_two_eq_one (a := x + (2 * P - A)) (b := A)
      by_cases za : A % 2 = 1
      · by_cases zx : x % 2 = 1
        · have hne2 : x / 2 ≠ A / 2 := by omega
          obtain ⟨j1, j2, j3⟩ := i2 hne2
          have e2 : ((x + (2 * P - A)) &&& A) / 2 = (x / 2 + (P - A / 2)) &&& (A / 2) := by
            rw [Nat.and_div_two]
            have : (x + (2 * P - A)) / 2 = x / 2 + (P - A / 2) := by omega
            rw [this]
          have e3 : ((x + (2 * P - A)) &&& A) % 2 = 0 := by
            have : ¬ (x + (2 * P - A)) % 2 = 1 := by omega
            have : ¬ ((x + (2 * P - A)) &&& A) % 2 = 1 := fun q => this (m1.mp q).1
            omega
          generalize ((x + (2 * P - A)) &&& A) = N at *
          refine ⟨by rw [sub_half, e2]; exact ⟨j1, fun _ => za⟩, by omega, fun y hy hxy => ?_⟩
          rw [sub_half] at hy
          have := j3 (y / 2) hy.1 (by omega)
          omega
        · have e2 : ((x + (2 * P - A)) &&& A) / 2 = x / 2 := by
            rw [Nat.and_div_two]
            have : (x + (2 * P - A)) / 2 = x / 2 + (P - 1 - A / 2) := by omega
            rw [this]; exact i1
          have e3 : ((x + (2 * P - A)) &&& A) % 2 = 1 := m1.mpr ⟨by omega, za⟩
          generalize ((x + (2 * P - A)) &&& A) = N at *
          refine ⟨by rw [sub_half, e2]; exact ⟨h1, fun _ => za⟩, by omega, fun y hy hxy => by omega⟩
      · have zx : ¬ x % 2 = 1 := fun z => za (h2 z)
        have hne2 : x / 2 ≠ A / 2 := by omega
        obtain ⟨j1, j2, j3⟩ := i2 hne2
        have e2 : ((x + (2 * P - A)) &&& A) / 2 = (x / 2 + (P - A / 2)) &&& (A / 2) := by
          rw [Nat.and_div_two]
          have : (x + (2 * P - A)) / 2 = x / 2 + (P - A / 2) := by omega
          rw [this]
        have e3 : ((x + (2 * P - A)) &&& A) % 2 = 0 := by
          have : ¬ ((x + (2 * P - A)) &&& A) % 2 = 1 := fun q => za (m1.mp q).2
          omega
        generalize ((x + (2 * P - A)) &&& A) = N at *
        refine ⟨by rw [sub_half, e2]; exact ⟨j1, fun z => by omega⟩, by omega, fun y hy hxy => ?_⟩
        rw [sub_half] at hy
        have hy2 : ¬ y % 2 = 1 := fun z => za (hy.2 z)
        have := j3 (y / 2) hy.1 (by omega)
        omega
def nxN (A x : Nat) : Nat := (x + (4096 - A)) &&& A
theorem nx_i {A x : Nat} (hA : A < 4096) (hx : x < 4096) : (i32 x - i32 A) &&& i32 A = i32 (nxN A x) := by
  apply Int32.toBitVec_inj.mp
  rw [Int32.toBitVec_and, Int32.toBitVec_sub, i_bv, i_bv, i_bv]
  apply BitVec.eq_of_toNat_eq
  rw [BitVec.toNat_and, BitVec.toNat_sub, BitVec.toNat_ofNat, BitVec.toNat_ofNat, BitVec.toNat_ofNat]
  have e1 : A % 2 ^ 32 = A := Nat.mod_eq_of_lt (by omega)
  have e2 : x % 2 ^ 32 = x := Nat.mod_eq_of_lt (by omega)
  have hm : ∀ u, u &&& A = u % 4096 &&& A := fun u => by
    apply Nat.eq_of_testBit_eq
    intro k
    rw [Nat.testBit_and, Nat.testBit_and, show 4096 = 2 ^ 12 from rfl, Nat.testBit_mod_two_pow]
    by_cases hk : k < 12
    · simp [hk]
    · have : A.testBit k = false := Nat.testBit_lt_two_pow (Nat.lt_of_lt_of_le hA (by rw [show 4096 = 2 ^ 12 from rfl]; exact Nat.pow_le_pow_right (by decide) (by omega)))
      simp [this]
  rw [e1, e2]
  unfold nxN
  have hl : (x + (4096 - A)) &&& A ≤ A := Nat.and_le_right
  rw [Nat.mod_eq_of_lt (by omega : (x + (4096 - A)) &&& A < 2 ^ 32), hm, hm (x + (4096 - A))]
  congr 1
  omega
theorem nx_A {A : Nat} (hA : A < 4096) : nxN A A = 0 := by
  unfold nxN
  rw [show A + (4096 - A) = 4096 from by omega]
  apply Nat.eq_of_testBit_eq
  intro k
  rw [Nat.testBit_and, show 4096 = 2 ^ 12 from rfl, Nat.testBit_two_pow, Nat.zero_testBit]
  by_cases hk : 12 = k
  · subst hk
    rw [Nat.testBit_lt_two_pow hA]; simp
  · simp [hk]
theorem nx_ok {A x : Nat} (hA : A < 4096) (hx : sub A x = true) (hne : x ≠ A) : sub A (nxN A x) = true ∧ x < nxN A x ∧ ∀ y, sub A y = true → x < y → nxN A x ≤ y := (next_ok 12 A x hA hx).2 hne
/-! how many sets there are -/
theorem cnt_2 {m : Nat} {p : Nat → Bool} : cntN (2 * m) p = cntN m (fun y => p (2 * y)) + cntN m (fun y => p (2 * y + 1)) := by
  induction m with
  | zero => rfl
  | succ m ih =>
    rw [show 2 * (m + 1) = 2 * m + 1 + 1 from by omega, cntN, cntN, ih, cntN, cntN]
    (repeat' split) <;> omega
theorem cnt_fr {n : Nat} {p : Nat → Bool} : cntN (n + 1) p = (if p 0 = true then 1 else 0) + cntN n (fun k => p (k + 1)) := by
  induction n with
  | zero => rw [cntN, cntN, cntN]; split <;> rfl
  | succ n ih =>
    rw [cntN, ih, cntN]
    (repeat' split) <;> omega
theorem cnt_f {n : Nat} {p : Nat → Bool} (h : ∀ k, k < n → p k = false) : cntN n p = 0 := by
  induction n with
  | zero => rfl
  | succ n ih => rw [cntN, ih (fun k hk => h k (by omega)), h n (by omega)]; rfl
theorem cnt_sub2 : ∀ w A, A < 2 ^ w → cntN (2 ^ w) (fun x => sub A x) = 2 ^ cntN w (fun k => A.testBit k) := by
  intro w
  induction w with
  | zero =>
    intro A hA
    have : A = 0 := by omega
    subst this
    decide
  | succ w ih =>
    intro A hA
    have hp : 2 ^ (w + 1) = 2 * 2 ^ w := by rw [Nat.pow_succ]; omega
    have hA2 : A / 2 < 2 ^ w := by omega
    have e1 : cntN (2 ^ w) (fun y => sub A (2 * y)) = cntN (2 ^ w) (fun y => sub (A / 2) y) := cnt_congr fun y _ => by
      have := sub_half (A := A) (x := 2 * y)
      rw [show 2 * y / 2 = y from by omega, show 2 * y % 2 = 0 from by omega] at this
      cases h1 : sub A (2 * y) <;> cases h2 : sub (A / 2) y <;> simp_all
    have e2 : cntN (2 ^ w) (fun y => sub A (2 * y + 1)) = if A % 2 = 1 then cntN (2 ^ w) (fun y => sub (A / 2) y) else 0 := by
      by_cases ha : A % 2 = 1
      · rw [if_pos ha]
        refine cnt_congr fun y _ => ?_
        have := sub_half (A := A) (x := 2 * y + 1)
        rw [show (2 * y + 1) / 2 = y from by omega, show (2 * y + 1) % 2 = 1 from by omega] at this
        cases h1 : sub A (2 * y + 1) <;> cases h2 : sub (A / 2) y <;> simp_all
      · rw [if_neg ha]
        refine cnt_f fun y _ => ?_
        have := sub_half (A := A) (x := 2 * y + 1)
        rw [show (2 * y + 1) / 2 = y from by omega, show (2 * y + 1) % 2 = 1 from by omega] at this
        cases h1 : sub A (2 * y + 1) <;> simp_all
    have e3 : cntN w (fun k => A.testBit (k + 1)) = cntN w (fun k => (A / 2).testBit k) := cnt_congr fun k _ => Nat.testBit_add_one ..
    rw [hp, cnt_2, e1, e2, ih _ hA2, cnt_fr, e3]
    by_cases ha : A % 2 = 1
    · rw [if_pos ha, if_pos (by rw [Nat.testBit_zero]; simp [ha]), Nat.pow_add]; omega
    · rw [if_neg ha, if_neg (by rw [Nat.testBit_zero]; simp [ha])]; simp
theorem cnt_split {a b : Nat} {p : Nat → Bool} (h : a ≤ b) (hno : ∀ k, a ≤ k → k < b → p k = false) : cntN b p = cntN a p := by
  obtain ⟨m, rfl⟩ := Nat.exists_eq_add_of_le h
  induction m with
  | zero => rfl
  | succ m ih =>
    rw [← Nat.add_assoc, cntN, if_neg (by rw [hno (a + m) (by omega) (by omega)]; simp), Nat.add_zero, ih (by omega) (fun k h1 h2 => hno k h1 (by omega))]
theorem cnt_mono {a b : Nat} {p : Nat → Bool} (h : a ≤ b) : cntN a p ≤ cntN b p := by
  obtain ⟨m, rfl⟩ := Nat.exists_eq_add_of_le h
  clear h
  induction m with
  | zero => exact Nat.le_refl _
  | succ m ih => rw [← Nat.add_assoc, cntN]; omega
theorem cnt_A {A : Nat} (hA : A < 4096) : cntN (A + 1) (fun x => sub A x) = 2 ^ popc A := by
  have h := cnt_sub2 12 A hA
  rw [cnt_split (a := A + 1) (b := 2 ^ 12) (by omega) (fun k h1 _ => ?_)] at h
  · exact h
  · cases z : sub A k
    · rfl
    · have := sub_le z; omega
/-- what is gone through in one order, with those outside left out -/
def goF {σ : Type} (A : Nat) (st : σ → Nat → σ) (s : σ) : Nat → σ
  | 0 => s
  | y + 1 => if sub A y = true then st (goF A st s y) y else goF A st s y
theorem go_skip {σ : Type} {A a b : Nat} {st : σ → Nat → σ} {s : σ} (h : a ≤ b) (hno : ∀ k, a ≤ k → k < b → ¬ sub A k = true) : goF A st s b = goF A st s a := by
  obtain ⟨m, rfl⟩ := Nat.exists_eq_add_of_le h
  induction m with
  | zero => rfl
  | succ m ih =>
    rw [← Nat.add_assoc, goF, if_neg (hno (a + m) (by omega) (by omega)), ih (by omega) (fun k h1 h2 => hno k h1 (by omega))]
theorem go_top {σ : Type} {A N : Nat} {st : σ → Nat → σ} {s : σ} (h : A < N) : goF A st s N = goF A st s (A + 1) := go_skip (by omega) fun k h1 _ z => by have := sub_le z; omega
theorem sub_loop {σ : Type} {P : Nat → Nat → σ → Prop} {A : Nat} {st : σ → Nat → σ} {s : σ} (hA : A < 4096) (h : ∀ i x s, i < 2 ^ popc A → sub A x = true → (P i x s ↔ P (i + 1) (nxN A x) (st s x))) : P 0 0 s ↔ P (2 ^ popc A) 0 (goF A st s (A + 1)) := by
  have hc := cnt_A hA
  have key : ∀ i, i < 2 ^ popc A → ∃ x, sub A x = true ∧ cntN x (fun x => sub A x) = i ∧ (P 0 0 s ↔ P i x (goF A st s x)) := by
    intro i
    induction i with
    | zero => intro _; exact ⟨0, sub_0, rfl, Iff.rfl⟩
    | succ i ih =>
      intro hi
      obtain ⟨x, h1, h2, h3⟩ := ih (by omega)
      have hne : x ≠ A := fun z => by
        subst z
        rw [cntN, if_pos h1, h2] at hc
        omega
      obtain ⟨n1, n2, n3⟩ := nx_ok hA h1 hne
      have hno : ∀ k, x + 1 ≤ k → k < nxN A x → ¬ sub A k = true := fun k k1 k2 z => by
        have := n3 k z (by omega); omega
      refine ⟨nxN A x, n1, ?_, ?_⟩
      · rw [cnt_split (a := x + 1) (by omega) (fun k k1 k2 => by
          cases z : sub A k
          · rfl
          · exact absurd z (hno k k1 k2)), cntN, if_pos h1, h2]
      · rw [h3, h i x _ (by omega) h1, go_skip (a := x + 1) (b := nxN A x) (by omega) hno, goF, if_pos h1]
  have hpos : 0 < 2 ^ popc A := Nat.two_pow_pos _
  obtain ⟨x, h1, h2, h3⟩ := key (2 ^ popc A - 1) (by omega)
  have hxA : x = A := by
    refine Classical.byContradiction fun hne => ?_
    have hle := sub_le h1
    have c1 : cntN (x + 1) (fun x => sub A x) = cntN x (fun x => sub A x) + 1 := by rw [cntN, if_pos h1]
    have c2 : cntN (x + 1) (fun x => sub A x) ≤ cntN A (fun x => sub A x) := by
      exact cnt_mono (by omega)
    have c3 : cntN (A + 1) (fun x => sub A x) = cntN A (fun x => sub A x) + 1 := by rw [cntN, if_pos sub_self]
    omega
  subst hxA
  rw [h3, h _ _ _ (by omega) h1, nx_A hA, show 2 ^ popc x - 1 + 1 = 2 ^ popc x from by omega, goF, if_pos h1]
