/-! SETS OF DEBTS, house by house: counting, purely -/
def sM : Nat → (Nat → Nat) → Nat
  | 0, _ => 0
  | n + 1, g => sM n g + g n
theorem sM_c {g g' : Nat → Nat} : ∀ n, (∀ k, k < n → g k = g' k) → sM n g = sM n g' := by
  intro n
  induction n with
  | zero => intro _; rfl
  | succ n ih => intro h; rw [sM, sM, ih (fun k hk => h k (by omega)), h n (by omega)]
theorem sM_add {g g' : Nat → Nat} : ∀ n, sM n (fun k => g k + g' k) = sM n g + sM n g' := by
  intro n
  induction n with
  | zero => rfl
  | succ n ih => rw [sM, sM, sM, ih]; omega
theorem sM_2 {g : Nat → Nat} : ∀ n, sM (2 * n) g = sM n (fun y => g (2 * y) + g (2 * y + 1)) := by
  intro n
  induction n with
  | zero => rfl
  | succ n ih => rw [show 2 * (n + 1) = 2 * n + 1 + 1 from by omega, sM, sM, ih, sM]; omega
theorem sM_mul {g : Nat → Nat} {c : Nat} : ∀ n, sM n (fun k => c * g k) = c * sM n g := by
  intro n
  induction n with
  | zero => rfl
  | succ n ih => rw [sM, sM, ih, Nat.mul_add]
theorem sM_0 {g : Nat → Nat} : ∀ n, (∀ k, k < n → g k = 0) → sM n g = 0 := by
  intro n
  induction n with
  | zero => intro _; rfl
  | succ n ih => intro h; rw [sM, ih (fun k hk => h k (by omega)), h n (by omega)]
theorem sM_pos {g : Nat → Nat} : ∀ n, 0 < sM n g → ∃ k, k < n ∧ 0 < g k := by
  intro n
  induction n with
  | zero => intro h; exact absurd h (Nat.lt_irrefl _)
  | succ n ih =>
    intro h
    rw [sM] at h
    by_cases h0 : 0 < g n
    · exact ⟨n, by omega, h0⟩
    · obtain ⟨k, hk, hg⟩ := ih (by omega)
      exact ⟨k, by omega, hg⟩
theorem sM_ge {g : Nat → Nat} : ∀ n k, k < n → g k ≤ sM n g := by
  intro n
  induction n with
  | zero => intro k h; omega
  | succ n ih =>
    intro k h
    rw [sM]
    by_cases e : k = n
    · subst e; omega
    · have := ih k (by omega); omega
theorem sM_more {g : Nat → Nat} {a b : Nat} (h : a ≤ b) (hz : ∀ k, a ≤ k → k < b → g k = 0) : sM b g = sM a g := by
  obtain ⟨c, rfl⟩ := Nat.exists_eq_add_of_le h
  clear h
  induction c with
  | zero => rfl
  | succ c ih => rw [← Nat.add_assoc, sM, ih (fun k h1 h2 => hz k h1 (by omega)), hz _ (by omega) (by omega), Nat.add_zero]
/-- over the sets within A -/
def sS (w A : Nat) (g : Nat → Nat) : Nat := sM (2 ^ w) (fun x => if sub A x = true then g x else 0)
theorem sS_half {w A : Nat} {g : Nat → Nat} : sS (w + 1) A g = sS w (A / 2) (fun y => g (2 * y) + (if A % 2 = 1 then g (2 * y + 1) else 0)) := by
  unfold sS
  rw [Nat.pow_succ, Nat.mul_comm, sM_2]
  refine sM_c _ fun y _ => ?_
  have h1 := sub_half (A := A) (x := 2 * y)
  have h2 := sub_half (A := A) (x := 2 * y + 1)
  rw [show 2 * y / 2 = y from by omega] at h1
  rw [show (2 * y + 1) / 2 = y from by omega] at h2
  by_cases hs : sub (A / 2) y = true
  · rw [if_pos hs, if_pos (h1 ▸ ⟨hs, fun z => by omega⟩)]
    dsimp only
    by_cases hA : A % 2 = 1
    · rw [if_pos (h2 ▸ ⟨hs, fun _ => hA⟩), if_pos hA]
    · rw [if_neg (fun z => hA ((h2 ▸ z).2 (by omega))), if_neg hA]
  · rw [if_neg hs, if_neg (fun z => hs (h1 ▸ z).1), if_neg (fun z => hs (h2 ▸ z).1)]
theorem sS_c {w A : Nat} {g g' : Nat → Nat} (h : ∀ x, sub A x = true → g x = g' x) : sS w A g = sS w A g' := sM_c _ fun x _ => by
  by_cases hs : sub A x = true
  · rw [if_pos hs, if_pos hs, h x hs]
  · rw [if_neg hs, if_neg hs]
theorem and_h {x U : Nat} : x &&& U = 2 * (x / 2 &&& U / 2) + (if x % 2 = 1 ∧ U % 2 = 1 then 1 else 0) := by
  apply Nat.eq_of_testBit_eq
  intro k
  match k with
  | 0 =>
    have e : (2 * (x / 2 &&& U / 2) + (if x % 2 = 1 ∧ U % 2 = 1 then 1 else 0)) % 2 = if x % 2 = 1 ∧ U % 2 = 1 then 1 else 0 := by split <;> omega
    rw [Nat.testBit_and, Nat.testBit_zero, Nat.testBit_zero, Nat.testBit_zero, e]
    by_cases h1 : x % 2 = 1 <;> by_cases h2 : U % 2 = 1 <;> simp [h1, h2]
  | k + 1 =>
    have e : (2 * (x / 2 &&& U / 2) + (if x % 2 = 1 ∧ U % 2 = 1 then 1 else 0)) / 2 = x / 2 &&& U / 2 := by split <;> omega
    rw [Nat.testBit_and, Nat.testBit_succ, Nat.testBit_succ, Nat.testBit_succ, e, Nat.testBit_and]
theorem or_h {U B : Nat} : (U ||| B) / 2 = U / 2 ||| B / 2 ∧ ((U ||| B) % 2 = 1 ↔ U % 2 = 1 ∨ B % 2 = 1) := by
  refine ⟨?_, ?_⟩
  · apply Nat.eq_of_testBit_eq
    intro k
    rw [Nat.testBit_or, Nat.testBit_div_two, Nat.testBit_div_two, Nat.testBit_div_two, Nat.testBit_or]
  · have h0 : ∀ z : Nat, (z % 2 = 1) ↔ z.testBit 0 = true := fun z => by rw [Nat.testBit_zero]; simp
    rw [h0, h0, h0, Nat.testBit_or]; simp
theorem or_add : ∀ n x y, x < 2 ^ n → x &&& y = 0 → x ||| y = x + y := by
  intro n
  induction n with
  | zero =>
    intro x y h _
    have e : x = 0 := by rw [Nat.pow_zero] at h; omega
    subst e; simp
  | succ n ih =>
    intro x y h h0
    have hU : x / 2 &&& y / 2 = 0 := by rw [and_h] at h0; omega
    have hb : ¬ (x % 2 = 1 ∧ y % 2 = 1) := fun z => by rw [and_h, if_pos z] at h0; omega
    rw [Nat.pow_succ] at h
    have i1 := ih (x / 2) (y / 2) (by omega) hU
    obtain ⟨e1, e2⟩ := or_h (U := x) (B := y)
    rw [i1] at e1
    by_cases z1 : x % 2 = 1
    · have := e2.mpr (Or.inl z1); omega
    · by_cases z2 : y % 2 = 1
      · have := e2.mpr (Or.inr z2); omega
      · have : ¬ (x ||| y) % 2 = 1 := fun z => (e2.mp z).elim z1 z2
        omega
/-- sets within two masks that share nothing -/
theorem disS : ∀ w U B (R : Nat → Nat → Nat), U &&& B = 0 → sS w (U ||| B) (fun x => R (x &&& U) (x &&& B)) = sS w U (fun u => sS w B (fun b => R u b)) := by
  intro w
  induction w with
  | zero =>
    intro U B R _
    unfold sS
    simp [sM, sub_0]
  | succ w ih =>
    intro U B R h0
    have hU : U / 2 &&& B / 2 = 0 := by rw [and_h] at h0; omega
    have hb : ¬ (U % 2 = 1 ∧ B % 2 = 1) := fun z => by rw [and_h, if_pos z] at h0; omega
    obtain ⟨e1, e2⟩ := or_h (U := U) (B := B)
    rw [sS_half, sS_half, e1]
    have a0 : ∀ y V, (2 * y) &&& V = 2 * (y &&& V / 2) := fun y V => by rw [and_h, if_neg (by omega), show 2 * y / 2 = y from by omega]; omega
    have a1 : ∀ y V, (2 * y + 1) &&& V = 2 * (y &&& V / 2) + (if V % 2 = 1 then 1 else 0) := fun y V => by
      rw [and_h, show (2 * y + 1) / 2 = y from by omega]
      by_cases z : V % 2 = 1
      · rw [if_pos ⟨by omega, z⟩, if_pos z]
      · rw [if_neg (fun q => z q.2), if_neg z]
    have key := ih (U / 2) (B / 2) (fun u b => R (2 * u) (2 * b) + (if U % 2 = 1 then R (2 * u + 1) (2 * b) else 0) + (if B % 2 = 1 then R (2 * u) (2 * b + 1) else 0)) hU
    refine Eq.trans (sS_c fun y hy => ?_) (key.trans (sS_c fun u hu => ?_))
    · try dsimp only
      rw [a0, a0, a1, a1]
      by_cases zU : U % 2 = 1
      · have zB : ¬ B % 2 = 1 := fun z => hb ⟨zU, z⟩
        rw [if_pos (e2.mpr (Or.inl zU)), if_pos zU, if_neg zB, if_pos zU, if_neg zB]; simp only [Nat.add_zero]
      · by_cases zB : B % 2 = 1
        · rw [if_pos (e2.mpr (Or.inr zB)), if_neg zU, if_pos zB, if_neg zU, if_pos zB]; simp only [Nat.add_zero]
        · rw [if_neg (fun z => (e2.mp z).elim zU zB), if_neg zU, if_neg zB]
    · try dsimp only
      rw [sS_half, sS_half]
      have sAdd : ∀ (g g' : Nat → Nat), sS w (B / 2) (fun b => g b + g' b) = sS w (B / 2) g + sS w (B / 2) g' := fun g g' => by
        unfold sS
        rw [← sM_add]
        refine sM_c _ fun k _ => ?_
        split <;> rfl
      by_cases zU : U % 2 = 1
      · have zB : ¬ B % 2 = 1 := fun z => hb ⟨zU, z⟩
        simp only [if_pos zU, if_neg zB, Nat.add_zero]
        rw [sAdd]
      · simp only [if_neg zU, Nat.add_zero]
/-- how many sets within A hold P -/
def T (A : Nat) (P : Nat → Bool) : Nat := sS 12 A (fun x => if P x = true then 1 else 0)
theorem T_c {A : Nat} {P P' : Nat → Bool} (h : ∀ x, sub A x = true → P x = P' x) : T A P = T A P' := sS_c fun x hx => by rw [h x hx]
theorem T_mul {U B : Nat} {Q P : Nat → Bool} (h : U &&& B = 0) : T (U ||| B) (fun x => Q (x &&& U) && P (x &&& B)) = T U Q * T B P := by
  unfold T
  have h1 := disS 12 U B (fun u b => if (Q u && P b) = true then 1 else 0) h
  rw [h1]
  have h2 : ∀ u, sS 12 B (fun b => if (Q u && P b) = true then 1 else 0) = (if Q u = true then 1 else 0) * sS 12 B (fun b => if P b = true then 1 else 0) := fun u => by
    by_cases hq : Q u = true
    · rw [if_pos hq, Nat.one_mul]
      exact sS_c fun b _ => by simp [hq]
    · rw [if_neg hq, Nat.zero_mul]
      unfold sS
      exact sM_0 _ fun b _ => by simp [hq]
  have h3 : sS 12 U (fun u => sS 12 B (fun b => if (Q u && P b) = true then 1 else 0)) = sM (2 ^ 12) (fun u => sS 12 B (fun b => if P b = true then 1 else 0) * (if sub U u = true then (if Q u = true then 1 else 0) else 0)) := by
    unfold sS at h2 ⊢
    refine sM_c _ fun u _ => ?_
    dsimp only
    by_cases hs : sub U u = true
    · rw [if_pos hs, if_pos hs, h2 u, Nat.mul_comm]
    · rw [if_neg hs, if_neg hs, Nat.mul_zero]
  rw [h3, sM_mul, Nat.mul_comm]
  rfl
theorem T_pos {A : Nat} {P : Nat → Bool} (h : 0 < T A P) : ∃ x, sub A x = true ∧ P x = true := by
  obtain ⟨x, _, hx⟩ := sM_pos _ h
  dsimp only at hx
  split at hx
  · rename_i hs
    split at hx
    · rename_i hp; exact ⟨x, hs, hp⟩
    · omega
  · omega
theorem T_ex {A x : Nat} {P : Nat → Bool} (hA : A < 4096) (hs : sub A x = true) (hp : P x = true) : 0 < T A P := by
  have hx := sub_le hs
  have := sM_ge (g := fun x => if sub A x = true then (if P x = true then 1 else 0) else 0) (2 ^ 12) x (by show x < 4096; omega)
  try dsimp only at this
  rw [if_pos hs, if_pos hp] at this
  exact this
/-- how many, the least, what is in all -/
def LC3 (A : Nat) (P : Nat → Bool) (c l m : Nat) : Prop := c = T A P ∧ (0 < c → (sub A l = true ∧ P l = true) ∧ (∀ x, sub A x = true → P x = true → l ≤ x) ∧ ∀ k, m.testBit k = true ↔ ∀ x, sub A x = true → P x = true → x.testBit k = true)
theorem LC3_u {A c l m c' l' m' : Nat} {P : Nat → Bool} (h : LC3 A P c l m) (h' : LC3 A P c' l' m') : c = c' ∧ (0 < c → l = l' ∧ m = m') := by
  have e : c = c' := h.1.trans h'.1.symm
  refine ⟨e, fun h0 => ?_⟩
  obtain ⟨⟨a1, a2⟩, a3, a4⟩ := h.2 h0
  obtain ⟨⟨b1, b2⟩, b3, b4⟩ := h'.2 (e ▸ h0)
  have h1 := a3 l' b1 b2
  have h2 := b3 l a1 a2
  refine ⟨by omega, ?_⟩
  apply Nat.eq_of_testBit_eq
  intro k
  have := (a4 k).trans (b4 k).symm
  cases h1 : m.testBit k <;> cases h2 : m'.testBit k <;> simp_all
theorem LC3_c {A c l m : Nat} {P P' : Nat → Bool} (e : ∀ x, sub A x = true → P x = P' x) (h : LC3 A P c l m) : LC3 A P' c l m := by
  refine ⟨h.1.trans (T_c e), fun h0 => ?_⟩
  obtain ⟨⟨a1, a2⟩, a3, a4⟩ := h.2 h0
  refine ⟨⟨a1, by rw [← e l a1]; exact a2⟩, fun x hx hp => a3 x hx (by rw [e x hx]; exact hp), fun k => (a4 k).trans ⟨fun z x hx hp => z x hx (by rw [e x hx]; exact hp), fun z x hx hp => z x hx (by rw [← e x hx]; exact hp)⟩⟩
theorem and_sub {A x : Nat} : sub A (x &&& A) = true := by rw [sub_t]; intro k h; rw [Nat.testBit_and] at h; simp at h; exact h.2
theorem sub_and {A x : Nat} (h : sub A x = true) : x &&& A = x := by unfold sub at h; simpa using h
theorem or_and {U B u b : Nat} (h : U &&& B = 0) (hu : sub U u = true) (hb : sub B b = true) : (u ||| b) &&& U = u ∧ (u ||| b) &&& B = b ∧ sub (U ||| B) (u ||| b) = true := by
  have h0 : ∀ k, ¬ (U.testBit k = true ∧ B.testBit k = true) := fun k z => by
    have := congrArg (fun y => y.testBit k) h
    simp only [Nat.testBit_and, Nat.zero_testBit, z.1, z.2] at this
    cases this
  rw [sub_t] at hu hb
  refine ⟨?_, ?_, ?_⟩
  · apply Nat.eq_of_testBit_eq
    intro k
    rw [Nat.testBit_and, Nat.testBit_or]
    have h1 := hu k; have h2 := hb k; have h3 := h0 k
    cases e1 : u.testBit k <;> cases e2 : b.testBit k <;> cases e3 : U.testBit k <;> cases e4 : B.testBit k <;> simp_all
  · apply Nat.eq_of_testBit_eq
    intro k
    rw [Nat.testBit_and, Nat.testBit_or]
    have h1 := hu k; have h2 := hb k; have h3 := h0 k
    cases e1 : u.testBit k <;> cases e2 : b.testBit k <;> cases e3 : U.testBit k <;> cases e4 : B.testBit k <;> simp_all
  · rw [sub_t]
    intro k hk
    rw [Nat.testBit_or] at hk ⊢
    have h1 := hu k; have h2 := hb k
    cases e1 : u.testBit k <;> cases e2 : b.testBit k <;> simp_all
theorem or_dec {U B x : Nat} (h : sub (U ||| B) x = true) : x = (x &&& U) ||| (x &&& B) := by
  rw [sub_t] at h
  apply Nat.eq_of_testBit_eq
  intro k
  have h1 := h k
  rw [Nat.testBit_or] at h1
  rw [Nat.testBit_or, Nat.testBit_and, Nat.testBit_and]
  cases e1 : x.testBit k <;> cases e3 : U.testBit k <;> cases e4 : B.testBit k <;> simp_all
theorem or_mono {a b c e U B : Nat} (h : U &&& B = 0) (ha : sub U a = true) (hb : sub B b = true) (hc : sub U c = true) (he : sub B e = true) (h1 : a ≤ c) (h2 : b ≤ e) : a ||| b ≤ c ||| e := by
  have dj : ∀ {x y : Nat}, sub U x = true → sub B y = true → x ||| y = x + y := fun {x y} hx hy => by
    have hz : x &&& y = 0 := by
      apply Nat.eq_of_testBit_eq
      intro k
      rw [sub_t] at hx hy
      have := congrArg (fun y => y.testBit k) h
      simp only [Nat.testBit_and, Nat.zero_testBit] at this ⊢
      have h1 := hx k; have h2 := hy k
      cases e1 : x.testBit k <;> cases e2 : y.testBit k <;> simp_all
    exact or_add x x y (Nat.lt_two_pow_self) hz
  rw [dj ha hb, dj hc he]; omega
theorem LC3_m {U B c1 l1 m1' c2 l2 m2 : Nat} {Q P : Nat → Bool} (hd : U &&& B = 0) (h1 : LC3 U Q c1 l1 m1') (h2 : LC3 B P c2 l2 m2) : LC3 (U ||| B) (fun x => Q (x &&& U) && P (x &&& B)) (c1 * c2) (l1 ||| l2) (m1' ||| m2) := by
  refine ⟨by rw [h1.1, h2.1, T_mul hd], fun h0 => ?_⟩
  have p1 : 0 < c1 := Nat.pos_of_mul_pos_right h0
  have p2 : 0 < c2 := Nat.pos_of_mul_pos_left h0
  obtain ⟨⟨a1, a2⟩, a3, a4⟩ := h1.2 p1
  obtain ⟨⟨b1, b2⟩, b3, b4⟩ := h2.2 p2
  obtain ⟨o1, o2, o3⟩ := or_and hd a1 b1
  refine ⟨⟨o3, by simp only [o1, o2, a2, b2, Bool.and_self]⟩, fun x hx hp => ?_, fun k => ?_⟩
  · simp only [Bool.and_eq_true] at hp
    rw [or_dec hx]
    exact or_mono hd a1 b1 and_sub and_sub (a3 _ and_sub hp.1) (b3 _ and_sub hp.2)
  · rw [Nat.testBit_or, Bool.or_eq_true]
    constructor
    · intro hk x hx hp
      simp only [Bool.and_eq_true] at hp
      rcases hk with hk | hk
      · have := (a4 k).mp hk _ (and_sub (x := x)) hp.1
        rw [Nat.testBit_and, Bool.and_eq_true] at this
        exact this.1
      · have := (b4 k).mp hk _ (and_sub (x := x)) hp.2
        rw [Nat.testBit_and, Bool.and_eq_true] at this
        exact this.1
    · intro hk
      have h3 := hk _ o3 (by simp only [o1, o2, a2, b2, Bool.and_self])
      rw [Nat.testBit_or, Bool.or_eq_true] at h3
      rcases h3 with h3 | h3
      · left
        rw [a4]
        intro u hu hq
        obtain ⟨x1, x2, x3⟩ := or_and hd hu b1
        have h4 := hk _ x3 (by simp only [x1, x2, hq, b2, Bool.and_self])
        have h5 : (u ||| l2) &&& U = u := x1
        have h6 := congrArg (fun y => y.testBit k) h5
        simp only [Nat.testBit_and, h4] at h6
        rw [← h6]
        rw [sub_t] at a1
        simpa using a1 k h3
      · right
        rw [b4]
        intro b hb hq
        obtain ⟨x1, x2, x3⟩ := or_and hd a1 hb
        have h4 := hk _ x3 (by simp only [x1, x2, hq, a2, Bool.and_self])
        have h6 := congrArg (fun y => y.testBit k) x2
        simp only [Nat.testBit_and, h4] at h6
        rw [← h6]
        rw [sub_t] at b1
        simpa using b1 k h3
