/-! BITS, and reads of changed memory -/
theorem i_bv (a : Nat) : (i32 a).toBitVec = BitVec.ofNat 32 a := rfl
theorem i_and {a b : Nat} : i32 a &&& i32 b = i32 (a &&& b) := by
  rw [← Int32.toBitVec_inj, Int32.toBitVec_and, i_bv, i_bv, i_bv]
  apply BitVec.eq_of_toNat_eq
  rw [BitVec.toNat_and, BitVec.toNat_ofNat, BitVec.toNat_ofNat, BitVec.toNat_ofNat, Nat.and_mod_two_pow]
theorem i_or {a b : Nat} : i32 a ||| i32 b = i32 (a ||| b) := by
  rw [← Int32.toBitVec_inj, Int32.toBitVec_or, i_bv, i_bv, i_bv]
  apply BitVec.eq_of_toNat_eq
  rw [BitVec.toNat_or, BitVec.toNat_ofNat, BitVec.toNat_ofNat, BitVec.toNat_ofNat, Nat.or_mod_two_pow]
def bitsN (n : Nat) (p : Nat → Bool) : Nat := match n with
  | 0 => 0
  | n + 1 => bitsN n p ||| (if p n = true then 2 ^ n else 0)
def cntN (n : Nat) (p : Nat → Bool) : Nat := match n with
  | 0 => 0
  | n + 1 => cntN n p + (if p n = true then 1 else 0)
theorem bits_test {n : Nat} {p : Nat → Bool} {k : Nat} : (bitsN n p).testBit k = (decide (k < n) && p k) := by
  induction n with
  | zero => simp [bitsN]
  | succ n ih =>
    rw [bitsN, Nat.testBit_or, ih]
    by_cases h : p n = true
    · rw [if_pos h, Nat.testBit_two_pow]
      by_cases h1 : k < n
      · have : k < n + 1 := by omega
        have h3 : ¬ n = k := by omega
        simp [h1, this, h3]
      · by_cases h2 : n = k
        · subst h2; simp [h]
        · have : ¬ k < n + 1 := by omega
          simp [h1, h2, this]
    · rw [if_neg h]
      by_cases h1 : k < n
      · have : k < n + 1 := by omega
        simp [h1, this]
      · by_cases h2 : n = k
        · subst h2; simp [h]
        · have : ¬ k < n + 1 := by omega
          simp [h1, this]
theorem bits_lt {n : Nat} {p : Nat → Bool} : bitsN n p < 2 ^ n := by
  induction n with
  | zero => simp [bitsN]
  | succ n ih =>
    rw [bitsN]
    refine Nat.or_lt_two_pow (Nat.lt_trans ih (Nat.pow_lt_pow_right (by decide) (by omega))) ?_
    split
    · exact Nat.pow_lt_pow_right (by decide) (by omega)
    · exact Nat.two_pow_pos _
theorem cnt_le {n : Nat} {p : Nat → Bool} : cntN n p ≤ n := by
  induction n with
  | zero => exact Nat.le_refl _
  | succ n ih => rw [cntN]; split <;> omega
theorem bits_congr {n : Nat} {p q : Nat → Bool} (h : ∀ k, k < n → p k = q k) : bitsN n p = bitsN n q := by
  induction n with
  | zero => rfl
  | succ n ih => rw [bitsN, bitsN, ih (fun k hk => h k (by omega)), h n (by omega)]
theorem cnt_congr {n : Nat} {p q : Nat → Bool} (h : ∀ k, k < n → p k = q k) : cntN n p = cntN n q := by
  induction n with
  | zero => rfl
  | succ n ih => rw [cntN, cntN, ih (fun k hk => h k (by omega)), h n (by omega)]
theorem sum_congr {n : Nat} {f g : Nat → Int32} (h : ∀ k, k < n → f k = g k) : sumN n f = sumN n g := by
  induction n with
  | zero => rfl
  | succ n ih => rw [sumN, sumN, ih (fun k hk => h k (by omega)), h n (by omega)]
theorem two31 : (2147483648 : Nat) = 2 ^ 31 := rfl
theorem pow_le31 {k : Nat} (h : k < 31) : 2 ^ k < 2147483648 := by rw [two31]; exact Nat.pow_lt_pow_right (by decide) h
theorem bits_31 {n : Nat} {p : Nat → Bool} (h : n ≤ 31) : bitsN n p < 2147483648 := by
  rw [two31]; exact Nat.lt_of_lt_of_le bits_lt (Nat.pow_le_pow_right (by decide) h)
theorem i_z {a : Nat} (h : a < 2147483648) : (i32 a = i32 0) = (a = 0) := i_eq h (by decide)
theorem and_pow {x k : Nat} : (x &&& 2 ^ k = 0) = (x.testBit k = false) := by
  refine propext ⟨fun h => ?_, fun h => ?_⟩
  · have := congrArg (fun z => Nat.testBit z k) h
    simpa [Nat.testBit_and, Nat.testBit_two_pow] using this
  · apply Nat.eq_of_testBit_eq
    intro i
    rw [Nat.testBit_and, Nat.testBit_two_pow, Nat.zero_testBit]
    by_cases e : k = i
    · subst e; simp [h]
    · simp [e]
theorem i_bt {n : Nat} {p : Nat → Bool} {k : Nat} (hn : n ≤ 31) : (i32 (bitsN n p) &&& i32 (2 ^ k) = i32 0) = ¬ (k < n ∧ p k = true) := by
  rw [i_and, i_z (Nat.lt_of_le_of_lt Nat.and_le_left (bits_31 hn)), and_pow]
  rw [bits_test]
  by_cases h1 : k < n <;> by_cases h2 : p k = true <;> simp [h1, h2]
theorem i_ob {n : Nat} {p : Nat → Bool} (h : p n = true) : i32 (bitsN n p) ||| i32 (2 ^ n) = i32 (bitsN (n + 1) p) := by
  rw [i_or, bitsN, if_pos h]
theorem i_oz {n : Nat} {p : Nat → Bool} (h : ¬ p n = true) : i32 (bitsN n p) ||| i32 0 = i32 (bitsN (n + 1) p) := by
  rw [i_or, bitsN, if_neg h]
theorem bits_s {n : Nat} {p : Nat → Bool} : i32 (bitsN (n + 1) p) = if p n = true then i32 (bitsN n p) ||| i32 (2 ^ n) else i32 (bitsN n p) ||| i32 0 := by
  split
  · exact (i_ob ‹_›).symm
  · exact (i_oz ‹_›).symm
/-- yes or no -/
def b2 (p : Prop) [h : Decidable p] : Int32 := if p then i32 1 else i32 0
theorem b2_0 {p : Prop} [Decidable p] : (b2 p = i32 0) = ¬ p := by
  unfold b2
  by_cases h : p
  · rw [if_pos h]; simp [h]; decide
  · rw [if_neg h]; simp [h]
theorem b2_n {p : Prop} [Decidable p] : (narrow .boolean (.int (b2 p)) = .int (b2 p)) = True := by
  unfold b2
  split
  · exact nb_1
  · exact nb_0
theorem b2_t {p : Prop} [Decidable p] (h : p) : b2 p = i32 1 := if_pos h
theorem b2_f {p : Prop} [Decidable p] (h : ¬ p) : b2 p = i32 0 := if_neg h
theorem u_c {I : VI} {k j k' j' : Nat} {x : Int32} (h : k' ≠ k) : u2 I k j x k' j' = I k' j' := if_neg h
theorem u_s {I : VI} {k j : Nat} {x : Int32} : u2 I k j x k j = x := by unfold u2; rw [if_pos rfl, if_pos rfl]
theorem u_j {I : VI} {k j j' : Nat} {x : Int32} (h : j' ≠ j) : u2 I k j x k j' = I k j' := by unfold u2; rw [if_pos rfl, if_neg h]
theorem u_row {I : VI} {k j k' : Nat} {x : Int32} (h : k' ≠ k) : u2 I k j x k' = I k' := funext fun _ => if_neg h
/-- what the law's stacks and terms hold is of no account -/
def flS (c : Nat) : Prop := c = 37 ∨ c = 53 ∨ c = 56 ∨ c = 453 ∨ c = 454
def nfl (c : Nat) : Prop := c ≠ 37 ∧ c ≠ 53 ∧ c ≠ 56 ∧ c ≠ 453 ∧ c ≠ 454
def ov (I X : VI) : VI := fun c j => if c = 37 ∨ c = 53 ∨ c = 56 ∨ c = 453 ∨ c = 454 then X c j else I c j
theorem ov_n {I X : VI} {c j : Nat} (h : c ≠ 37 ∧ c ≠ 53 ∧ c ≠ 56 ∧ c ≠ 453 ∧ c ≠ 454) : ov I X c j = I c j := if_neg (by omega)
theorem ov_row {I X : VI} {c : Nat} (h : c ≠ 37 ∧ c ≠ 53 ∧ c ≠ 56 ∧ c ≠ 453 ∧ c ≠ 454) : ov I X c = I c := funext fun _ => ov_n h
theorem ov_s {I X : VI} {c j : Nat} (h : c = 37 ∨ c = 53 ∨ c = 56 ∨ c = 453 ∨ c = 454) : ov I X c j = X c j := if_pos h
theorem ov_u {I X : VI} {c j : Nat} {x : Int32} (h : c ≠ 37 ∧ c ≠ 53 ∧ c ≠ 56 ∧ c ≠ 453 ∧ c ≠ 454) : u2 (ov I X) c j x = ov (u2 I c j x) X := by
  have hn : ¬ (c = 37 ∨ c = 53 ∨ c = 56 ∨ c = 453 ∨ c = 454) := by omega
  funext c' j'
  by_cases h1 : c' = c
  · subst h1; simp only [u2, ov, if_neg hn, if_true]
  · simp only [u2, ov, if_neg h1]
theorem ov_w {I X : VI} {c j : Nat} {x : Int32} (h : c = 37 ∨ c = 53 ∨ c = 56 ∨ c = 453 ∨ c = 454) : u2 (ov I X) c j x = ov I (u2 X c j x) := by
  funext c' j'
  by_cases h1 : c' = c
  · subst h1; simp only [u2, ov, if_pos h, if_true]
  · simp only [u2, ov, if_neg h1]
theorem ov_self {I : VI} : ov I I = I := by funext c j; unfold ov; split <;> rfl
theorem ov_ov {I X Y : VI} : ov (ov I X) Y = ov I Y := by funext c j; unfold ov; split <;> rfl
