/-! INTS THAT ARE NUMBERS: i32 k; the constants of the code -/
def i32 (k : Nat) : Int32 := Int32.ofNat k
theorem c_0 : (0 : Int32) = i32 0 := rfl
theorem c_1 : (1 : Int32) = i32 1 := rfl
theorem c_2 : (2 : Int32) = i32 2 := rfl
theorem c_3 : (3 : Int32) = i32 3 := rfl
theorem c_4 : (4 : Int32) = i32 4 := rfl
theorem c_5 : (5 : Int32) = i32 5 := rfl
theorem c_6 : (6 : Int32) = i32 6 := rfl
theorem c_7 : (7 : Int32) = i32 7 := rfl
theorem c_8 : (8 : Int32) = i32 8 := rfl
theorem c_9 : (9 : Int32) = i32 9 := rfl
theorem c_10 : (10 : Int32) = i32 10 := rfl
theorem c_11 : (11 : Int32) = i32 11 := rfl
theorem c_12 : (12 : Int32) = i32 12 := rfl
theorem c_13 : (13 : Int32) = i32 13 := rfl
theorem c_14 : (14 : Int32) = i32 14 := rfl
theorem c_15 : (15 : Int32) = i32 15 := rfl
theorem c_16 : (16 : Int32) = i32 16 := rfl
theorem c_17 : (17 : Int32) = i32 17 := rfl
theorem c_18 : (18 : Int32) = i32 18 := rfl
theorem c_19 : (19 : Int32) = i32 19 := rfl
theorem c_20 : (20 : Int32) = i32 20 := rfl
theorem c_21 : (21 : Int32) = i32 21 := rfl
theorem c_22 : (22 : Int32) = i32 22 := rfl
theorem c_23 : (23 : Int32) = i32 23 := rfl
theorem c_24 : (24 : Int32) = i32 24 := rfl
theorem c_25 : (25 : Int32) = i32 25 := rfl
theorem c_26 : (26 : Int32) = i32 26 := rfl
theorem c_27 : (27 : Int32) = i32 27 := rfl
theorem c_28 : (28 : Int32) = i32 28 := rfl
theorem c_29 : (29 : Int32) = i32 29 := rfl
theorem c_30 : (30 : Int32) = i32 30 := rfl
theorem c_31 : (31 : Int32) = i32 31 := rfl
theorem c_32 : (32 : Int32) = i32 32 := rfl
theorem c_33 : (33 : Int32) = i32 33 := rfl
theorem c_34 : (34 : Int32) = i32 34 := rfl
theorem c_35 : (35 : Int32) = i32 35 := rfl
theorem c_36 : (36 : Int32) = i32 36 := rfl
theorem c_37 : (37 : Int32) = i32 37 := rfl
theorem c_38 : (38 : Int32) = i32 38 := rfl
theorem c_39 : (39 : Int32) = i32 39 := rfl
theorem c_40 : (40 : Int32) = i32 40 := rfl
theorem c_41 : (41 : Int32) = i32 41 := rfl
theorem c_42 : (42 : Int32) = i32 42 := rfl
theorem c_43 : (43 : Int32) = i32 43 := rfl
theorem c_44 : (44 : Int32) = i32 44 := rfl
theorem c_45 : (45 : Int32) = i32 45 := rfl
theorem c_46 : (46 : Int32) = i32 46 := rfl
theorem c_47 : (47 : Int32) = i32 47 := rfl
theorem c_48 : (48 : Int32) = i32 48 := rfl
theorem c_49 : (49 : Int32) = i32 49 := rfl
theorem c_50 : (50 : Int32) = i32 50 := rfl
theorem c_51 : (51 : Int32) = i32 51 := rfl
theorem c_52 : (52 : Int32) = i32 52 := rfl
theorem c_53 : (53 : Int32) = i32 53 := rfl
theorem c_54 : (54 : Int32) = i32 54 := rfl
theorem c_55 : (55 : Int32) = i32 55 := rfl
theorem c_56 : (56 : Int32) = i32 56 := rfl
theorem c_57 : (57 : Int32) = i32 57 := rfl
theorem c_58 : (58 : Int32) = i32 58 := rfl
theorem c_59 : (59 : Int32) = i32 59 := rfl
theorem c_60 : (60 : Int32) = i32 60 := rfl
theorem c_61 : (61 : Int32) = i32 61 := rfl
theorem c_62 : (62 : Int32) = i32 62 := rfl
theorem c_63 : (63 : Int32) = i32 63 := rfl
theorem c_96 : (96 : Int32) = i32 96 := rfl
theorem c_97 : (97 : Int32) = i32 97 := rfl
theorem c_99 : (99 : Int32) = i32 99 := rfl
theorem c_100 : (100 : Int32) = i32 100 := rfl
theorem c_119 : (119 : Int32) = i32 119 := rfl
theorem c_120 : (120 : Int32) = i32 120 := rfl
theorem c_122 : (122 : Int32) = i32 122 := rfl
theorem c_123 : (123 : Int32) = i32 123 := rfl
theorem c_125 : (125 : Int32) = i32 125 := rfl
theorem c_150 : (150 : Int32) = i32 150 := rfl
theorem c_160 : (160 : Int32) = i32 160 := rfl
theorem c_200 : (200 : Int32) = i32 200 := rfl
theorem c_255 : (255 : Int32) = i32 255 := rfl
theorem c_400 : (400 : Int32) = i32 400 := rfl
theorem c_600 : (600 : Int32) = i32 600 := rfl
theorem c_999 : (999 : Int32) = i32 999 := rfl
theorem c_1000 : (1000 : Int32) = i32 1000 := rfl
theorem c_2295 : (2295 : Int32) = i32 2295 := rfl
theorem c_100000 : (100000 : Int32) = i32 100000 := rfl
theorem c_32767 : (32767 : Int32) = i32 32767 := rfl
theorem i_int {a : Nat} (h : a < 2147483648) : (i32 a).toInt = a := Int32.toInt_ofNat_of_lt h
theorem i_add {a b : Nat} : i32 a + i32 b = i32 (a + b) := (Int32.ofNat_add a b).symm
theorem i_mul {a b : Nat} : i32 a * i32 b = i32 (a * b) := (Int32.ofNat_mul a b).symm
theorem i_sub {a b : Nat} (h : b ≤ a) : i32 a - i32 b = i32 (a - b) := (Int32.ofNat_sub a b h).symm
theorem i_tn {a : Nat} (h : a < 2147483648) : (i32 a).toNatClampNeg = a := by
  show (i32 a).toInt.toNat = a
  rw [i_int h]; omega
theorem i_lt {a b : Nat} (ha : a < 2147483648) (hb : b < 2147483648) : (i32 a < i32 b) = (a < b) := by
  rw [Int32.lt_iff_toInt_lt, i_int ha, i_int hb]; simp
theorem i_eq {a b : Nat} (ha : a < 2147483648) (hb : b < 2147483648) : (i32 a = i32 b) = (a = b) := by
  refine propext ⟨fun h => ?_, fun h => by rw [h]⟩
  have := congrArg Int32.toInt h
  rw [i_int ha, i_int hb] at this
  omega
theorem i_vi {a n : Nat} (h : a < n) (hn : n ≤ 2147483648) : vp_in (i32 a) n = True := by
  refine eq_true ?_
  unfold vp_in
  rw [i_tn (by omega), c_0, i_lt (by omega) (by omega)]
  omega
theorem n_ltT {a b : Nat} (h : a < b) : (a < b) = True := eq_true h
theorem n_ltF {a b : Nat} (h : b ≤ a) : (a < b) = False := eq_false (Nat.not_lt.mpr h)
theorem n_eqT {a b : Nat} (h : a = b) : (a = b) = True := eq_true h
theorem n_eqF {a b : Nat} (h : a ≠ b) : (a = b) = False := eq_false h
theorem n_leT {a b : Nat} (h : a ≤ b) : (a ≤ b) = True := eq_true h
theorem i_shl {k : Nat} (h : k < 31) : i32 1 <<< (i32 k &&& i32 31) = i32 (2 ^ k) := by
  exact (by decide +kernel : ∀ k < 31, i32 1 <<< (i32 k &&& i32 31) = i32 (2 ^ k)) k h
theorem nb_0 : (narrow .boolean (.int (i32 0)) = .int (i32 0)) = True := eq_true (by decide)
theorem nb_1 : (narrow .boolean (.int (i32 1)) = .int (i32 1)) = True := eq_true (by decide)
/-- a loop that goes up -/
theorem up_to {P : Nat → Prop} {n : Nat} (h : ∀ k, k < n → (P k ↔ P (k + 1))) : ∀ k, k ≤ n → (P k ↔ P n) := by
  intro k hk
  obtain ⟨m, rfl⟩ := Nat.exists_eq_add_of_le hk
  clear hk
  induction m generalizing k with
  | zero => exact Iff.rfl
  | succ m ih =>
    have e : k + (m + 1) = (k + 1) + m := by omega
    rw [e] at h ⊢
    exact (h k (by omega)).trans (ih (k + 1) h)
theorem ex_eq {α : Type} {P : α → Prop} {a : α} : (∃ x, x = a ∧ P x) ↔ P a := ⟨fun ⟨x, h, p⟩ => h ▸ p, fun p => ⟨a, rfl, p⟩⟩
theorem t_and {P : Prop} : (True ∧ P) ↔ P := ⟨fun h => h.2, fun h => ⟨trivial, h⟩⟩
def sumN (n : Nat) (f : Nat → Int32) : Int32 := match n with
  | 0 => i32 0
  | n + 1 => sumN n f + f n
def orN (n : Nat) (f : Nat → Int32) : Int32 := match n with
  | 0 => i32 0
  | n + 1 => orN n f ||| f n
theorem ite_int {P : Prop} [h : Decidable P] {Q : Value → Prop} {a b : Int32} : (if P then Q (.int a) else Q (.int b)) = Q (.int (if P then a else b)) := by split <;> rfl
