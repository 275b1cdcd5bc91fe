/-! YEARS BY A SEED -/
def lcg (s : Int32) : Int32 := s * 1103515245 + 12345
def drN (s : Int32) : Nat := ((s >>> (i32 16 &&& i32 31)) &&& i32 32767).toNatClampNeg
theorem dr_bit {s : Int32} {k : Nat} : ((s >>> (i32 16 &&& i32 31)) &&& i32 32767).toBitVec.getLsbD k = (decide (k < 15) && s.toBitVec.getLsbD (16 + k)) := by
  have e : s >>> (i32 16 &&& i32 31) = ⟨⟨s.toBitVec.sshiftRight 16⟩⟩ := rfl
  rw [Int32.toBitVec_and, e, i_bv, BitVec.getLsbD_and, BitVec.getLsbD_ofNat]
  show ((s.toBitVec.sshiftRight 16).getLsbD k && _) = _
  rw [BitVec.getLsbD_sshiftRight]
  have h15 : (32767 : Nat).testBit k = decide (k < 15) := by
    rw [show 32767 = 2 ^ 15 - 1 from rfl, Nat.testBit_two_pow_sub_one]
  rw [h15]
  by_cases hk : k < 15
  · have h1 : k < 32 := by omega
    have h2 : 16 + k < 32 := by omega
    have h3 : ¬ 32 ≤ k := by omega
    simp [hk, h1, h2, h3]
  · simp [hk]
theorem us_bit {s : Int32} {k : Nat} : ((ushr s (i32 16)) &&& i32 32767).toBitVec.getLsbD k = (decide (k < 15) && s.toBitVec.getLsbD (16 + k)) := by
  have e : ushr s (i32 16) = ⟨⟨s.toBitVec >>> 16⟩⟩ := rfl
  rw [Int32.toBitVec_and, e, i_bv, BitVec.getLsbD_and, BitVec.getLsbD_ofNat]
  show ((s.toBitVec >>> 16).getLsbD k && _) = _
  rw [BitVec.getLsbD_ushiftRight]
  have h15 : (32767 : Nat).testBit k = decide (k < 15) := by
    rw [show 32767 = 2 ^ 15 - 1 from rfl, Nat.testBit_two_pow_sub_one]
  rw [h15]
  by_cases hk : k < 15
  · have h1 : k < 32 := by omega
    simp [hk, h1]
  · simp [hk]
theorem dr_ok {s : Int32} : (s >>> (i32 16 &&& i32 31)) &&& i32 32767 = i32 (drN s) ∧ drN s < 32768 ∧ ushr s (i32 16) &&& i32 32767 = i32 (drN s) := by
  have hu : ushr s (i32 16) &&& i32 32767 = (s >>> (i32 16 &&& i32 31)) &&& i32 32767 := by
    apply Int32.toBitVec_inj.mp
    apply BitVec.eq_of_getLsbD_eq
    intro k _
    rw [dr_bit, us_bit]
  have hlt : ((s >>> (i32 16 &&& i32 31)) &&& i32 32767).toBitVec.toNat < 32768 := by
    rw [show 32768 = 2 ^ 15 from rfl]
    refine Nat.lt_pow_two_of_testBit _ fun k hk => ?_
    rw [BitVec.testBit_toNat, dr_bit]
    have : ¬ k < 15 := by omega
    simp [this]
  have hint : ((s >>> (i32 16 &&& i32 31)) &&& i32 32767).toInt = (((s >>> (i32 16 &&& i32 31)) &&& i32 32767).toBitVec.toNat : Int) := by
    show BitVec.toInt _ = _
    rw [BitVec.toInt_eq_toNat_of_lt]
    omega
  have hdr : drN s = ((s >>> (i32 16 &&& i32 31)) &&& i32 32767).toBitVec.toNat := by
    unfold drN Int32.toNatClampNeg
    rw [hint]; rfl
  refine ⟨?_, by rw [hdr]; exact hlt, hu.trans ?_⟩ <;>
  · apply Int32.toInt_inj.mp
    rw [i_int (by rw [hdr]; omega), hdr, hint]
theorem c_12345 : (12345 : Int32) = i32 12345 := rfl
theorem i_rem {a b : Nat} (ha : a < 2147483648) (hb : b < 2147483648) (h0 : 0 < b) : i32 a - i32 a / i32 b * i32 b = i32 (a % b) := by
  have h1 := Nat.div_add_mod a b
  have h2 : a / b * b ≤ a := Nat.div_mul_le_self a b
  rw [i_div ha hb, i_mul, i_sub h2]
  congr 1
  rw [Nat.mul_comm] at h1
  omega
theorem c66 {d n : Nat} {I : VI} {L : VL} {S : SW} {r : Res} (hS : S.1 = W0 n) {b : Nat} (h0 : 0 < b) (hb : b < 100) : EvD (d + 1) 66 [.ref 70, .int (i32 b)] I L S r ↔ r = (.inl (some (.int (i32 (drN (lcg (I 70 2)) % b)))), u2 I 70 2 (lcg (I 70 2)), L, S) := by
  obtain ⟨e1, e2, e3⟩ := dr_ok (s := lcg (I 70 2))
  have e4 : I 70 2 * 1103515245 + 12345 = lcg (I 70 2) := rfl
  simp (disch := first | assumption | omega) only [in66, k66_0, k66_1, k66_2, k66_5, k66_7, k66_8, k66_11, k66_12, k66_15, k66_16, k66_19, k66_20, k66_23, k66_24, k66_27, k66_29, k66_30, k66_33, k66_34, k66_35, k66_36, c_0, c_16, c_31, c_32767, hS, t_16, f_16_0, f_16_1, f_16_2, f_16_3, f_16_4, f_16_5, f_16_6, f_16_7, f_16_8, f_16_9, f_16_10, f_16_11, f_16_12, f_16_13, t_17, f_17_0, t_18, l_18, t_19, f_19_0, f_19_1, f_19_2, f_19_3, f_19_4, f_19_5, f_19_6, t_20, l_20, t_21, l_21, t_22, l_22, t_23, l_23, t_24, l_24, t_25, l_25, t_26, l_26, t_27, f_27_0, f_27_1, f_27_2, f_27_3, f_27_4, f_27_5, f_27_6, t_28, l_28, t_29, l_29, t_30, l_30, t_31, l_31, t_32, l_32, t_33, l_33, t_34, l_34, t_35, f_35_0, f_35_1, t_36, l_36, t_37, l_37, t_38, f_38_0, f_38_1, t_39, l_39, t_40, l_40, t_41, f_41_0, t_42, l_42, t_43, f_43_0, t_44, l_44, t_45, f_45_0, f_45_1, f_45_2, f_45_3, t_46, l_46, t_47, l_47, t_48, l_48, t_49, l_49, t_50, l_50, t_51, f_51_0, f_51_1, f_51_2, f_51_3, t_52, l_52, t_53, l_53, t_54, f_54_0, f_54_1, f_54_2, f_54_3, t_55, l_55, t_56, l_56, t_57, f_57_0, f_57_1, f_57_2, f_57_3, t_58, l_58, t_59, l_59, t_60, l_60, t_61, f_61_0, f_61_1, f_61_2, f_61_3, f_61_4, f_61_5, f_61_6, t_62, l_62, t_63, f_63_0, f_63_1, t_64, l_64, t_65, l_65, t_66, f_66_0, f_66_1, t_67, l_67, t_68, l_68, t_69, l_69, t_70, f_70_0, f_70_1, t_1, l_1, t_2, l_2, m_t, m_f0, m_f1, m_f2, m_f3, m_t1, m_l1, m_t2, m_l2, rowX_s, rowX_n, rowX_f, rowX_2, up_s, up_n, Nat.zero_add, n_m1, i_dec, cat_n, cat_i, cat_r, cat_l, i_add, i_tn, i_vi, i_lt, i_eq, i_shl, n_ltT, n_ltF, n_eqT, n_eqF, n_leT, t_and, nb_0, nb_1, b2_0, b2_n, cont_v, cont_n, ex_eq, u_s, u_c, u_j, ↓reduceIte, ite_not, not_true_eq_false, not_false_eq_true, Bool.false_eq_true, Bool.true_eq_false, false_and, true_and, and_false, and_true, or_self, or_false, false_or, or_true, true_or, cont_x, n_leF, c_1, e4, e3, i_rem]
theorem d273 {d n : Nat} {I : VI} {L : VL} {S : SW} {r : Res} (hS : S.1 = W0 n) {b : Nat} (h0 : 0 < b) (hb : b < 100) : EvD (d + 1) 273 [.ref 71, .int (i32 b)] I L S r ↔ r = (.inl (some (.int (i32 (drN (lcg (I 71 42)) % b)))), u2 I 71 42 (lcg (I 71 42)), L, S) := by
  obtain ⟨e1, e2, e3⟩ := dr_ok (s := lcg (I 71 42))
  have e4 : I 71 42 * 1103515245 + 12345 = lcg (I 71 42) := rfl
  simp (disch := first | assumption | omega) only [in273, k273_0, k273_1, k273_2, k273_5, k273_8, k273_9, k273_12, k273_13, k273_16, k273_17, k273_20, k273_22, k273_23, k273_26, k273_27, k273_28, k273_29, c_0, c_16, c_31, c_32767, hS, t_71, f_71_9, f_71_10, f_71_11, f_71_12, f_71_13, f_71_14, f_71_15, f_71_16, f_71_17, f_71_20, f_71_21, f_71_22, f_71_23, f_71_24, f_71_25, f_71_26, f_71_28, f_71_29, f_71_30, f_71_31, f_71_32, f_71_40, f_71_41, t_72, l_72, t_73, l_73, t_74, l_74, t_75, l_75, t_76, l_76, t_77, l_77, t_84, l_84, t_91, l_91, t_104, l_104, t_117, l_117, t_278, l_278, t_439, l_439, t_446, l_446, t_453, l_453, t_454, l_454, t_455, l_455, t_536, l_536, t_537, l_537, t_538, l_538, t_539, l_539, t_556, l_556, t_560, l_560, t_561, l_561, f_77, t_78, l_78, f_84, t_85, l_85, f_91, t_92, l_92, f_104, t_105, l_105, f_117, t_118, l_118, f_278, t_279, l_279, f_439, t_440, l_440, f_446, t_447, l_447, f_455, t_456, l_456, f_539, t_540, l_540, f_556, t_557, l_557, w_t, w_l, rowX_s, rowX_n, rowX_f, rowX_2, up_s, up_n, Nat.zero_add, n_m1, i_dec, cat_n, cat_i, cat_r, cat_l, i_add, i_tn, i_vi, i_lt, i_eq, i_shl, n_ltT, n_ltF, n_eqT, n_eqF, n_leT, t_and, nb_0, nb_1, b2_0, b2_n, cont_v, cont_n, ex_eq, u_s, u_c, u_j, ↓reduceIte, ite_not, not_true_eq_false, not_false_eq_true, Bool.false_eq_true, Bool.true_eq_false, false_and, true_and, and_false, and_true, or_self, or_false, false_or, or_true, true_or, cont_x, n_leF, c_1, e4, e1, c_31, i_rem]
/-! the reference's year, purely -/
section Pure
variable (nh nd : Nat) (mou : Nat → Int32) (F : (Nat → Int32) → Nat → Int32) (db : Nat → Nat) (q : Nat)
def grS (g : Nat → Int32) (k : Nat) : Nat → Int32 := if thr nd g k = true ∧ ¬ g 42 < i32 1 + g k / i32 5 then grM g k (db k) (F g k) else g
def raS (g : Nat → Int32) : Nat → Int32 := if ¬ g 42 = i32 99 then updF g 42 (mnI (i32 99) (g 42 + i32 5)) else g
def swS (g : Nat → Int32) (k : Nat) : Nat → Int32 := if thr nd g k = true ∧ ¬ g k = i32 60 then updF g k (mnI (i32 60) (g k + i32 3)) else g
def niM (g : Nat → Int32) (s : Int32) : Nat → Int32 := swS nd (if drN (lcg (lcg s)) % 16 < q then raS (grS nd F db g (drN (lcg s) % nd)) else grS nd F db g (drN (lcg s) % nd)) (drN (lcg (lcg (lcg s))) % nd)
def yI (g0 : Nat → Int32) (s0 : Int32) : Nat → (Nat → Int32) × Int32
  | 0 => (g0, s0)
  | k + 1 => (dayM nh nd mou (if 0 < nd then niM nd F db q (yI g0 s0 k).1 (yI g0 s0 k).2 else (yI g0 s0 k).1), if 0 < nd then lcg (lcg (lcg (yI g0 s0 k).2)) else (yI g0 s0 k).2)
end Pure
def cam (nh : Nat) (g : Nat → Int32) : Int32 := sumN nh (fun h => g (36 + h))
theorem cam_n {nh : Nat} {g g' : Nat → Int32} (h : ∀ i, i < nh → g' (36 + i) = g (36 + i)) : cam nh g' = cam nh g := sum_congr h
theorem sum_upd {n a : Nat} {f f' : Nat → Int32} {x : Int32} (ha : a < n) (h : ∀ k, k < n → f' k = if k = a then f k + x else f k) : sumN n f' = sumN n f + x := by
  rw [← sum_rem (g := f') ha, ← sum_rem (g := f) ha, h a ha, if_pos rfl, Int32.add_assoc]
  congr 1
  refine sum_congr fun k hk => ?_
  by_cases e : k = a
  · rw [if_pos e, if_pos e]
  · rw [if_neg e, if_neg e, h k hk, if_neg e]
theorem cam_gr {nh k a : Nat} {g : Nat → Int32} {fl : Int32} (h6 : nh ≤ 6) (ha : a < nh) (hk : k < 12) : cam nh (grM g k a fl) = cam nh g + fl := by
  refine sum_upd ha fun i hi => ?_
  unfold grM
  rw [remM_n (by omega), up_n (by omega)]
  by_cases e : i = a
  · subst e; rw [up_s, if_pos rfl]
  · rw [up_n (by omega), up_n (by omega), if_neg e]
theorem dayM_n {nh nd j : Nat} {mou g : Nat → Int32} (h6 : nh ≤ 6) (h12 : nd ≤ 12) (h : (36 ≤ j ∧ j < 43) ∨ 44 ≤ j) : dayM nh nd mou g j = g j := by
  unfold dayM
  rw [up_n (by omega), dayMD_n (fun i hi => by omega), dayMH_n (fun i hi => by omega)]
theorem grM_t {g : Nat → Int32} {k a j : Nat} {fl : Int32} (hk : k < 12) (ha : a < 6) (h : 44 ≤ j) : grM g k a fl j = g j := by
  unfold grM
  rw [remM_n (by omega), up_n (by omega), up_n (by omega), up_n (by omega)]
section Tail
variable {nh nd q : Nat} {mou : Nat → Int32} {F : (Nat → Int32) → Nat → Int32} {db : Nat → Nat}
theorem gr_t {g : Nat → Int32} {k j : Nat} (hk : k < 12) (ha : db k < 6) (h : 44 ≤ j) : grS nd F db g k j = g j := by
  unfold grS; split
  · exact grM_t hk ha h
  · rfl
theorem ra_t {g : Nat → Int32} {j : Nat} (h : 43 ≤ j ∨ j < 42) : raS g j = g j := by
  unfold raS; split
  · exact up_n (by omega)
  · rfl
theorem sw_t {g : Nat → Int32} {k j : Nat} (hk : k < 12) (h : 12 ≤ j) : swS nd g k j = g j := by
  unfold swS; split
  · exact up_n (by omega)
  · rfl
theorem ni_t {g : Nat → Int32} {s : Int32} {j : Nat} (h0 : 0 < nd) (h12 : nd ≤ 12) (hdb : ∀ k, k < nd → db k < 6) (h : 44 ≤ j) : niM nd F db q g s j = g j := by
  have l1 := Nat.mod_lt (drN (lcg s)) h0
  have l3 := Nat.mod_lt (drN (lcg (lcg (lcg s)))) h0
  unfold niM
  rw [sw_t (by omega) (by omega)]
  split
  · rw [ra_t (by omega), gr_t (by omega) (hdb _ l1) h]
  · rw [gr_t (by omega) (hdb _ l1) h]
theorem yI_t {g0 : Nat → Int32} {s0 : Int32} {j : Nat} (h6 : nh ≤ 6) (h12 : nd ≤ 12) (hdb : ∀ k, k < nd → db k < 6) (h : 44 ≤ j) : ∀ k, (yI nh nd mou F db q g0 s0 k).1 j = g0 j := by
  intro k
  induction k with
  | zero => rfl
  | succ k ih =>
    rw [yI]
    show dayM nh nd mou _ j = _
    rw [dayM_n h6 h12 (Or.inr h)]
    split
    · rename_i h0
      rw [ni_t h0 h12 hdb h]; exact ih
    · exact ih
end Tail
