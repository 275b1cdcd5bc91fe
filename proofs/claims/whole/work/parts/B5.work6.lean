/-! WORK: a step done on both sides -/
def KC (I K : VI) (f : Nat → Int32) : Prop := (∀ c j, c ≠ 52 → ¬ (c = 45 ∧ 5 ≤ j ∧ j ≤ 7) → c ≠ 37 ∧ c ≠ 53 ∧ c ≠ 56 ∧ c ≠ 453 ∧ c ≠ 454 → K c j = I c j) ∧ K 52 = f
def KM (I K : VI) (g : Nat → Int32) : Prop := (∀ c j, c ≠ 536 → ¬ (c = 71 ∧ (j = 35 ∨ j = 38 ∨ j = 39)) → c ≠ 37 ∧ c ≠ 53 ∧ c ≠ 56 ∧ c ≠ 453 ∧ c ≠ 454 → K c j = I c j) ∧ K 536 = g
theorem kc_row {I K : VI} {f f' : Nat → Int32} (h : KC I K f) : KC I (rowX K 52 f') f' := ⟨fun c j a b e => by rw [rowX_n a]; exact h.1 c j a b e, rowX_f⟩
theorem kc_ov {I K X : VI} {f : Nat → Int32} (h : KC I K f) : KC I (ov K X) f := ⟨fun c j a b e => by rw [ov_n e]; exact h.1 c j a b e, by rw [ov_row (by omega)]; exact h.2⟩
theorem km_row {I K : VI} {g g' : Nat → Int32} (h : KM I K g) : KM I (rowX K 536 g') g' := ⟨fun c j a b e => by rw [rowX_n a]; exact h.1 c j a b e, rowX_f⟩
theorem km_ov {I K X : VI} {g : Nat → Int32} (h : KM I K g) : KM I (ov K X) g := ⟨fun c j a b e => by rw [ov_n e]; exact h.1 c j a b e, by rw [ov_row (by omega)]; exact h.2⟩
def sameV (I J : VI) (nh nd : Nat) : Prop := (∀ h, h < nh → J (85 + h) 0 = I (85 + h) 0 ∧ J (85 + h) 1 = I (85 + h) 1) ∧ ∀ k, k < nd → J (105 + k) 2 = I (105 + k) 2
def bI (b : Bool) : Int32 := if b then i32 1 else i32 0
theorem b2_bI {p : Prop} [Decidable p] {b : Bool} (h : p ↔ b = true) : b2 p = bI b := by
  unfold b2 bI
  by_cases z : p
  · rw [if_pos z, if_pos (h.mp z)]
  · rw [if_neg z, if_neg (fun w => z (h.mpr w))]
theorem dayMH_c {mou mou' g : Nat → Int32} : ∀ n, (∀ h, h < n → mou h = mou' h) → dayMH mou g n = dayMH mou' g n := by
  intro n
  induction n with
  | zero => intro _; rfl
  | succ n ih => intro h; rw [dayMH, dayMH, ih (fun k hk => h k (by omega)), h n (by omega)]
theorem dayM_c {nh nd : Nat} {mou mou' g : Nat → Int32} (h : ∀ k, k < nh → mou k = mou' k) : dayM nh nd mou g = dayM nh nd mou' g := by unfold dayM; rw [dayMH_c nh h]
section St
variable {n nh nd sz : Nat} {db cr : Nat → Nat} {q : Nat → Nat × Nat} {lw : (Nat → Int32) → Int32} {I : VI} {F : Nat → Nat → Nat} {f g : Nat → Int32} {r : Nat}
/-- what a step does on both sides -/
def JC (n : Nat) (I : VI) (f f' : Nat → Int32) (r : Nat) (ok : Bool) : Prop := ∀ K L S d, S.1 = W0 n → KC I K f → ∃ K', KC I K' f' ∧ (∀ j, K' 45 j = K 45 j) ∧ ∀ x, EvD (d + 6) 90 [.ref 45, .ref 51, .int (i32 r)] K L S x ↔ x = (.inl (some (.int (bI ok))), K', L, S)
def JM (n nh nd : Nat) (db cr : Nat → Nat) (q : Nat → Nat × Nat) (sz : Nat) (lw : (Nat → Int32) → Int32) (I : VI) (F : Nat → Nat → Nat) (g g' : Nat → Int32) (r : Nat) (ok : Bool) : Prop := ∀ J0 J L S d, S.1 = W0 n → Vl J0 nh nd db cr → Lw J0 q sz lw → sameV I J0 nh nd → RM2 J0 F r → KM J0 J g → ∃ J', KM J0 J' g' ∧ (∀ j, J' 71 j = J 71 j) ∧ ∀ x, EvD (d + 7) 226 [.ref 71, .ref 536, .ref (456 + r)] J L S x ↔ x = (.inl (some (.int (bI ok))), J', L, S)
theorem bI_n {b : Bool} : (narrow .boolean (.int (bI b)) = .int (bI b)) = True := by
  unfold bI; cases b
  · exact nb_0
  · exact nb_1
theorem kcV (hV : Vl I nh nd db cr) (hL : Lw I q sz lw) {K : VI} (h : KC I K f) : K 19 7 = i32 nh ∧ K 19 8 = i32 nd ∧ (∀ k, k < nd → K 23 k = i32 (db k) ∧ db k < nh) ∧ (∀ k, k < nd → K 24 k = i32 (cr k) ∧ cr k < nh) ∧ isLawC K q sz := by
  obtain ⟨⟨h1, h2, _, _⟩, _, _, h8⟩ := Vl_eq (I' := K) (fun c j hc => h.1 c j (by unfold clVl at hc; omega) (by unfold clVl at hc; omega) (by unfold clVl at hc; omega)) hV
  obtain ⟨hq, _, _⟩ := Lw_eq (I' := K) (fun c j hc => h.1 c j (by unfold clLw at hc; omega) (by unfold clLw at hc; omega) (by unfold clLw at hc; omega)) hL
  exact ⟨h1, h2, fun k hk => (h8 k hk).1, fun k hk => (h8 k hk).2.1, hq⟩
theorem kmV {J0 : VI} (hV : Vl J0 nh nd db cr) (hL : Lw J0 q sz lw) {K : VI} (h : KM J0 K g) : K 75 0 = i32 nh ∧ K 75 1 = i32 nd ∧ (∀ k, k < nd → K (105 + k) 0 = i32 (db k) ∧ db k < nh) ∧ (∀ k, k < nd → K (105 + k) 1 = i32 (cr k) ∧ cr k < nh) ∧ isLawM K lw := by
  obtain ⟨⟨_, _, h1, h2⟩, _, _, h8⟩ := Vl_eq (I' := K) (fun c j hc => h.1 c j (by unfold clVl at hc; omega) (by unfold clVl at hc; omega) (by unfold clVl at hc; omega)) hV
  obtain ⟨_, hq, _⟩ := Lw_eq (I' := K) (fun c j hc => h.1 c j (by unfold clLw at hc; omega) (by unfold clLw at hc; omega) (by unfold clLw at hc; omega)) hL
  exact ⟨h1, h2, fun k hk => ⟨(h8 k hk).2.2.1, (h8 k hk).1.2⟩, fun k hk => ⟨(h8 k hk).2.2.2.1, (h8 k hk).2.1.2⟩, hq⟩
theorem jst (h6 : nh ≤ 6) (h12 : nd ≤ 12) (hV : Vl I nh nd db cr) (hL : Lw I q sz lw) (hR : Rw nh nd 400 f g) (hr : r < 38) (hC : RC I F r) (hk : rwK F nh nd r) (hne : F 0 r ≠ 6) : ∃ ok f' g', Rw nh nd 400 f' g' ∧ JC n I f f' r ok ∧ JM n nh nd db cr q sz lw I F g g' r ok := by
  obtain ⟨k6, kA, kB, kD, kE, _⟩ := hk
  obtain ⟨c0, c1, c2, c3, _⟩ := hC
  have eT := rw_thr hR
  have K45 : ∀ {K : VI}, KC I K f → ∀ c, 46 ≤ c → c ≤ 49 → K c r = I c r := fun h c a b => h.1 c r (by omega) (by omega) (by omega)
  have J45 : ∀ {J0 J : VI}, KM J0 J g → ∀ j, J (456 + r) j = J0 (456 + r) j := fun h j => h.1 _ j (by omega) (by omega) (by omega)
  have hk7 : F 0 r = 0 ∨ F 0 r = 1 ∨ F 0 r = 2 ∨ F 0 r = 3 ∨ F 0 r = 4 ∨ F 0 r = 5 := by omega
  rcases hk7 with e | e | e | e | e | e
  · -- grind
    have ha := kA (by omega)
    rw [e] at c0
    have c1 := c1 (by omega)
    obtain ⟨a, eA⟩ : ∃ x, F 1 r = x := ⟨_, rfl⟩
    rw [eA] at ha c1
    obtain ⟨fl, hfle⟩ : ∃ fl, FM I nd lw db cr g a = fl := ⟨_, rfl⟩
    have hin : inN fl 99 := by rw [← hfle]; exact FM_in hL.2.2
    obtain ⟨_, _, hho, hde⟩ := id hV
    obtain ⟨ok, hok⟩ : ∃ ok : Bool, (thr nd g a = true ∧ ¬ g 42 < i32 1 + g a / i32 5) ↔ ok = true := ⟨decide (thr nd g a = true ∧ ¬ g 42 < i32 1 + g a / i32 5), by simp⟩
    refine ⟨ok, (if ok then grC f a (db a) fl else f), (if ok then grM g a (db a) fl else g), ?_, ?_, ?_⟩
    · cases ok with
      | true => exact rw_gr hR h6 h12 ha (hde a ha).1.2 hin (hok.mpr rfl).2
      | false => exact hR
    · intro K L S d hS hK
      obtain ⟨y1, y2, y3, y4, y5⟩ := kcV hV hL hK
      have kT : K 52 2 = i32 (bitsN nd (thr nd (fun d => K 52 (21 + d)))) := by rw [hK.2]; exact hR.1.2.2
      have hfl : fl = flF nd (lawQ q sz) db cr (K 25) (K 21) (K 20) (fun d => K 52 (21 + d)) (fun d => K 52 (33 + d)) (fun h => K 52 (9 + h)) a := by
        rw [← hfle, hK.2, show K 25 = I 25 from funext fun j => hK.1 _ _ (by omega) (by omega) (by omega), show K 21 = I 21 from funext fun j => hK.1 _ _ (by omega) (by omega) (by omega), show K 20 = I 20 from funext fun j => hK.1 _ _ (by omega) (by omega) (by omega)]
        exact (fl_eq (J := I) hR (fun k hk => ⟨(hde k hk).1.2, (hde k hk).2.1.2, (hde k hk).2.2.2.2⟩) (fun h hh => ⟨(hho h hh).1, (hho h hh).2.1⟩) hL.2.2).symm
      obtain ⟨X, h1⟩ := n34 (d := d) (I := K) (X := K) (L := L) hS y1 y2 h6 h12 kT y3 y4 y5 ha hfl
      rw [ov_self] at h1
      have ec : (thr nd (fun d => K 52 (21 + d)) a = true ∧ ¬ K 52 1 < i32 1 + K 52 (21 + a) / i32 5) = (thr nd g a = true ∧ ¬ g 42 < i32 1 + g a / i32 5) := by rw [hK.2, eT, hR.1.2.1, (hR.2.2.1 a ha).1]
      have w6 := K45 hK 46 (by omega) (by omega)
      have w7 := K45 hK 47 (by omega) (by omega)
      rw [c0] at w6
      rw [c1] at w7
      cases ok with
      | true =>
        rw [if_pos (ec ▸ hok.mpr rfl), if_pos (ec ▸ hok.mpr rfl)] at h1
        obtain ⟨v, hv99, hv⟩ := hin
        rw [hv] at h1
        rw [hv]
        have hm1 : ¬ i32 v = m1 := mm_ne (by omega)
        rw [hK.2] at h1
        refine ⟨ov (rowX K 52 (grC f a (db a) (i32 v))) X, kc_ov (kc_row hK), fun j => by rw [ov_n (by omega), rowX_n (by omega)], fun x => ?_⟩
        simp (disch := first | assumption | omega) only [in90, k90_0, k90_1, k90_4, k90_5, k90_6, k90_44, k90_45, k90_46, k90_49, k90_50, k90_51, k90_54, k90_55, k90_58, k90_59, k90_62, k90_63, k90_64, k90_65, k90_66, k90_69, k90_70, k90_71, k90_74, k90_75, k90_76, k90_77, k90_80, k90_81, k90_82, k90_83, k90_86, k90_87, k90_88, k90_91, k90_92, k90_93, k90_94, k90_97, k90_98, k90_99, k90_100, k90_103, k90_104, k90_105, k90_106, k90_109, k90_110, k90_111, k90_114, k90_115, k90_116, k90_117, k90_120, k90_121, k90_122, k90_125, k90_126, k90_127, k90_130, k90_131, k90_132, c_0, c_1, c_2, c_3, c_4, c_5, c_6, c_7, c_8, c_9, c_10, c_11, c_12, c_13, c_14, c_15, c_16, hS, t_16, f_16_0, f_16_1, f_16_2, f_16_3, f_16_4, f_16_5, f_16_6, f_16_7, f_16_8, f_16_9, f_16_10, f_16_11, f_16_12, f_16_13, t_17, f_17_0, t_18, l_18, t_19, f_19_0, f_19_1, f_19_2, f_19_3, f_19_4, f_19_5, f_19_6, t_20, l_20, t_21, l_21, t_22, l_22, t_23, l_23, t_24, l_24, t_25, l_25, t_26, l_26, t_27, f_27_0, f_27_1, f_27_2, f_27_3, f_27_4, f_27_5, f_27_6, t_28, l_28, t_29, l_29, t_30, l_30, t_31, l_31, t_32, l_32, t_33, l_33, t_34, l_34, t_35, f_35_0, f_35_1, t_36, l_36, t_37, l_37, t_38, f_38_0, f_38_1, t_39, l_39, t_40, l_40, t_41, f_41_0, t_42, l_42, t_43, f_43_0, t_44, l_44, t_45, f_45_0, f_45_1, f_45_2, f_45_3, t_46, l_46, t_47, l_47, t_48, l_48, t_49, l_49, t_50, l_50, t_51, f_51_0, f_51_1, f_51_2, f_51_3, t_52, l_52, t_53, l_53, t_54, f_54_0, f_54_1, f_54_2, f_54_3, t_55, l_55, t_56, l_56, t_57, f_57_0, f_57_1, f_57_2, f_57_3, t_58, l_58, t_59, l_59, t_60, l_60, t_61, f_61_0, f_61_1, f_61_2, f_61_3, f_61_4, f_61_5, f_61_6, t_62, l_62, t_63, f_63_0, f_63_1, t_64, l_64, t_65, l_65, t_66, f_66_0, f_66_1, t_67, l_67, t_68, l_68, t_69, l_69, t_70, f_70_0, f_70_1, t_1, l_1, t_2, l_2, m_t, m_f0, m_f1, m_f2, m_f3, m_t1, m_l1, m_t2, m_l2, rowX_s, rowX_n, rowX_f, rowX_2, up_s, up_n, Nat.zero_add, n_m1, i_dec, cat_n, cat_i, cat_r, cat_l, i_add, i_tn, i_vi, i_lt, i_eq, i_shl, n_ltT, n_ltF, n_eqT, n_eqF, n_leT, t_and, nb_0, nb_1, b2_0, b2_n, cont_v, cont_n, ex_eq, u_s, u_c, u_j, ↓reduceIte, ite_not, not_true_eq_false, not_false_eq_true, Bool.false_eq_true, Bool.true_eq_false, false_and, true_and, and_false, and_true, or_self, or_false, false_or, or_true, true_or, cont_x, n_leF, c_1, w6, w7, h1, hm1, bI]
      | false =>
        have hn : ¬ (thr nd g a = true ∧ ¬ g 42 < i32 1 + g a / i32 5) := fun z => by have := hok.mp z; cases this
        rw [if_neg (fun z => hn (ec ▸ z)), if_neg (fun z => hn (ec ▸ z))] at h1
        refine ⟨ov K X, kc_ov hK, fun j => by rw [ov_n (by omega)], fun x => ?_⟩
        simp (disch := first | assumption | omega) only [in90, k90_0, k90_1, k90_4, k90_5, k90_6, k90_44, k90_45, k90_46, k90_49, k90_50, k90_51, k90_54, k90_55, k90_58, k90_59, k90_62, k90_63, k90_64, k90_65, k90_66, k90_69, k90_70, k90_71, k90_74, k90_75, k90_76, k90_77, k90_80, k90_81, k90_82, k90_83, k90_86, k90_87, k90_88, k90_91, k90_92, k90_93, k90_94, k90_97, k90_98, k90_99, k90_100, k90_103, k90_104, k90_105, k90_106, k90_109, k90_110, k90_111, k90_114, k90_115, k90_116, k90_117, k90_120, k90_121, k90_122, k90_125, k90_126, k90_127, k90_130, k90_131, k90_132, c_0, c_1, c_2, c_3, c_4, c_5, c_6, c_7, c_8, c_9, c_10, c_11, c_12, c_13, c_14, c_15, c_16, hS, t_16, f_16_0, f_16_1, f_16_2, f_16_3, f_16_4, f_16_5, f_16_6, f_16_7, f_16_8, f_16_9, f_16_10, f_16_11, f_16_12, f_16_13, t_17, f_17_0, t_18, l_18, t_19, f_19_0, f_19_1, f_19_2, f_19_3, f_19_4, f_19_5, f_19_6, t_20, l_20, t_21, l_21, t_22, l_22, t_23, l_23, t_24, l_24, t_25, l_25, t_26, l_26, t_27, f_27_0, f_27_1, f_27_2, f_27_3, f_27_4, f_27_5, f_27_6, t_28, l_28, t_29, l_29, t_30, l_30, t_31, l_31, t_32, l_32, t_33, l_33, t_34, l_34, t_35, f_35_0, f_35_1, t_36, l_36, t_37, l_37, t_38, f_38_0, f_38_1, t_39, l_39, t_40, l_40, t_41, f_41_0, t_42, l_42, t_43, f_43_0, t_44, l_44, t_45, f_45_0, f_45_1, f_45_2, f_45_3, t_46, l_46, t_47, l_47, t_48, l_48, t_49, l_49, t_50, l_50, t_51, f_51_0, f_51_1, f_51_2, f_51_3, t_52, l_52, t_53, l_53, t_54, f_54_0, f_54_1, f_54_2, f_54_3, t_55, l_55, t_56, l_56, t_57, f_57_0, f_57_1, f_57_2, f_57_3, t_58, l_58, t_59, l_59, t_60, l_60, t_61, f_61_0, f_61_1, f_61_2, f_61_3, f_61_4, f_61_5, f_61_6, t_62, l_62, t_63, f_63_0, f_63_1, t_64, l_64, t_65, l_65, t_66, f_66_0, f_66_1, t_67, l_67, t_68, l_68, t_69, l_69, t_70, f_70_0, f_70_1, t_1, l_1, t_2, l_2, m_t, m_f0, m_f1, m_f2, m_f3, m_t1, m_l1, m_t2, m_l2, rowX_s, rowX_n, rowX_f, rowX_2, up_s, up_n, Nat.zero_add, n_m1, i_dec, cat_n, cat_i, cat_r, cat_l, i_add, i_tn, i_vi, i_lt, i_eq, i_shl, n_ltT, n_ltF, n_eqT, n_eqF, n_leT, t_and, nb_0, nb_1, b2_0, b2_n, cont_v, cont_n, ex_eq, u_s, u_c, u_j, ↓reduceIte, ite_not, not_true_eq_false, not_false_eq_true, Bool.false_eq_true, Bool.true_eq_false, false_and, true_and, and_false, and_true, or_self, or_false, false_or, or_true, true_or, cont_x, n_leF, c_1, w6, w7, h1, bI]
    · intro J0 J L S d hS hV0 hL0 hsv hRM hJ
      obtain ⟨y1, y2, y3, y4, y5⟩ := kmV hV0 hL0 hJ
      obtain ⟨z0, z1, _, _, _⟩ := hRM
      rw [e] at z0
      have z1 := z1 (by omega)
      rw [eA] at z1
      have hJc : ∀ c j, (85 ≤ c ∧ c ≤ 116) → J c j = J0 c j := fun c j h => hJ.1 _ _ (by omega) (by omega) (by omega)
      have hfl : fl = flF nd lw db cr (fun k => J (105 + k) 2) (fun h => J (85 + h) 1) (fun h => J (85 + h) 0) (J 536) (fun d => J 536 (12 + d)) (fun h => J 536 (30 + h)) a := by
        rw [← hfle, hJ.2]
        refine fl_cong (fun hk => ⟨?_, ?_, ?_⟩)
        · rw [hJc _ _ (by omega), hsv.2 _ hk]
        · have := (hde _ hk).1.2
          rw [hJc _ _ (by omega), (hsv.1 _ this).2]
        · have := (hde _ hk).1.2
          rw [hJc _ _ (by omega), (hsv.1 _ this).1]
      obtain ⟨X, h1⟩ := d221 (d := d) (I := J) (X := J) (L := L) (w := 536) hS y1 y2 h6 h12 (Or.inl rfl) y3 y4 y5 ha hfl
      rw [ov_self, hJ.2, b2_bI hok] at h1
      have w0 := J45 hJ 0
      have w1 := J45 hJ 1
      rw [z0] at w0
      rw [z1] at w1
      cases ok with
      | true =>
        rw [if_pos (hok.mpr rfl)] at h1
        refine ⟨ov (rowX J 536 (grM g a (db a) fl)) X, km_ov (km_row hJ), fun j => by rw [ov_n (by omega), rowX_n (by omega)], fun x => ?_⟩
        simp (disch := first | assumption | omega) only [in226, k226_0, k226_1, k226_2, k226_3, k226_4, k226_5, k226_6, k226_7, k226_40, k226_41, k226_42, k226_43, k226_46, k226_47, k226_48, k226_49, k226_52, k226_55, k226_56, k226_57, k226_58, k226_59, k226_62, k226_63, k226_64, k226_65, k226_66, k226_67, k226_68, k226_69, k226_72, k226_73, k226_74, k226_75, k226_76, k226_77, k226_78, k226_79, k226_80, k226_81, k226_84, k226_85, k226_86, k226_87, k226_90, k226_91, k226_92, k226_94, k226_95, k226_98, k226_101, k226_102, k226_103, k226_104, k226_105, k226_108, k226_109, c_0, c_1, c_2, c_3, c_4, c_5, c_6, c_7, c_8, c_9, c_10, c_11, c_12, c_13, c_14, c_15, c_16, c_43, c_400, hS, t_71, f_71_9, f_71_10, f_71_11, f_71_12, f_71_13, f_71_14, f_71_15, f_71_16, f_71_17, f_71_20, f_71_21, f_71_22, f_71_23, f_71_24, f_71_25, f_71_26, f_71_28, f_71_29, f_71_30, f_71_31, f_71_32, f_71_40, f_71_41, t_72, l_72, t_73, l_73, t_74, l_74, t_75, l_75, t_76, l_76, t_77, l_77, t_84, l_84, t_91, l_91, t_104, l_104, t_117, l_117, t_278, l_278, t_439, l_439, t_446, l_446, t_453, l_453, t_454, l_454, t_455, l_455, t_536, l_536, t_537, l_537, t_538, l_538, t_539, l_539, t_556, l_556, t_560, l_560, t_561, l_561, f_77, t_78, l_78, f_84, t_85, l_85, f_91, t_92, l_92, f_104, t_105, l_105, f_117, t_118, l_118, f_278, t_279, l_279, f_439, t_440, l_440, f_446, t_447, l_447, f_455, t_456, l_456, f_539, t_540, l_540, f_556, t_557, l_557, w_t, w_l, rowX_s, rowX_n, rowX_f, rowX_2, up_s, up_n, Nat.zero_add, n_m1, i_dec, cat_n, cat_i, cat_r, cat_l, i_add, i_tn, i_vi, i_lt, i_eq, i_shl, n_ltT, n_ltF, n_eqT, n_eqF, n_leT, t_and, nb_0, nb_1, b2_0, b2_n, cont_v, cont_n, ex_eq, u_s, u_c, u_j, ↓reduceIte, ite_not, not_true_eq_false, not_false_eq_true, Bool.false_eq_true, Bool.true_eq_false, false_and, true_and, and_false, and_true, or_self, or_false, false_or, or_true, true_or, cont_x, n_leF, c_1, w0, w1, h1, bI_n]
      | false =>
        rw [if_neg (fun z => by have := hok.mp z; cases this)] at h1
        refine ⟨ov J X, km_ov hJ, fun j => by rw [ov_n (by omega)], fun x => ?_⟩
        simp (disch := first | assumption | omega) only [in226, k226_0, k226_1, k226_2, k226_3, k226_4, k226_5, k226_6, k226_7, k226_40, k226_41, k226_42, k226_43, k226_46, k226_47, k226_48, k226_49, k226_52, k226_55, k226_56, k226_57, k226_58, k226_59, k226_62, k226_63, k226_64, k226_65, k226_66, k226_67, k226_68, k226_69, k226_72, k226_73, k226_74, k226_75, k226_76, k226_77, k226_78, k226_79, k226_80, k226_81, k226_84, k226_85, k226_86, k226_87, k226_90, k226_91, k226_92, k226_94, k226_95, k226_98, k226_101, k226_102, k226_103, k226_104, k226_105, k226_108, k226_109, c_0, c_1, c_2, c_3, c_4, c_5, c_6, c_7, c_8, c_9, c_10, c_11, c_12, c_13, c_14, c_15, c_16, c_43, c_400, hS, t_71, f_71_9, f_71_10, f_71_11, f_71_12, f_71_13, f_71_14, f_71_15, f_71_16, f_71_17, f_71_20, f_71_21, f_71_22, f_71_23, f_71_24, f_71_25, f_71_26, f_71_28, f_71_29, f_71_30, f_71_31, f_71_32, f_71_40, f_71_41, t_72, l_72, t_73, l_73, t_74, l_74, t_75, l_75, t_76, l_76, t_77, l_77, t_84, l_84, t_91, l_91, t_104, l_104, t_117, l_117, t_278, l_278, t_439, l_439, t_446, l_446, t_453, l_453, t_454, l_454, t_455, l_455, t_536, l_536, t_537, l_537, t_538, l_538, t_539, l_539, t_556, l_556, t_560, l_560, t_561, l_561, f_77, t_78, l_78, f_84, t_85, l_85, f_91, t_92, l_92, f_104, t_105, l_105, f_117, t_118, l_118, f_278, t_279, l_279, f_439, t_440, l_440, f_446, t_447, l_447, f_455, t_456, l_456, f_539, t_540, l_540, f_556, t_557, l_557, w_t, w_l, rowX_s, rowX_n, rowX_f, rowX_2, up_s, up_n, Nat.zero_add, n_m1, i_dec, cat_n, cat_i, cat_r, cat_l, i_add, i_tn, i_vi, i_lt, i_eq, i_shl, n_ltT, n_ltF, n_eqT, n_eqF, n_leT, t_and, nb_0, nb_1, b2_0, b2_n, cont_v, cont_n, ex_eq, u_s, u_c, u_j, ↓reduceIte, ite_not, not_true_eq_false, not_false_eq_true, Bool.false_eq_true, Bool.true_eq_false, false_and, true_and, and_false, and_true, or_self, or_false, false_or, or_true, true_or, cont_x, n_leF, c_1, w0, w1, h1, bI_n]
  · -- forgive
    have ha := kA (by omega)
    rw [e] at c0
    have c1 := c1 (by omega)
    obtain ⟨a, eA⟩ : ∃ x, F 1 r = x := ⟨_, rfl⟩
    rw [eA] at ha c1
    obtain ⟨ok, hok⟩ : ∃ ok : Bool, (thr nd g a = true) ↔ ok = true := ⟨thr nd g a, Iff.rfl⟩
    refine ⟨ok, (if ok then remC f a else f), (if ok then remM g a else g), ?_, ?_, ?_⟩
    · cases ok with
      | true => exact rw_rem hR h6 h12 ha
      | false => exact hR
    · intro K L S d hS hK
      obtain ⟨y1, y2, y3, y4, y5⟩ := kcV hV hL hK
      have kT : K 52 2 = i32 (bitsN nd (thr nd (fun d => K 52 (21 + d)))) := by rw [hK.2]; exact hR.1.2.2
      have h1 := fun x => n35 (d := d + 3) (I := K) (L := L) (r := x) hS y1 y2 h6 h12 kT ha
      rw [hK.2, eT, b2_bI hok] at h1
      have w6 := K45 hK 46 (by omega) (by omega)
      have w7 := K45 hK 47 (by omega) (by omega)
      rw [c0] at w6
      rw [c1] at w7
      cases ok with
      | true =>
        rw [if_pos (hok.mpr rfl)] at h1
        refine ⟨rowX K 52 (remC f a), kc_row hK, fun j => by rw [rowX_n (by omega)], fun x => ?_⟩
        simp (disch := first | assumption | omega) only [in90, k90_0, k90_1, k90_4, k90_5, k90_6, k90_44, k90_45, k90_46, k90_49, k90_50, k90_51, k90_54, k90_55, k90_58, k90_59, k90_62, k90_63, k90_64, k90_65, k90_66, k90_69, k90_70, k90_71, k90_74, k90_75, k90_76, k90_77, k90_80, k90_81, k90_82, k90_83, k90_86, k90_87, k90_88, k90_91, k90_92, k90_93, k90_94, k90_97, k90_98, k90_99, k90_100, k90_103, k90_104, k90_105, k90_106, k90_109, k90_110, k90_111, k90_114, k90_115, k90_116, k90_117, k90_120, k90_121, k90_122, k90_125, k90_126, k90_127, k90_130, k90_131, k90_132, c_0, c_1, c_2, c_3, c_4, c_5, c_6, c_7, c_8, c_9, c_10, c_11, c_12, c_13, c_14, c_15, c_16, hS, t_16, f_16_0, f_16_1, f_16_2, f_16_3, f_16_4, f_16_5, f_16_6, f_16_7, f_16_8, f_16_9, f_16_10, f_16_11, f_16_12, f_16_13, t_17, f_17_0, t_18, l_18, t_19, f_19_0, f_19_1, f_19_2, f_19_3, f_19_4, f_19_5, f_19_6, t_20, l_20, t_21, l_21, t_22, l_22, t_23, l_23, t_24, l_24, t_25, l_25, t_26, l_26, t_27, f_27_0, f_27_1, f_27_2, f_27_3, f_27_4, f_27_5, f_27_6, t_28, l_28, t_29, l_29, t_30, l_30, t_31, l_31, t_32, l_32, t_33, l_33, t_34, l_34, t_35, f_35_0, f_35_1, t_36, l_36, t_37, l_37, t_38, f_38_0, f_38_1, t_39, l_39, t_40, l_40, t_41, f_41_0, t_42, l_42, t_43, f_43_0, t_44, l_44, t_45, f_45_0, f_45_1, f_45_2, f_45_3, t_46, l_46, t_47, l_47, t_48, l_48, t_49, l_49, t_50, l_50, t_51, f_51_0, f_51_1, f_51_2, f_51_3, t_52, l_52, t_53, l_53, t_54, f_54_0, f_54_1, f_54_2, f_54_3, t_55, l_55, t_56, l_56, t_57, f_57_0, f_57_1, f_57_2, f_57_3, t_58, l_58, t_59, l_59, t_60, l_60, t_61, f_61_0, f_61_1, f_61_2, f_61_3, f_61_4, f_61_5, f_61_6, t_62, l_62, t_63, f_63_0, f_63_1, t_64, l_64, t_65, l_65, t_66, f_66_0, f_66_1, t_67, l_67, t_68, l_68, t_69, l_69, t_70, f_70_0, f_70_1, t_1, l_1, t_2, l_2, m_t, m_f0, m_f1, m_f2, m_f3, m_t1, m_l1, m_t2, m_l2, rowX_s, rowX_n, rowX_f, rowX_2, up_s, up_n, Nat.zero_add, n_m1, i_dec, cat_n, cat_i, cat_r, cat_l, i_add, i_tn, i_vi, i_lt, i_eq, i_shl, n_ltT, n_ltF, n_eqT, n_eqF, n_leT, t_and, nb_0, nb_1, b2_0, b2_n, cont_v, cont_n, ex_eq, u_s, u_c, u_j, ↓reduceIte, ite_not, not_true_eq_false, not_false_eq_true, Bool.false_eq_true, Bool.true_eq_false, false_and, true_and, and_false, and_true, or_self, or_false, false_or, or_true, true_or, cont_x, n_leF, c_1, w6, w7, h1, bI_n]
      | false =>
        rw [if_neg (fun z => by have := hok.mp z; cases this)] at h1
        refine ⟨K, hK, fun j => rfl, fun x => ?_⟩
        simp (disch := first | assumption | omega) only [in90, k90_0, k90_1, k90_4, k90_5, k90_6, k90_44, k90_45, k90_46, k90_49, k90_50, k90_51, k90_54, k90_55, k90_58, k90_59, k90_62, k90_63, k90_64, k90_65, k90_66, k90_69, k90_70, k90_71, k90_74, k90_75, k90_76, k90_77, k90_80, k90_81, k90_82, k90_83, k90_86, k90_87, k90_88, k90_91, k90_92, k90_93, k90_94, k90_97, k90_98, k90_99, k90_100, k90_103, k90_104, k90_105, k90_106, k90_109, k90_110, k90_111, k90_114, k90_115, k90_116, k90_117, k90_120, k90_121, k90_122, k90_125, k90_126, k90_127, k90_130, k90_131, k90_132, c_0, c_1, c_2, c_3, c_4, c_5, c_6, c_7, c_8, c_9, c_10, c_11, c_12, c_13, c_14, c_15, c_16, hS, t_16, f_16_0, f_16_1, f_16_2, f_16_3, f_16_4, f_16_5, f_16_6, f_16_7, f_16_8, f_16_9, f_16_10, f_16_11, f_16_12, f_16_13, t_17, f_17_0, t_18, l_18, t_19, f_19_0, f_19_1, f_19_2, f_19_3, f_19_4, f_19_5, f_19_6, t_20, l_20, t_21, l_21, t_22, l_22, t_23, l_23, t_24, l_24, t_25, l_25, t_26, l_26, t_27, f_27_0, f_27_1, f_27_2, f_27_3, f_27_4, f_27_5, f_27_6, t_28, l_28, t_29, l_29, t_30, l_30, t_31, l_31, t_32, l_32, t_33, l_33, t_34, l_34, t_35, f_35_0, f_35_1, t_36, l_36, t_37, l_37, t_38, f_38_0, f_38_1, t_39, l_39, t_40, l_40, t_41, f_41_0, t_42, l_42, t_43, f_43_0, t_44, l_44, t_45, f_45_0, f_45_1, f_45_2, f_45_3, t_46, l_46, t_47, l_47, t_48, l_48, t_49, l_49, t_50, l_50, t_51, f_51_0, f_51_1, f_51_2, f_51_3, t_52, l_52, t_53, l_53, t_54, f_54_0, f_54_1, f_54_2, f_54_3, t_55, l_55, t_56, l_56, t_57, f_57_0, f_57_1, f_57_2, f_57_3, t_58, l_58, t_59, l_59, t_60, l_60, t_61, f_61_0, f_61_1, f_61_2, f_61_3, f_61_4, f_61_5, f_61_6, t_62, l_62, t_63, f_63_0, f_63_1, t_64, l_64, t_65, l_65, t_66, f_66_0, f_66_1, t_67, l_67, t_68, l_68, t_69, l_69, t_70, f_70_0, f_70_1, t_1, l_1, t_2, l_2, m_t, m_f0, m_f1, m_f2, m_f3, m_t1, m_l1, m_t2, m_l2, rowX_s, rowX_n, rowX_f, rowX_2, up_s, up_n, Nat.zero_add, n_m1, i_dec, cat_n, cat_i, cat_r, cat_l, i_add, i_tn, i_vi, i_lt, i_eq, i_shl, n_ltT, n_ltF, n_eqT, n_eqF, n_leT, t_and, nb_0, nb_1, b2_0, b2_n, cont_v, cont_n, ex_eq, u_s, u_c, u_j, ↓reduceIte, ite_not, not_true_eq_false, not_false_eq_true, Bool.false_eq_true, Bool.true_eq_false, false_and, true_and, and_false, and_true, or_self, or_false, false_or, or_true, true_or, cont_x, n_leF, c_1, w6, w7, h1, bI_n]
    · intro J0 J L S d hS hV0 hL0 hsv hRM hJ
      obtain ⟨z0, z1, _, _, _⟩ := hRM
      rw [e] at z0
      have z1 := z1 (by omega)
      rw [eA] at z1
      have w0 := J45 hJ 0
      have w1 := J45 hJ 1
      rw [z0] at w0
      rw [z1] at w1
      have h1 := fun x => d212 (d := d + 5) (I := J) (L := L) (r := x) (w := 536) hS (Or.inl rfl) h12 ha
      rw [hJ.2, b2_bI hok] at h1
      cases ok with
      | true =>
        have h2 := fun x => d220 (d := d + 5) (I := J) (L := L) (r := x) (w := 536) (k := a) hS (Or.inl rfl) (by omega)
        rw [hJ.2] at h2
        refine ⟨rowX J 536 (remM g a), km_row hJ, fun j => by rw [rowX_n (by omega)], fun x => ?_⟩
        simp (disch := first | assumption | omega) only [in226, k226_0, k226_1, k226_2, k226_3, k226_4, k226_5, k226_6, k226_7, k226_40, k226_41, k226_42, k226_43, k226_46, k226_47, k226_48, k226_49, k226_52, k226_55, k226_56, k226_57, k226_58, k226_59, k226_62, k226_63, k226_64, k226_65, k226_66, k226_67, k226_68, k226_69, k226_72, k226_73, k226_74, k226_75, k226_76, k226_77, k226_78, k226_79, k226_80, k226_81, k226_84, k226_85, k226_86, k226_87, k226_90, k226_91, k226_92, k226_94, k226_95, k226_98, k226_101, k226_102, k226_103, k226_104, k226_105, k226_108, k226_109, c_0, c_1, c_2, c_3, c_4, c_5, c_6, c_7, c_8, c_9, c_10, c_11, c_12, c_13, c_14, c_15, c_16, c_43, c_400, hS, t_71, f_71_9, f_71_10, f_71_11, f_71_12, f_71_13, f_71_14, f_71_15, f_71_16, f_71_17, f_71_20, f_71_21, f_71_22, f_71_23, f_71_24, f_71_25, f_71_26, f_71_28, f_71_29, f_71_30, f_71_31, f_71_32, f_71_40, f_71_41, t_72, l_72, t_73, l_73, t_74, l_74, t_75, l_75, t_76, l_76, t_77, l_77, t_84, l_84, t_91, l_91, t_104, l_104, t_117, l_117, t_278, l_278, t_439, l_439, t_446, l_446, t_453, l_453, t_454, l_454, t_455, l_455, t_536, l_536, t_537, l_537, t_538, l_538, t_539, l_539, t_556, l_556, t_560, l_560, t_561, l_561, f_77, t_78, l_78, f_84, t_85, l_85, f_91, t_92, l_92, f_104, t_105, l_105, f_117, t_118, l_118, f_278, t_279, l_279, f_439, t_440, l_440, f_446, t_447, l_447, f_455, t_456, l_456, f_539, t_540, l_540, f_556, t_557, l_557, w_t, w_l, rowX_s, rowX_n, rowX_f, rowX_2, up_s, up_n, Nat.zero_add, n_m1, i_dec, cat_n, cat_i, cat_r, cat_l, i_add, i_tn, i_vi, i_lt, i_eq, i_shl, n_ltT, n_ltF, n_eqT, n_eqF, n_leT, t_and, nb_0, nb_1, b2_0, b2_n, cont_v, cont_n, ex_eq, u_s, u_c, u_j, ↓reduceIte, ite_not, not_true_eq_false, not_false_eq_true, Bool.false_eq_true, Bool.true_eq_false, false_and, true_and, and_false, and_true, or_self, or_false, false_or, or_true, true_or, cont_x, n_leF, c_1, w0, w1, h1, h2, bI]
      | false =>
        refine ⟨J, hJ, fun j => rfl, fun x => ?_⟩
        simp (disch := first | assumption | omega) only [in226, k226_0, k226_1, k226_2, k226_3, k226_4, k226_5, k226_6, k226_7, k226_40, k226_41, k226_42, k226_43, k226_46, k226_47, k226_48, k226_49, k226_52, k226_55, k226_56, k226_57, k226_58, k226_59, k226_62, k226_63, k226_64, k226_65, k226_66, k226_67, k226_68, k226_69, k226_72, k226_73, k226_74, k226_75, k226_76, k226_77, k226_78, k226_79, k226_80, k226_81, k226_84, k226_85, k226_86, k226_87, k226_90, k226_91, k226_92, k226_94, k226_95, k226_98, k226_101, k226_102, k226_103, k226_104, k226_105, k226_108, k226_109, c_0, c_1, c_2, c_3, c_4, c_5, c_6, c_7, c_8, c_9, c_10, c_11, c_12, c_13, c_14, c_15, c_16, c_43, c_400, hS, t_71, f_71_9, f_71_10, f_71_11, f_71_12, f_71_13, f_71_14, f_71_15, f_71_16, f_71_17, f_71_20, f_71_21, f_71_22, f_71_23, f_71_24, f_71_25, f_71_26, f_71_28, f_71_29, f_71_30, f_71_31, f_71_32, f_71_40, f_71_41, t_72, l_72, t_73, l_73, t_74, l_74, t_75, l_75, t_76, l_76, t_77, l_77, t_84, l_84, t_91, l_91, t_104, l_104, t_117, l_117, t_278, l_278, t_439, l_439, t_446, l_446, t_453, l_453, t_454, l_454, t_455, l_455, t_536, l_536, t_537, l_537, t_538, l_538, t_539, l_539, t_556, l_556, t_560, l_560, t_561, l_561, f_77, t_78, l_78, f_84, t_85, l_85, f_91, t_92, l_92, f_104, t_105, l_105, f_117, t_118, l_118, f_278, t_279, l_279, f_439, t_440, l_440, f_446, t_447, l_447, f_455, t_456, l_456, f_539, t_540, l_540, f_556, t_557, l_557, w_t, w_l, rowX_s, rowX_n, rowX_f, rowX_2, up_s, up_n, Nat.zero_add, n_m1, i_dec, cat_n, cat_i, cat_r, cat_l, i_add, i_tn, i_vi, i_lt, i_eq, i_shl, n_ltT, n_ltF, n_eqT, n_eqF, n_leT, t_and, nb_0, nb_1, b2_0, b2_n, cont_v, cont_n, ex_eq, u_s, u_c, u_j, ↓reduceIte, ite_not, not_true_eq_false, not_false_eq_true, Bool.false_eq_true, Bool.true_eq_false, false_and, true_and, and_false, and_true, or_self, or_false, false_or, or_true, true_or, cont_x, n_leF, c_1, w0, w1, h1, bI]
  · -- swell
    have ha := kA (by omega)
    obtain ⟨x1, x2⟩ := kB e
    rw [e] at c0
    have c1 := c1 (by omega)
    have c2 := c2 (by omega)
    obtain ⟨a_, eA⟩ : ∃ x, F 1 r = x := ⟨_, rfl⟩
    rw [eA] at ha c1
    obtain ⟨b_, eB⟩ : ∃ x, F 2 r = x := ⟨_, rfl⟩
    rw [eB] at x1 x2 c2
    obtain ⟨ok, hok⟩ : ∃ ok : Bool, (thr nd g a_ = true ∧ ¬ g a_ = i32 60) ↔ ok = true := ⟨decide (thr nd g a_ = true ∧ ¬ g a_ = i32 60), by simp⟩
    refine ⟨ok, (if ok then updF f (21 + a_) (mnI (i32 60) (f (21 + a_) + i32 b_)) else f), (if ok then updF g a_ (mnI (i32 60) (g a_ + i32 b_)) else g), ?_, ?_, ?_⟩
    · cases ok with
      | true => exact rw_sw hR h6 h12 ha (hok.mpr rfl).1 x1 (by omega)
      | false => exact hR
    · intro K L S d hS hK
      obtain ⟨y1, y2, y3, y4, y5⟩ := kcV hV hL hK
      have kT : K 52 2 = i32 (bitsN nd (thr nd (fun d => K 52 (21 + d)))) := by rw [hK.2]; exact hR.1.2.2
      have h1 := fun x => n37 (d := d + 3) (I := K) (L := L) (r := x) (x := i32 b_) hS y1 y2 h6 h12 kT ha
      have hok2 : (thr nd g a_ = true ∧ f (21 + a_) < i32 60) ↔ ok = true := by rw [sw_c hR ha]; exact hok
      rw [hK.2, eT, b2_bI hok2] at h1
      have w6 := K45 hK 46 (by omega) (by omega)
      have w7 := K45 hK 47 (by omega) (by omega)
      have w8 := K45 hK 48 (by omega) (by omega)
      rw [c0] at w6
      rw [c1] at w7
      rw [c2] at w8
      cases ok with
      | true =>
        rw [if_pos (hok2.mpr rfl)] at h1
        refine ⟨rowX K 52 (updF f (21 + a_) (mnI (i32 60) (f (21 + a_) + i32 b_))), kc_row hK, fun j => by rw [rowX_n (by omega)], fun x => ?_⟩
        simp (disch := first | assumption | omega) only [in90, k90_0, k90_1, k90_4, k90_5, k90_6, k90_44, k90_45, k90_46, k90_49, k90_50, k90_51, k90_54, k90_55, k90_58, k90_59, k90_62, k90_63, k90_64, k90_65, k90_66, k90_69, k90_70, k90_71, k90_74, k90_75, k90_76, k90_77, k90_80, k90_81, k90_82, k90_83, k90_86, k90_87, k90_88, k90_91, k90_92, k90_93, k90_94, k90_97, k90_98, k90_99, k90_100, k90_103, k90_104, k90_105, k90_106, k90_109, k90_110, k90_111, k90_114, k90_115, k90_116, k90_117, k90_120, k90_121, k90_122, k90_125, k90_126, k90_127, k90_130, k90_131, k90_132, c_0, c_1, c_2, c_3, c_4, c_5, c_6, c_7, c_8, c_9, c_10, c_11, c_12, c_13, c_14, c_15, c_16, hS, t_16, f_16_0, f_16_1, f_16_2, f_16_3, f_16_4, f_16_5, f_16_6, f_16_7, f_16_8, f_16_9, f_16_10, f_16_11, f_16_12, f_16_13, t_17, f_17_0, t_18, l_18, t_19, f_19_0, f_19_1, f_19_2, f_19_3, f_19_4, f_19_5, f_19_6, t_20, l_20, t_21, l_21, t_22, l_22, t_23, l_23, t_24, l_24, t_25, l_25, t_26, l_26, t_27, f_27_0, f_27_1, f_27_2, f_27_3, f_27_4, f_27_5, f_27_6, t_28, l_28, t_29, l_29, t_30, l_30, t_31, l_31, t_32, l_32, t_33, l_33, t_34, l_34, t_35, f_35_0, f_35_1, t_36, l_36, t_37, l_37, t_38, f_38_0, f_38_1, t_39, l_39, t_40, l_40, t_41, f_41_0, t_42, l_42, t_43, f_43_0, t_44, l_44, t_45, f_45_0, f_45_1, f_45_2, f_45_3, t_46, l_46, t_47, l_47, t_48, l_48, t_49, l_49, t_50, l_50, t_51, f_51_0, f_51_1, f_51_2, f_51_3, t_52, l_52, t_53, l_53, t_54, f_54_0, f_54_1, f_54_2, f_54_3, t_55, l_55, t_56, l_56, t_57, f_57_0, f_57_1, f_57_2, f_57_3, t_58, l_58, t_59, l_59, t_60, l_60, t_61, f_61_0, f_61_1, f_61_2, f_61_3, f_61_4, f_61_5, f_61_6, t_62, l_62, t_63, f_63_0, f_63_1, t_64, l_64, t_65, l_65, t_66, f_66_0, f_66_1, t_67, l_67, t_68, l_68, t_69, l_69, t_70, f_70_0, f_70_1, t_1, l_1, t_2, l_2, m_t, m_f0, m_f1, m_f2, m_f3, m_t1, m_l1, m_t2, m_l2, rowX_s, rowX_n, rowX_f, rowX_2, up_s, up_n, Nat.zero_add, n_m1, i_dec, cat_n, cat_i, cat_r, cat_l, i_add, i_tn, i_vi, i_lt, i_eq, i_shl, n_ltT, n_ltF, n_eqT, n_eqF, n_leT, t_and, nb_0, nb_1, b2_0, b2_n, cont_v, cont_n, ex_eq, u_s, u_c, u_j, ↓reduceIte, ite_not, not_true_eq_false, not_false_eq_true, Bool.false_eq_true, Bool.true_eq_false, false_and, true_and, and_false, and_true, or_self, or_false, false_or, or_true, true_or, cont_x, n_leF, c_1, w6, w7, w8, h1, bI_n]
      | false =>
        rw [if_neg (fun z => by have := hok2.mp z; cases this)] at h1
        refine ⟨K, hK, fun j => rfl, fun x => ?_⟩
        simp (disch := first | assumption | omega) only [in90, k90_0, k90_1, k90_4, k90_5, k90_6, k90_44, k90_45, k90_46, k90_49, k90_50, k90_51, k90_54, k90_55, k90_58, k90_59, k90_62, k90_63, k90_64, k90_65, k90_66, k90_69, k90_70, k90_71, k90_74, k90_75, k90_76, k90_77, k90_80, k90_81, k90_82, k90_83, k90_86, k90_87, k90_88, k90_91, k90_92, k90_93, k90_94, k90_97, k90_98, k90_99, k90_100, k90_103, k90_104, k90_105, k90_106, k90_109, k90_110, k90_111, k90_114, k90_115, k90_116, k90_117, k90_120, k90_121, k90_122, k90_125, k90_126, k90_127, k90_130, k90_131, k90_132, c_0, c_1, c_2, c_3, c_4, c_5, c_6, c_7, c_8, c_9, c_10, c_11, c_12, c_13, c_14, c_15, c_16, hS, t_16, f_16_0, f_16_1, f_16_2, f_16_3, f_16_4, f_16_5, f_16_6, f_16_7, f_16_8, f_16_9, f_16_10, f_16_11, f_16_12, f_16_13, t_17, f_17_0, t_18, l_18, t_19, f_19_0, f_19_1, f_19_2, f_19_3, f_19_4, f_19_5, f_19_6, t_20, l_20, t_21, l_21, t_22, l_22, t_23, l_23, t_24, l_24, t_25, l_25, t_26, l_26, t_27, f_27_0, f_27_1, f_27_2, f_27_3, f_27_4, f_27_5, f_27_6, t_28, l_28, t_29, l_29, t_30, l_30, t_31, l_31, t_32, l_32, t_33, l_33, t_34, l_34, t_35, f_35_0, f_35_1, t_36, l_36, t_37, l_37, t_38, f_38_0, f_38_1, t_39, l_39, t_40, l_40, t_41, f_41_0, t_42, l_42, t_43, f_43_0, t_44, l_44, t_45, f_45_0, f_45_1, f_45_2, f_45_3, t_46, l_46, t_47, l_47, t_48, l_48, t_49, l_49, t_50, l_50, t_51, f_51_0, f_51_1, f_51_2, f_51_3, t_52, l_52, t_53, l_53, t_54, f_54_0, f_54_1, f_54_2, f_54_3, t_55, l_55, t_56, l_56, t_57, f_57_0, f_57_1, f_57_2, f_57_3, t_58, l_58, t_59, l_59, t_60, l_60, t_61, f_61_0, f_61_1, f_61_2, f_61_3, f_61_4, f_61_5, f_61_6, t_62, l_62, t_63, f_63_0, f_63_1, t_64, l_64, t_65, l_65, t_66, f_66_0, f_66_1, t_67, l_67, t_68, l_68, t_69, l_69, t_70, f_70_0, f_70_1, t_1, l_1, t_2, l_2, m_t, m_f0, m_f1, m_f2, m_f3, m_t1, m_l1, m_t2, m_l2, rowX_s, rowX_n, rowX_f, rowX_2, up_s, up_n, Nat.zero_add, n_m1, i_dec, cat_n, cat_i, cat_r, cat_l, i_add, i_tn, i_vi, i_lt, i_eq, i_shl, n_ltT, n_ltF, n_eqT, n_eqF, n_leT, t_and, nb_0, nb_1, b2_0, b2_n, cont_v, cont_n, ex_eq, u_s, u_c, u_j, ↓reduceIte, ite_not, not_true_eq_false, not_false_eq_true, Bool.false_eq_true, Bool.true_eq_false, false_and, true_and, and_false, and_true, or_self, or_false, false_or, or_true, true_or, cont_x, n_leF, c_1, w6, w7, w8, h1, bI_n]
    · intro J0 J L S d hS hV0 hL0 hsv hRM hJ
      obtain ⟨z0, z1, z2, _, _⟩ := hRM
      rw [e] at z0
      have z1 := z1 (by omega)
      have z2 := z2 (by omega)
      rw [eA] at z1
      rw [eB] at z2
      have w0 := J45 hJ 0
      have w1 := J45 hJ 1
      have w2 := J45 hJ 2
      rw [z0] at w0
      rw [z1] at w1
      rw [z2] at w2
      have h1 := fun x => d222 (d := d + 4) (I := J) (L := L) (r := x) (w := 536) (x := i32 b_) hS (Or.inl rfl) h12 ha
      rw [hJ.2, b2_bI hok] at h1
      cases ok with
      | true =>
        rw [if_pos (hok.mpr rfl)] at h1
        refine ⟨rowX J 536 (updF g a_ (mnI (i32 60) (g a_ + i32 b_))), km_row hJ, fun j => by rw [rowX_n (by omega)], fun x => ?_⟩
        simp (disch := first | assumption | omega) only [in226, k226_0, k226_1, k226_2, k226_3, k226_4, k226_5, k226_6, k226_7, k226_40, k226_41, k226_42, k226_43, k226_46, k226_47, k226_48, k226_49, k226_52, k226_55, k226_56, k226_57, k226_58, k226_59, k226_62, k226_63, k226_64, k226_65, k226_66, k226_67, k226_68, k226_69, k226_72, k226_73, k226_74, k226_75, k226_76, k226_77, k226_78, k226_79, k226_80, k226_81, k226_84, k226_85, k226_86, k226_87, k226_90, k226_91, k226_92, k226_94, k226_95, k226_98, k226_101, k226_102, k226_103, k226_104, k226_105, k226_108, k226_109, c_0, c_1, c_2, c_3, c_4, c_5, c_6, c_7, c_8, c_9, c_10, c_11, c_12, c_13, c_14, c_15, c_16, c_43, c_400, hS, t_71, f_71_9, f_71_10, f_71_11, f_71_12, f_71_13, f_71_14, f_71_15, f_71_16, f_71_17, f_71_20, f_71_21, f_71_22, f_71_23, f_71_24, f_71_25, f_71_26, f_71_28, f_71_29, f_71_30, f_71_31, f_71_32, f_71_40, f_71_41, t_72, l_72, t_73, l_73, t_74, l_74, t_75, l_75, t_76, l_76, t_77, l_77, t_84, l_84, t_91, l_91, t_104, l_104, t_117, l_117, t_278, l_278, t_439, l_439, t_446, l_446, t_453, l_453, t_454, l_454, t_455, l_455, t_536, l_536, t_537, l_537, t_538, l_538, t_539, l_539, t_556, l_556, t_560, l_560, t_561, l_561, f_77, t_78, l_78, f_84, t_85, l_85, f_91, t_92, l_92, f_104, t_105, l_105, f_117, t_118, l_118, f_278, t_279, l_279, f_439, t_440, l_440, f_446, t_447, l_447, f_455, t_456, l_456, f_539, t_540, l_540, f_556, t_557, l_557, w_t, w_l, rowX_s, rowX_n, rowX_f, rowX_2, up_s, up_n, Nat.zero_add, n_m1, i_dec, cat_n, cat_i, cat_r, cat_l, i_add, i_tn, i_vi, i_lt, i_eq, i_shl, n_ltT, n_ltF, n_eqT, n_eqF, n_leT, t_and, nb_0, nb_1, b2_0, b2_n, cont_v, cont_n, ex_eq, u_s, u_c, u_j, ↓reduceIte, ite_not, not_true_eq_false, not_false_eq_true, Bool.false_eq_true, Bool.true_eq_false, false_and, true_and, and_false, and_true, or_self, or_false, false_or, or_true, true_or, cont_x, n_leF, c_1, w0, w1, w2, h1, bI_n]
      | false =>
        rw [if_neg (fun z => by have := hok.mp z; cases this)] at h1
        refine ⟨J, hJ, fun j => rfl, fun x => ?_⟩
        simp (disch := first | assumption | omega) only [in226, k226_0, k226_1, k226_2, k226_3, k226_4, k226_5, k226_6, k226_7, k226_40, k226_41, k226_42, k226_43, k226_46, k226_47, k226_48, k226_49, k226_52, k226_55, k226_56, k226_57, k226_58, k226_59, k226_62, k226_63, k226_64, k226_65, k226_66, k226_67, k226_68, k226_69, k226_72, k226_73, k226_74, k226_75, k226_76, k226_77, k226_78, k226_79, k226_80, k226_81, k226_84, k226_85, k226_86, k226_87, k226_90, k226_91, k226_92, k226_94, k226_95, k226_98, k226_101, k226_102, k226_103, k226_104, k226_105, k226_108, k226_109, c_0, c_1, c_2, c_3, c_4, c_5, c_6, c_7, c_8, c_9, c_10, c_11, c_12, c_13, c_14, c_15, c_16, c_43, c_400, hS, t_71, f_71_9, f_71_10, f_71_11, f_71_12, f_71_13, f_71_14, f_71_15, f_71_16, f_71_17, f_71_20, f_71_21, f_71_22, f_71_23, f_71_24, f_71_25, f_71_26, f_71_28, f_71_29, f_71_30, f_71_31, f_71_32, f_71_40, f_71_41, t_72, l_72, t_73, l_73, t_74, l_74, t_75, l_75, t_76, l_76, t_77, l_77, t_84, l_84, t_91, l_91, t_104, l_104, t_117, l_117, t_278, l_278, t_439, l_439, t_446, l_446, t_453, l_453, t_454, l_454, t_455, l_455, t_536, l_536, t_537, l_537, t_538, l_538, t_539, l_539, t_556, l_556, t_560, l_560, t_561, l_561, f_77, t_78, l_78, f_84, t_85, l_85, f_91, t_92, l_92, f_104, t_105, l_105, f_117, t_118, l_118, f_278, t_279, l_279, f_439, t_440, l_440, f_446, t_447, l_447, f_455, t_456, l_456, f_539, t_540, l_540, f_556, t_557, l_557, w_t, w_l, rowX_s, rowX_n, rowX_f, rowX_2, up_s, up_n, Nat.zero_add, n_m1, i_dec, cat_n, cat_i, cat_r, cat_l, i_add, i_tn, i_vi, i_lt, i_eq, i_shl, n_ltT, n_ltF, n_eqT, n_eqF, n_leT, t_and, nb_0, nb_1, b2_0, b2_n, cont_v, cont_n, ex_eq, u_s, u_c, u_j, ↓reduceIte, ite_not, not_true_eq_false, not_false_eq_true, Bool.false_eq_true, Bool.true_eq_false, false_and, true_and, and_false, and_true, or_self, or_false, false_or, or_true, true_or, cont_x, n_leF, c_1, w0, w1, w2, h1, bI_n]
  · -- give
    obtain ⟨ha, hb, x1, x2⟩ := kD e
    rw [e] at c0
    have c1 := c1 (by omega)
    have c2 := c2 (by omega)
    have c3 := c3 e
    obtain ⟨a_, eA⟩ : ∃ x, F 1 r = x := ⟨_, rfl⟩
    rw [eA] at ha c1
    obtain ⟨b_, eB⟩ : ∃ x, F 2 r = x := ⟨_, rfl⟩
    rw [eB] at hb c2
    obtain ⟨c_, eC⟩ : ∃ x, F 3 r = x := ⟨_, rfl⟩
    rw [eC] at x1 x2 c3
    obtain ⟨ok, hok⟩ : ∃ ok : Bool, (a_ ≠ b_ ∧ ¬ g (24 + a_) < i32 c_) ↔ ok = true := ⟨decide (a_ ≠ b_ ∧ ¬ g (24 + a_) < i32 c_), by simp⟩
    have ef : f (3 + a_) = g (24 + a_) := (hR.2.1 a_ ha).1
    refine ⟨ok, (if ok then updF (updF f (3 + a_) (f (3 + a_) - i32 c_)) (3 + b_) (mnI (i32 999) (f (3 + b_) + i32 c_)) else f), (if ok then updF (updF g (24 + a_) (g (24 + a_) - i32 c_)) (24 + b_) (mnI (i32 999) (g (24 + b_) + i32 c_)) else g), ?_, ?_, ?_⟩
    · cases ok with
      | true => exact rw_gi hR h6 h12 ha hb x2 (hok.mpr rfl).2
      | false => exact hR
    · intro K L S d hS hK
      obtain ⟨y1, y2, y3, y4, y5⟩ := kcV hV hL hK
      have h1 := fun x => n38 (d := d + 2) (I := K) (L := L) (r := x) (x := i32 c_) hS y1 y2 h6 h12 ha hb
      have hok2 : (a_ ≠ b_ ∧ ¬ f (3 + a_) < i32 c_) ↔ ok = true := by rw [ef]; exact hok
      rw [hK.2, b2_bI hok2] at h1
      have w6 := K45 hK 46 (by omega) (by omega)
      have w7 := K45 hK 47 (by omega) (by omega)
      have w8 := K45 hK 48 (by omega) (by omega)
      have w9 := K45 hK 49 (by omega) (by omega)
      rw [c0] at w6
      rw [c1] at w7
      rw [c2] at w8
      rw [c3] at w9
      cases ok with
      | true =>
        rw [if_pos (hok2.mpr rfl)] at h1
        refine ⟨rowX K 52 (updF (updF f (3 + a_) (f (3 + a_) - i32 c_)) (3 + b_) (mnI (i32 999) (f (3 + b_) + i32 c_))), kc_row hK, fun j => by rw [rowX_n (by omega)], fun x => ?_⟩
        simp (disch := first | assumption | omega) only [in90, k90_0, k90_1, k90_4, k90_5, k90_6, k90_44, k90_45, k90_46, k90_49, k90_50, k90_51, k90_54, k90_55, k90_58, k90_59, k90_62, k90_63, k90_64, k90_65, k90_66, k90_69, k90_70, k90_71, k90_74, k90_75, k90_76, k90_77, k90_80, k90_81, k90_82, k90_83, k90_86, k90_87, k90_88, k90_91, k90_92, k90_93, k90_94, k90_97, k90_98, k90_99, k90_100, k90_103, k90_104, k90_105, k90_106, k90_109, k90_110, k90_111, k90_114, k90_115, k90_116, k90_117, k90_120, k90_121, k90_122, k90_125, k90_126, k90_127, k90_130, k90_131, k90_132, c_0, c_1, c_2, c_3, c_4, c_5, c_6, c_7, c_8, c_9, c_10, c_11, c_12, c_13, c_14, c_15, c_16, hS, t_16, f_16_0, f_16_1, f_16_2, f_16_3, f_16_4, f_16_5, f_16_6, f_16_7, f_16_8, f_16_9, f_16_10, f_16_11, f_16_12, f_16_13, t_17, f_17_0, t_18, l_18, t_19, f_19_0, f_19_1, f_19_2, f_19_3, f_19_4, f_19_5, f_19_6, t_20, l_20, t_21, l_21, t_22, l_22, t_23, l_23, t_24, l_24, t_25, l_25, t_26, l_26, t_27, f_27_0, f_27_1, f_27_2, f_27_3, f_27_4, f_27_5, f_27_6, t_28, l_28, t_29, l_29, t_30, l_30, t_31, l_31, t_32, l_32, t_33, l_33, t_34, l_34, t_35, f_35_0, f_35_1, t_36, l_36, t_37, l_37, t_38, f_38_0, f_38_1, t_39, l_39, t_40, l_40, t_41, f_41_0, t_42, l_42, t_43, f_43_0, t_44, l_44, t_45, f_45_0, f_45_1, f_45_2, f_45_3, t_46, l_46, t_47, l_47, t_48, l_48, t_49, l_49, t_50, l_50, t_51, f_51_0, f_51_1, f_51_2, f_51_3, t_52, l_52, t_53, l_53, t_54, f_54_0, f_54_1, f_54_2, f_54_3, t_55, l_55, t_56, l_56, t_57, f_57_0, f_57_1, f_57_2, f_57_3, t_58, l_58, t_59, l_59, t_60, l_60, t_61, f_61_0, f_61_1, f_61_2, f_61_3, f_61_4, f_61_5, f_61_6, t_62, l_62, t_63, f_63_0, f_63_1, t_64, l_64, t_65, l_65, t_66, f_66_0, f_66_1, t_67, l_67, t_68, l_68, t_69, l_69, t_70, f_70_0, f_70_1, t_1, l_1, t_2, l_2, m_t, m_f0, m_f1, m_f2, m_f3, m_t1, m_l1, m_t2, m_l2, rowX_s, rowX_n, rowX_f, rowX_2, up_s, up_n, Nat.zero_add, n_m1, i_dec, cat_n, cat_i, cat_r, cat_l, i_add, i_tn, i_vi, i_lt, i_eq, i_shl, n_ltT, n_ltF, n_eqT, n_eqF, n_leT, t_and, nb_0, nb_1, b2_0, b2_n, cont_v, cont_n, ex_eq, u_s, u_c, u_j, ↓reduceIte, ite_not, not_true_eq_false, not_false_eq_true, Bool.false_eq_true, Bool.true_eq_false, false_and, true_and, and_false, and_true, or_self, or_false, false_or, or_true, true_or, cont_x, n_leF, c_1, w6, w7, w8, w9, h1, bI_n]
      | false =>
        rw [if_neg (fun z => by have := hok2.mp z; cases this)] at h1
        refine ⟨K, hK, fun j => rfl, fun x => ?_⟩
        simp (disch := first | assumption | omega) only [in90, k90_0, k90_1, k90_4, k90_5, k90_6, k90_44, k90_45, k90_46, k90_49, k90_50, k90_51, k90_54, k90_55, k90_58, k90_59, k90_62, k90_63, k90_64, k90_65, k90_66, k90_69, k90_70, k90_71, k90_74, k90_75, k90_76, k90_77, k90_80, k90_81, k90_82, k90_83, k90_86, k90_87, k90_88, k90_91, k90_92, k90_93, k90_94, k90_97, k90_98, k90_99, k90_100, k90_103, k90_104, k90_105, k90_106, k90_109, k90_110, k90_111, k90_114, k90_115, k90_116, k90_117, k90_120, k90_121, k90_122, k90_125, k90_126, k90_127, k90_130, k90_131, k90_132, c_0, c_1, c_2, c_3, c_4, c_5, c_6, c_7, c_8, c_9, c_10, c_11, c_12, c_13, c_14, c_15, c_16, hS, t_16, f_16_0, f_16_1, f_16_2, f_16_3, f_16_4, f_16_5, f_16_6, f_16_7, f_16_8, f_16_9, f_16_10, f_16_11, f_16_12, f_16_13, t_17, f_17_0, t_18, l_18, t_19, f_19_0, f_19_1, f_19_2, f_19_3, f_19_4, f_19_5, f_19_6, t_20, l_20, t_21, l_21, t_22, l_22, t_23, l_23, t_24, l_24, t_25, l_25, t_26, l_26, t_27, f_27_0, f_27_1, f_27_2, f_27_3, f_27_4, f_27_5, f_27_6, t_28, l_28, t_29, l_29, t_30, l_30, t_31, l_31, t_32, l_32, t_33, l_33, t_34, l_34, t_35, f_35_0, f_35_1, t_36, l_36, t_37, l_37, t_38, f_38_0, f_38_1, t_39, l_39, t_40, l_40, t_41, f_41_0, t_42, l_42, t_43, f_43_0, t_44, l_44, t_45, f_45_0, f_45_1, f_45_2, f_45_3, t_46, l_46, t_47, l_47, t_48, l_48, t_49, l_49, t_50, l_50, t_51, f_51_0, f_51_1, f_51_2, f_51_3, t_52, l_52, t_53, l_53, t_54, f_54_0, f_54_1, f_54_2, f_54_3, t_55, l_55, t_56, l_56, t_57, f_57_0, f_57_1, f_57_2, f_57_3, t_58, l_58, t_59, l_59, t_60, l_60, t_61, f_61_0, f_61_1, f_61_2, f_61_3, f_61_4, f_61_5, f_61_6, t_62, l_62, t_63, f_63_0, f_63_1, t_64, l_64, t_65, l_65, t_66, f_66_0, f_66_1, t_67, l_67, t_68, l_68, t_69, l_69, t_70, f_70_0, f_70_1, t_1, l_1, t_2, l_2, m_t, m_f0, m_f1, m_f2, m_f3, m_t1, m_l1, m_t2, m_l2, rowX_s, rowX_n, rowX_f, rowX_2, up_s, up_n, Nat.zero_add, n_m1, i_dec, cat_n, cat_i, cat_r, cat_l, i_add, i_tn, i_vi, i_lt, i_eq, i_shl, n_ltT, n_ltF, n_eqT, n_eqF, n_leT, t_and, nb_0, nb_1, b2_0, b2_n, cont_v, cont_n, ex_eq, u_s, u_c, u_j, ↓reduceIte, ite_not, not_true_eq_false, not_false_eq_true, Bool.false_eq_true, Bool.true_eq_false, false_and, true_and, and_false, and_true, or_self, or_false, false_or, or_true, true_or, cont_x, n_leF, c_1, w6, w7, w8, w9, h1, bI_n]
    · intro J0 J L S d hS hV0 hL0 hsv hRM hJ
      obtain ⟨z0, z1, z2, z3, _⟩ := hRM
      rw [e] at z0
      have z1 := z1 (by omega)
      have z2 := z2 (by omega)
      have z3 := z3 e
      rw [eA] at z1
      rw [eB] at z2
      rw [eC] at z3
      have w0 := J45 hJ 0
      have w1 := J45 hJ 1
      have w2 := J45 hJ 2
      have w3 := J45 hJ 3
      rw [z0] at w0
      rw [z1] at w1
      rw [z2] at w2
      rw [z3] at w3
      have h1 := fun x => d224 (d := d + 4) (I := J) (L := L) (r := x) (w := 536) (a := a_) (b := b_) (x := i32 c_) hS (Or.inl rfl) (by omega) (by omega)
      rw [hJ.2, b2_bI hok] at h1
      cases ok with
      | true =>
        rw [if_pos (hok.mpr rfl)] at h1
        refine ⟨rowX J 536 (updF (updF g (24 + a_) (g (24 + a_) - i32 c_)) (24 + b_) (mnI (i32 999) (g (24 + b_) + i32 c_))), km_row hJ, fun j => by rw [rowX_n (by omega)], fun x => ?_⟩
        simp (disch := first | assumption | omega) only [in226, k226_0, k226_1, k226_2, k226_3, k226_4, k226_5, k226_6, k226_7, k226_40, k226_41, k226_42, k226_43, k226_46, k226_47, k226_48, k226_49, k226_52, k226_55, k226_56, k226_57, k226_58, k226_59, k226_62, k226_63, k226_64, k226_65, k226_66, k226_67, k226_68, k226_69, k226_72, k226_73, k226_74, k226_75, k226_76, k226_77, k226_78, k226_79, k226_80, k226_81, k226_84, k226_85, k226_86, k226_87, k226_90, k226_91, k226_92, k226_94, k226_95, k226_98, k226_101, k226_102, k226_103, k226_104, k226_105, k226_108, k226_109, c_0, c_1, c_2, c_3, c_4, c_5, c_6, c_7, c_8, c_9, c_10, c_11, c_12, c_13, c_14, c_15, c_16, c_43, c_400, hS, t_71, f_71_9, f_71_10, f_71_11, f_71_12, f_71_13, f_71_14, f_71_15, f_71_16, f_71_17, f_71_20, f_71_21, f_71_22, f_71_23, f_71_24, f_71_25, f_71_26, f_71_28, f_71_29, f_71_30, f_71_31, f_71_32, f_71_40, f_71_41, t_72, l_72, t_73, l_73, t_74, l_74, t_75, l_75, t_76, l_76, t_77, l_77, t_84, l_84, t_91, l_91, t_104, l_104, t_117, l_117, t_278, l_278, t_439, l_439, t_446, l_446, t_453, l_453, t_454, l_454, t_455, l_455, t_536, l_536, t_537, l_537, t_538, l_538, t_539, l_539, t_556, l_556, t_560, l_560, t_561, l_561, f_77, t_78, l_78, f_84, t_85, l_85, f_91, t_92, l_92, f_104, t_105, l_105, f_117, t_118, l_118, f_278, t_279, l_279, f_439, t_440, l_440, f_446, t_447, l_447, f_455, t_456, l_456, f_539, t_540, l_540, f_556, t_557, l_557, w_t, w_l, rowX_s, rowX_n, rowX_f, rowX_2, up_s, up_n, Nat.zero_add, n_m1, i_dec, cat_n, cat_i, cat_r, cat_l, i_add, i_tn, i_vi, i_lt, i_eq, i_shl, n_ltT, n_ltF, n_eqT, n_eqF, n_leT, t_and, nb_0, nb_1, b2_0, b2_n, cont_v, cont_n, ex_eq, u_s, u_c, u_j, ↓reduceIte, ite_not, not_true_eq_false, not_false_eq_true, Bool.false_eq_true, Bool.true_eq_false, false_and, true_and, and_false, and_true, or_self, or_false, false_or, or_true, true_or, cont_x, n_leF, c_1, w0, w1, w2, w3, h1, bI_n]
      | false =>
        rw [if_neg (fun z => by have := hok.mp z; cases this)] at h1
        refine ⟨J, hJ, fun j => rfl, fun x => ?_⟩
        simp (disch := first | assumption | omega) only [in226, k226_0, k226_1, k226_2, k226_3, k226_4, k226_5, k226_6, k226_7, k226_40, k226_41, k226_42, k226_43, k226_46, k226_47, k226_48, k226_49, k226_52, k226_55, k226_56, k226_57, k226_58, k226_59, k226_62, k226_63, k226_64, k226_65, k226_66, k226_67, k226_68, k226_69, k226_72, k226_73, k226_74, k226_75, k226_76, k226_77, k226_78, k226_79, k226_80, k226_81, k226_84, k226_85, k226_86, k226_87, k226_90, k226_91, k226_92, k226_94, k226_95, k226_98, k226_101, k226_102, k226_103, k226_104, k226_105, k226_108, k226_109, c_0, c_1, c_2, c_3, c_4, c_5, c_6, c_7, c_8, c_9, c_10, c_11, c_12, c_13, c_14, c_15, c_16, c_43, c_400, hS, t_71, f_71_9, f_71_10, f_71_11, f_71_12, f_71_13, f_71_14, f_71_15, f_71_16, f_71_17, f_71_20, f_71_21, f_71_22, f_71_23, f_71_24, f_71_25, f_71_26, f_71_28, f_71_29, f_71_30, f_71_31, f_71_32, f_71_40, f_71_41, t_72, l_72, t_73, l_73, t_74, l_74, t_75, l_75, t_76, l_76, t_77, l_77, t_84, l_84, t_91, l_91, t_104, l_104, t_117, l_117, t_278, l_278, t_439, l_439, t_446, l_446, t_453, l_453, t_454, l_454, t_455, l_455, t_536, l_536, t_537, l_537, t_538, l_538, t_539, l_539, t_556, l_556, t_560, l_560, t_561, l_561, f_77, t_78, l_78, f_84, t_85, l_85, f_91, t_92, l_92, f_104, t_105, l_105, f_117, t_118, l_118, f_278, t_279, l_279, f_439, t_440, l_440, f_446, t_447, l_447, f_455, t_456, l_456, f_539, t_540, l_540, f_556, t_557, l_557, w_t, w_l, rowX_s, rowX_n, rowX_f, rowX_2, up_s, up_n, Nat.zero_add, n_m1, i_dec, cat_n, cat_i, cat_r, cat_l, i_add, i_tn, i_vi, i_lt, i_eq, i_shl, n_ltT, n_ltF, n_eqT, n_eqF, n_leT, t_and, nb_0, nb_1, b2_0, b2_n, cont_v, cont_n, ex_eq, u_s, u_c, u_j, ↓reduceIte, ite_not, not_true_eq_false, not_false_eq_true, Bool.false_eq_true, Bool.true_eq_false, false_and, true_and, and_false, and_true, or_self, or_false, false_or, or_true, true_or, cont_x, n_leF, c_1, w0, w1, w2, w3, h1, bI_n]
  · -- rain
    obtain ⟨x1, x2⟩ := kE e
    rw [e] at c0
    have c1 := c1 (by omega)
    obtain ⟨a_, eA⟩ : ∃ x, F 1 r = x := ⟨_, rfl⟩
    rw [eA] at x1 x2 c1
    obtain ⟨ok, hok⟩ : ∃ ok : Bool, (¬ g 42 = i32 99) ↔ ok = true := ⟨decide (¬ g 42 = i32 99), by simp⟩
    refine ⟨ok, (if ok then updF f 1 (mnI (i32 99) (f 1 + i32 a_)) else f), (if ok then updF g 42 (mnI (i32 99) (g 42 + i32 a_)) else g), ?_, ?_, ?_⟩
    · cases ok with
      | true => exact rw_ra hR h6 h12 (by omega)
      | false => exact hR
    · intro K L S d hS hK
      obtain ⟨y1, y2, y3, y4, y5⟩ := kcV hV hL hK
      have h1 := fun x => n39 (d := d + 3) (I := K) (L := L) (r := x) (x := i32 a_) hS y1 y2 h6 h12
      have hok2 : (f 1 < i32 99) ↔ ok = true := by rw [ra_c hR]; exact hok
      rw [hK.2, b2_bI hok2] at h1
      have w6 := K45 hK 46 (by omega) (by omega)
      have w7 := K45 hK 47 (by omega) (by omega)
      rw [c0] at w6
      rw [c1] at w7
      cases ok with
      | true =>
        rw [if_pos (hok2.mpr rfl)] at h1
        refine ⟨rowX K 52 (updF f 1 (mnI (i32 99) (f 1 + i32 a_))), kc_row hK, fun j => by rw [rowX_n (by omega)], fun x => ?_⟩
        simp (disch := first | assumption | omega) only [in90, k90_0, k90_1, k90_4, k90_5, k90_6, k90_44, k90_45, k90_46, k90_49, k90_50, k90_51, k90_54, k90_55, k90_58, k90_59, k90_62, k90_63, k90_64, k90_65, k90_66, k90_69, k90_70, k90_71, k90_74, k90_75, k90_76, k90_77, k90_80, k90_81, k90_82, k90_83, k90_86, k90_87, k90_88, k90_91, k90_92, k90_93, k90_94, k90_97, k90_98, k90_99, k90_100, k90_103, k90_104, k90_105, k90_106, k90_109, k90_110, k90_111, k90_114, k90_115, k90_116, k90_117, k90_120, k90_121, k90_122, k90_125, k90_126, k90_127, k90_130, k90_131, k90_132, c_0, c_1, c_2, c_3, c_4, c_5, c_6, c_7, c_8, c_9, c_10, c_11, c_12, c_13, c_14, c_15, c_16, hS, t_16, f_16_0, f_16_1, f_16_2, f_16_3, f_16_4, f_16_5, f_16_6, f_16_7, f_16_8, f_16_9, f_16_10, f_16_11, f_16_12, f_16_13, t_17, f_17_0, t_18, l_18, t_19, f_19_0, f_19_1, f_19_2, f_19_3, f_19_4, f_19_5, f_19_6, t_20, l_20, t_21, l_21, t_22, l_22, t_23, l_23, t_24, l_24, t_25, l_25, t_26, l_26, t_27, f_27_0, f_27_1, f_27_2, f_27_3, f_27_4, f_27_5, f_27_6, t_28, l_28, t_29, l_29, t_30, l_30, t_31, l_31, t_32, l_32, t_33, l_33, t_34, l_34, t_35, f_35_0, f_35_1, t_36, l_36, t_37, l_37, t_38, f_38_0, f_38_1, t_39, l_39, t_40, l_40, t_41, f_41_0, t_42, l_42, t_43, f_43_0, t_44, l_44, t_45, f_45_0, f_45_1, f_45_2, f_45_3, t_46, l_46, t_47, l_47, t_48, l_48, t_49, l_49, t_50, l_50, t_51, f_51_0, f_51_1, f_51_2, f_51_3, t_52, l_52, t_53, l_53, t_54, f_54_0, f_54_1, f_54_2, f_54_3, t_55, l_55, t_56, l_56, t_57, f_57_0, f_57_1, f_57_2, f_57_3, t_58, l_58, t_59, l_59, t_60, l_60, t_61, f_61_0, f_61_1, f_61_2, f_61_3, f_61_4, f_61_5, f_61_6, t_62, l_62, t_63, f_63_0, f_63_1, t_64, l_64, t_65, l_65, t_66, f_66_0, f_66_1, t_67, l_67, t_68, l_68, t_69, l_69, t_70, f_70_0, f_70_1, t_1, l_1, t_2, l_2, m_t, m_f0, m_f1, m_f2, m_f3, m_t1, m_l1, m_t2, m_l2, rowX_s, rowX_n, rowX_f, rowX_2, up_s, up_n, Nat.zero_add, n_m1, i_dec, cat_n, cat_i, cat_r, cat_l, i_add, i_tn, i_vi, i_lt, i_eq, i_shl, n_ltT, n_ltF, n_eqT, n_eqF, n_leT, t_and, nb_0, nb_1, b2_0, b2_n, cont_v, cont_n, ex_eq, u_s, u_c, u_j, ↓reduceIte, ite_not, not_true_eq_false, not_false_eq_true, Bool.false_eq_true, Bool.true_eq_false, false_and, true_and, and_false, and_true, or_self, or_false, false_or, or_true, true_or, cont_x, n_leF, c_1, w6, w7, h1, bI_n]
      | false =>
        rw [if_neg (fun z => by have := hok2.mp z; cases this)] at h1
        refine ⟨K, hK, fun j => rfl, fun x => ?_⟩
        simp (disch := first | assumption | omega) only [in90, k90_0, k90_1, k90_4, k90_5, k90_6, k90_44, k90_45, k90_46, k90_49, k90_50, k90_51, k90_54, k90_55, k90_58, k90_59, k90_62, k90_63, k90_64, k90_65, k90_66, k90_69, k90_70, k90_71, k90_74, k90_75, k90_76, k90_77, k90_80, k90_81, k90_82, k90_83, k90_86, k90_87, k90_88, k90_91, k90_92, k90_93, k90_94, k90_97, k90_98, k90_99, k90_100, k90_103, k90_104, k90_105, k90_106, k90_109, k90_110, k90_111, k90_114, k90_115, k90_116, k90_117, k90_120, k90_121, k90_122, k90_125, k90_126, k90_127, k90_130, k90_131, k90_132, c_0, c_1, c_2, c_3, c_4, c_5, c_6, c_7, c_8, c_9, c_10, c_11, c_12, c_13, c_14, c_15, c_16, hS, t_16, f_16_0, f_16_1, f_16_2, f_16_3, f_16_4, f_16_5, f_16_6, f_16_7, f_16_8, f_16_9, f_16_10, f_16_11, f_16_12, f_16_13, t_17, f_17_0, t_18, l_18, t_19, f_19_0, f_19_1, f_19_2, f_19_3, f_19_4, f_19_5, f_19_6, t_20, l_20, t_21, l_21, t_22, l_22, t_23, l_23, t_24, l_24, t_25, l_25, t_26, l_26, t_27, f_27_0, f_27_1, f_27_2, f_27_3, f_27_4, f_27_5, f_27_6, t_28, l_28, t_29, l_29, t_30, l_30, t_31, l_31, t_32, l_32, t_33, l_33, t_34, l_34, t_35, f_35_0, f_35_1, t_36, l_36, t_37, l_37, t_38, f_38_0, f_38_1, t_39, l_39, t_40, l_40, t_41, f_41_0, t_42, l_42, t_43, f_43_0, t_44, l_44, t_45, f_45_0, f_45_1, f_45_2, f_45_3, t_46, l_46, t_47, l_47, t_48, l_48, t_49, l_49, t_50, l_50, t_51, f_51_0, f_51_1, f_51_2, f_51_3, t_52, l_52, t_53, l_53, t_54, f_54_0, f_54_1, f_54_2, f_54_3, t_55, l_55, t_56, l_56, t_57, f_57_0, f_57_1, f_57_2, f_57_3, t_58, l_58, t_59, l_59, t_60, l_60, t_61, f_61_0, f_61_1, f_61_2, f_61_3, f_61_4, f_61_5, f_61_6, t_62, l_62, t_63, f_63_0, f_63_1, t_64, l_64, t_65, l_65, t_66, f_66_0, f_66_1, t_67, l_67, t_68, l_68, t_69, l_69, t_70, f_70_0, f_70_1, t_1, l_1, t_2, l_2, m_t, m_f0, m_f1, m_f2, m_f3, m_t1, m_l1, m_t2, m_l2, rowX_s, rowX_n, rowX_f, rowX_2, up_s, up_n, Nat.zero_add, n_m1, i_dec, cat_n, cat_i, cat_r, cat_l, i_add, i_tn, i_vi, i_lt, i_eq, i_shl, n_ltT, n_ltF, n_eqT, n_eqF, n_leT, t_and, nb_0, nb_1, b2_0, b2_n, cont_v, cont_n, ex_eq, u_s, u_c, u_j, ↓reduceIte, ite_not, not_true_eq_false, not_false_eq_true, Bool.false_eq_true, Bool.true_eq_false, false_and, true_and, and_false, and_true, or_self, or_false, false_or, or_true, true_or, cont_x, n_leF, c_1, w6, w7, h1, bI_n]
    · intro J0 J L S d hS hV0 hL0 hsv hRM hJ
      obtain ⟨z0, z1, _, _, _⟩ := hRM
      rw [e] at z0
      have z1 := z1 (by omega)
      rw [eA] at z1
      have w0 := J45 hJ 0
      have w1 := J45 hJ 1
      rw [z0] at w0
      rw [z1] at w1
      have h1 := fun x => d223 (d := d + 4) (I := J) (L := L) (r := x) (w := 536) (x := i32 a_) hS (Or.inl rfl)
      rw [hJ.2, b2_bI hok] at h1
      cases ok with
      | true =>
        rw [if_pos (hok.mpr rfl)] at h1
        refine ⟨rowX J 536 (updF g 42 (mnI (i32 99) (g 42 + i32 a_))), km_row hJ, fun j => by rw [rowX_n (by omega)], fun x => ?_⟩
        simp (disch := first | assumption | omega) only [in226, k226_0, k226_1, k226_2, k226_3, k226_4, k226_5, k226_6, k226_7, k226_40, k226_41, k226_42, k226_43, k226_46, k226_47, k226_48, k226_49, k226_52, k226_55, k226_56, k226_57, k226_58, k226_59, k226_62, k226_63, k226_64, k226_65, k226_66, k226_67, k226_68, k226_69, k226_72, k226_73, k226_74, k226_75, k226_76, k226_77, k226_78, k226_79, k226_80, k226_81, k226_84, k226_85, k226_86, k226_87, k226_90, k226_91, k226_92, k226_94, k226_95, k226_98, k226_101, k226_102, k226_103, k226_104, k226_105, k226_108, k226_109, c_0, c_1, c_2, c_3, c_4, c_5, c_6, c_7, c_8, c_9, c_10, c_11, c_12, c_13, c_14, c_15, c_16, c_43, c_400, hS, t_71, f_71_9, f_71_10, f_71_11, f_71_12, f_71_13, f_71_14, f_71_15, f_71_16, f_71_17, f_71_20, f_71_21, f_71_22, f_71_23, f_71_24, f_71_25, f_71_26, f_71_28, f_71_29, f_71_30, f_71_31, f_71_32, f_71_40, f_71_41, t_72, l_72, t_73, l_73, t_74, l_74, t_75, l_75, t_76, l_76, t_77, l_77, t_84, l_84, t_91, l_91, t_104, l_104, t_117, l_117, t_278, l_278, t_439, l_439, t_446, l_446, t_453, l_453, t_454, l_454, t_455, l_455, t_536, l_536, t_537, l_537, t_538, l_538, t_539, l_539, t_556, l_556, t_560, l_560, t_561, l_561, f_77, t_78, l_78, f_84, t_85, l_85, f_91, t_92, l_92, f_104, t_105, l_105, f_117, t_118, l_118, f_278, t_279, l_279, f_439, t_440, l_440, f_446, t_447, l_447, f_455, t_456, l_456, f_539, t_540, l_540, f_556, t_557, l_557, w_t, w_l, rowX_s, rowX_n, rowX_f, rowX_2, up_s, up_n, Nat.zero_add, n_m1, i_dec, cat_n, cat_i, cat_r, cat_l, i_add, i_tn, i_vi, i_lt, i_eq, i_shl, n_ltT, n_ltF, n_eqT, n_eqF, n_leT, t_and, nb_0, nb_1, b2_0, b2_n, cont_v, cont_n, ex_eq, u_s, u_c, u_j, ↓reduceIte, ite_not, not_true_eq_false, not_false_eq_true, Bool.false_eq_true, Bool.true_eq_false, false_and, true_and, and_false, and_true, or_self, or_false, false_or, or_true, true_or, cont_x, n_leF, c_1, w0, w1, h1, bI_n]
      | false =>
        rw [if_neg (fun z => by have := hok.mp z; cases this)] at h1
        refine ⟨J, hJ, fun j => rfl, fun x => ?_⟩
        simp (disch := first | assumption | omega) only [in226, k226_0, k226_1, k226_2, k226_3, k226_4, k226_5, k226_6, k226_7, k226_40, k226_41, k226_42, k226_43, k226_46, k226_47, k226_48, k226_49, k226_52, k226_55, k226_56, k226_57, k226_58, k226_59, k226_62, k226_63, k226_64, k226_65, k226_66, k226_67, k226_68, k226_69, k226_72, k226_73, k226_74, k226_75, k226_76, k226_77, k226_78, k226_79, k226_80, k226_81, k226_84, k226_85, k226_86, k226_87, k226_90, k226_91, k226_92, k226_94, k226_95, k226_98, k226_101, k226_102, k226_103, k226_104, k226_105, k226_108, k226_109, c_0, c_1, c_2, c_3, c_4, c_5, c_6, c_7, c_8, c_9, c_10, c_11, c_12, c_13, c_14, c_15, c_16, c_43, c_400, hS, t_71, f_71_9, f_71_10, f_71_11, f_71_12, f_71_13, f_71_14, f_71_15, f_71_16, f_71_17, f_71_20, f_71_21, f_71_22, f_71_23, f_71_24, f_71_25, f_71_26, f_71_28, f_71_29, f_71_30, f_71_31, f_71_32, f_71_40, f_71_41, t_72, l_72, t_73, l_73, t_74, l_74, t_75, l_75, t_76, l_76, t_77, l_77, t_84, l_84, t_91, l_91, t_104, l_104, t_117, l_117, t_278, l_278, t_439, l_439, t_446, l_446, t_453, l_453, t_454, l_454, t_455, l_455, t_536, l_536, t_537, l_537, t_538, l_538, t_539, l_539, t_556, l_556, t_560, l_560, t_561, l_561, f_77, t_78, l_78, f_84, t_85, l_85, f_91, t_92, l_92, f_104, t_105, l_105, f_117, t_118, l_118, f_278, t_279, l_279, f_439, t_440, l_440, f_446, t_447, l_447, f_455, t_456, l_456, f_539, t_540, l_540, f_556, t_557, l_557, w_t, w_l, rowX_s, rowX_n, rowX_f, rowX_2, up_s, up_n, Nat.zero_add, n_m1, i_dec, cat_n, cat_i, cat_r, cat_l, i_add, i_tn, i_vi, i_lt, i_eq, i_shl, n_ltT, n_ltF, n_eqT, n_eqF, n_leT, t_and, nb_0, nb_1, b2_0, b2_n, cont_v, cont_n, ex_eq, u_s, u_c, u_j, ↓reduceIte, ite_not, not_true_eq_false, not_false_eq_true, Bool.false_eq_true, Bool.true_eq_false, false_and, true_and, and_false, and_true, or_self, or_false, false_or, or_true, true_or, cont_x, n_leF, c_1, w0, w1, h1, bI_n]
  · -- day
    rw [e] at c0
    obtain ⟨y, hy400, hy, _⟩ := hR.2.2.2.1
    obtain ⟨ok, hok⟩ : ∃ ok : Bool, (g 43 < i32 400) ↔ ok = true := ⟨decide (g 43 < i32 400), by simp⟩
    obtain ⟨_, _, hho, _⟩ := id hV
    refine ⟨ok, (if ok then dayC nh nd (I 20) f else f), (if ok then dayM nh nd (fun h => I (85 + h) 0) g else g), ?_, ?_, ?_⟩
    · cases ok with
      | true =>
        have hlt := hok.mpr rfl
        rw [hy, i_lt (by omega) (by omega)] at hlt
        obtain ⟨q0, q1, q2, ⟨y', hy'1, hy'2, hy'3⟩, q4⟩ := hR
        have ey : y' = y := by rw [hy, i_eq (by omega) (by omega)] at hy'2; exact hy'2.symm
        subst ey
        have hR' : Rw nh nd y' f g := ⟨q0, q1, q2, ⟨y', Nat.le_refl _, hy'2, hy'3⟩, q4⟩
        exact Rw_D (rw_day hR' h6 h12 (fun h hh => ⟨(hho h hh).1, (hho h hh).2.2⟩)) (by omega)
      | false => exact hR
    · intro K L S d hS hK
      obtain ⟨y1, y2, y3, y4, y5⟩ := kcV hV hL hK
      have kT : K 52 2 = i32 (bitsN nd (thr nd (fun d => K 52 (21 + d)))) := by rw [hK.2]; exact hR.1.2.2
      have h1 := fun x => n40 (d := d + 2) (I := K) (L := L) (r := x) hS y1 y2 h6 h12 kT
      have e20 : K 20 = I 20 := funext fun j => hK.1 _ _ (by omega) (by omega) (by omega)
      rw [hK.2, hR.1.1, e20, b2_bI hok] at h1
      have w6 := K45 hK 46 (by omega) (by omega)
      rw [c0] at w6
      cases ok with
      | true =>
        rw [if_pos (hok.mpr rfl)] at h1
        refine ⟨rowX K 52 (dayC nh nd (I 20) f), kc_row hK, fun j => by rw [rowX_n (by omega)], fun x => ?_⟩
        simp (disch := first | assumption | omega) only [in90, k90_0, k90_1, k90_4, k90_5, k90_6, k90_44, k90_45, k90_46, k90_49, k90_50, k90_51, k90_54, k90_55, k90_58, k90_59, k90_62, k90_63, k90_64, k90_65, k90_66, k90_69, k90_70, k90_71, k90_74, k90_75, k90_76, k90_77, k90_80, k90_81, k90_82, k90_83, k90_86, k90_87, k90_88, k90_91, k90_92, k90_93, k90_94, k90_97, k90_98, k90_99, k90_100, k90_103, k90_104, k90_105, k90_106, k90_109, k90_110, k90_111, k90_114, k90_115, k90_116, k90_117, k90_120, k90_121, k90_122, k90_125, k90_126, k90_127, k90_130, k90_131, k90_132, c_0, c_1, c_2, c_3, c_4, c_5, c_6, c_7, c_8, c_9, c_10, c_11, c_12, c_13, c_14, c_15, c_16, hS, t_16, f_16_0, f_16_1, f_16_2, f_16_3, f_16_4, f_16_5, f_16_6, f_16_7, f_16_8, f_16_9, f_16_10, f_16_11, f_16_12, f_16_13, t_17, f_17_0, t_18, l_18, t_19, f_19_0, f_19_1, f_19_2, f_19_3, f_19_4, f_19_5, f_19_6, t_20, l_20, t_21, l_21, t_22, l_22, t_23, l_23, t_24, l_24, t_25, l_25, t_26, l_26, t_27, f_27_0, f_27_1, f_27_2, f_27_3, f_27_4, f_27_5, f_27_6, t_28, l_28, t_29, l_29, t_30, l_30, t_31, l_31, t_32, l_32, t_33, l_33, t_34, l_34, t_35, f_35_0, f_35_1, t_36, l_36, t_37, l_37, t_38, f_38_0, f_38_1, t_39, l_39, t_40, l_40, t_41, f_41_0, t_42, l_42, t_43, f_43_0, t_44, l_44, t_45, f_45_0, f_45_1, f_45_2, f_45_3, t_46, l_46, t_47, l_47, t_48, l_48, t_49, l_49, t_50, l_50, t_51, f_51_0, f_51_1, f_51_2, f_51_3, t_52, l_52, t_53, l_53, t_54, f_54_0, f_54_1, f_54_2, f_54_3, t_55, l_55, t_56, l_56, t_57, f_57_0, f_57_1, f_57_2, f_57_3, t_58, l_58, t_59, l_59, t_60, l_60, t_61, f_61_0, f_61_1, f_61_2, f_61_3, f_61_4, f_61_5, f_61_6, t_62, l_62, t_63, f_63_0, f_63_1, t_64, l_64, t_65, l_65, t_66, f_66_0, f_66_1, t_67, l_67, t_68, l_68, t_69, l_69, t_70, f_70_0, f_70_1, t_1, l_1, t_2, l_2, m_t, m_f0, m_f1, m_f2, m_f3, m_t1, m_l1, m_t2, m_l2, rowX_s, rowX_n, rowX_f, rowX_2, up_s, up_n, Nat.zero_add, n_m1, i_dec, cat_n, cat_i, cat_r, cat_l, i_add, i_tn, i_vi, i_lt, i_eq, i_shl, n_ltT, n_ltF, n_eqT, n_eqF, n_leT, t_and, nb_0, nb_1, b2_0, b2_n, cont_v, cont_n, ex_eq, u_s, u_c, u_j, ↓reduceIte, ite_not, not_true_eq_false, not_false_eq_true, Bool.false_eq_true, Bool.true_eq_false, false_and, true_and, and_false, and_true, or_self, or_false, false_or, or_true, true_or, cont_x, n_leF, c_1, w6, h1, bI_n]
      | false =>
        rw [if_neg (fun z => by have := hok.mp z; cases this)] at h1
        refine ⟨K, hK, fun j => rfl, fun x => ?_⟩
        simp (disch := first | assumption | omega) only [in90, k90_0, k90_1, k90_4, k90_5, k90_6, k90_44, k90_45, k90_46, k90_49, k90_50, k90_51, k90_54, k90_55, k90_58, k90_59, k90_62, k90_63, k90_64, k90_65, k90_66, k90_69, k90_70, k90_71, k90_74, k90_75, k90_76, k90_77, k90_80, k90_81, k90_82, k90_83, k90_86, k90_87, k90_88, k90_91, k90_92, k90_93, k90_94, k90_97, k90_98, k90_99, k90_100, k90_103, k90_104, k90_105, k90_106, k90_109, k90_110, k90_111, k90_114, k90_115, k90_116, k90_117, k90_120, k90_121, k90_122, k90_125, k90_126, k90_127, k90_130, k90_131, k90_132, c_0, c_1, c_2, c_3, c_4, c_5, c_6, c_7, c_8, c_9, c_10, c_11, c_12, c_13, c_14, c_15, c_16, hS, t_16, f_16_0, f_16_1, f_16_2, f_16_3, f_16_4, f_16_5, f_16_6, f_16_7, f_16_8, f_16_9, f_16_10, f_16_11, f_16_12, f_16_13, t_17, f_17_0, t_18, l_18, t_19, f_19_0, f_19_1, f_19_2, f_19_3, f_19_4, f_19_5, f_19_6, t_20, l_20, t_21, l_21, t_22, l_22, t_23, l_23, t_24, l_24, t_25, l_25, t_26, l_26, t_27, f_27_0, f_27_1, f_27_2, f_27_3, f_27_4, f_27_5, f_27_6, t_28, l_28, t_29, l_29, t_30, l_30, t_31, l_31, t_32, l_32, t_33, l_33, t_34, l_34, t_35, f_35_0, f_35_1, t_36, l_36, t_37, l_37, t_38, f_38_0, f_38_1, t_39, l_39, t_40, l_40, t_41, f_41_0, t_42, l_42, t_43, f_43_0, t_44, l_44, t_45, f_45_0, f_45_1, f_45_2, f_45_3, t_46, l_46, t_47, l_47, t_48, l_48, t_49, l_49, t_50, l_50, t_51, f_51_0, f_51_1, f_51_2, f_51_3, t_52, l_52, t_53, l_53, t_54, f_54_0, f_54_1, f_54_2, f_54_3, t_55, l_55, t_56, l_56, t_57, f_57_0, f_57_1, f_57_2, f_57_3, t_58, l_58, t_59, l_59, t_60, l_60, t_61, f_61_0, f_61_1, f_61_2, f_61_3, f_61_4, f_61_5, f_61_6, t_62, l_62, t_63, f_63_0, f_63_1, t_64, l_64, t_65, l_65, t_66, f_66_0, f_66_1, t_67, l_67, t_68, l_68, t_69, l_69, t_70, f_70_0, f_70_1, t_1, l_1, t_2, l_2, m_t, m_f0, m_f1, m_f2, m_f3, m_t1, m_l1, m_t2, m_l2, rowX_s, rowX_n, rowX_f, rowX_2, up_s, up_n, Nat.zero_add, n_m1, i_dec, cat_n, cat_i, cat_r, cat_l, i_add, i_tn, i_vi, i_lt, i_eq, i_shl, n_ltT, n_ltF, n_eqT, n_eqF, n_leT, t_and, nb_0, nb_1, b2_0, b2_n, cont_v, cont_n, ex_eq, u_s, u_c, u_j, ↓reduceIte, ite_not, not_true_eq_false, not_false_eq_true, Bool.false_eq_true, Bool.true_eq_false, false_and, true_and, and_false, and_true, or_self, or_false, false_or, or_true, true_or, cont_x, n_leF, c_1, w6, h1, bI_n]
    · intro J0 J L S d hS hV0 hL0 hsv hRM hJ
      obtain ⟨y1, y2, y3, y4, y5⟩ := kmV hV0 hL0 hJ
      obtain ⟨z0, _, _, _, _⟩ := hRM
      rw [e] at z0
      have w0 := J45 hJ 0
      rw [z0] at w0
      have e43 : J 536 43 = g 43 := by rw [hJ.2]
      cases ok with
      | true =>
        have hlt := hok.mpr rfl
        have h1 := fun x => d225 (d := d + 4) (I := J) (L := L) (r := x) (w := 536) hS y1 y2 h6 h12 (Or.inl rfl)
        have em : dayM nh nd (fun h => J (85 + h) 0) (J 536) = dayM nh nd (fun h => I (85 + h) 0) g := by
          rw [hJ.2]
          exact dayM_c (fun h hh => by rw [hJ.1 _ _ (by omega) (by omega) (by omega), (hsv.1 h hh).1])
        rw [em] at h1
        refine ⟨rowX J 536 (dayM nh nd (fun h => I (85 + h) 0) g), km_row hJ, fun j => by rw [rowX_n (by omega)], fun x => ?_⟩
        simp (disch := first | assumption | omega) only [in226, k226_0, k226_1, k226_2, k226_3, k226_4, k226_5, k226_6, k226_7, k226_40, k226_41, k226_42, k226_43, k226_46, k226_47, k226_48, k226_49, k226_52, k226_55, k226_56, k226_57, k226_58, k226_59, k226_62, k226_63, k226_64, k226_65, k226_66, k226_67, k226_68, k226_69, k226_72, k226_73, k226_74, k226_75, k226_76, k226_77, k226_78, k226_79, k226_80, k226_81, k226_84, k226_85, k226_86, k226_87, k226_90, k226_91, k226_92, k226_94, k226_95, k226_98, k226_101, k226_102, k226_103, k226_104, k226_105, k226_108, k226_109, c_0, c_1, c_2, c_3, c_4, c_5, c_6, c_7, c_8, c_9, c_10, c_11, c_12, c_13, c_14, c_15, c_16, c_43, c_400, hS, t_71, f_71_9, f_71_10, f_71_11, f_71_12, f_71_13, f_71_14, f_71_15, f_71_16, f_71_17, f_71_20, f_71_21, f_71_22, f_71_23, f_71_24, f_71_25, f_71_26, f_71_28, f_71_29, f_71_30, f_71_31, f_71_32, f_71_40, f_71_41, t_72, l_72, t_73, l_73, t_74, l_74, t_75, l_75, t_76, l_76, t_77, l_77, t_84, l_84, t_91, l_91, t_104, l_104, t_117, l_117, t_278, l_278, t_439, l_439, t_446, l_446, t_453, l_453, t_454, l_454, t_455, l_455, t_536, l_536, t_537, l_537, t_538, l_538, t_539, l_539, t_556, l_556, t_560, l_560, t_561, l_561, f_77, t_78, l_78, f_84, t_85, l_85, f_91, t_92, l_92, f_104, t_105, l_105, f_117, t_118, l_118, f_278, t_279, l_279, f_439, t_440, l_440, f_446, t_447, l_447, f_455, t_456, l_456, f_539, t_540, l_540, f_556, t_557, l_557, w_t, w_l, rowX_s, rowX_n, rowX_f, rowX_2, up_s, up_n, Nat.zero_add, n_m1, i_dec, cat_n, cat_i, cat_r, cat_l, i_add, i_tn, i_vi, i_lt, i_eq, i_shl, n_ltT, n_ltF, n_eqT, n_eqF, n_leT, t_and, nb_0, nb_1, b2_0, b2_n, cont_v, cont_n, ex_eq, u_s, u_c, u_j, ↓reduceIte, ite_not, not_true_eq_false, not_false_eq_true, Bool.false_eq_true, Bool.true_eq_false, false_and, true_and, and_false, and_true, or_self, or_false, false_or, or_true, true_or, cont_x, n_leF, c_1, w0, e43, hlt, h1, bI]
      | false =>
        have hlt : ¬ g 43 < i32 400 := fun z => by have := hok.mp z; cases this
        refine ⟨J, hJ, fun j => rfl, fun x => ?_⟩
        simp (disch := first | assumption | omega) only [in226, k226_0, k226_1, k226_2, k226_3, k226_4, k226_5, k226_6, k226_7, k226_40, k226_41, k226_42, k226_43, k226_46, k226_47, k226_48, k226_49, k226_52, k226_55, k226_56, k226_57, k226_58, k226_59, k226_62, k226_63, k226_64, k226_65, k226_66, k226_67, k226_68, k226_69, k226_72, k226_73, k226_74, k226_75, k226_76, k226_77, k226_78, k226_79, k226_80, k226_81, k226_84, k226_85, k226_86, k226_87, k226_90, k226_91, k226_92, k226_94, k226_95, k226_98, k226_101, k226_102, k226_103, k226_104, k226_105, k226_108, k226_109, c_0, c_1, c_2, c_3, c_4, c_5, c_6, c_7, c_8, c_9, c_10, c_11, c_12, c_13, c_14, c_15, c_16, c_43, c_400, hS, t_71, f_71_9, f_71_10, f_71_11, f_71_12, f_71_13, f_71_14, f_71_15, f_71_16, f_71_17, f_71_20, f_71_21, f_71_22, f_71_23, f_71_24, f_71_25, f_71_26, f_71_28, f_71_29, f_71_30, f_71_31, f_71_32, f_71_40, f_71_41, t_72, l_72, t_73, l_73, t_74, l_74, t_75, l_75, t_76, l_76, t_77, l_77, t_84, l_84, t_91, l_91, t_104, l_104, t_117, l_117, t_278, l_278, t_439, l_439, t_446, l_446, t_453, l_453, t_454, l_454, t_455, l_455, t_536, l_536, t_537, l_537, t_538, l_538, t_539, l_539, t_556, l_556, t_560, l_560, t_561, l_561, f_77, t_78, l_78, f_84, t_85, l_85, f_91, t_92, l_92, f_104, t_105, l_105, f_117, t_118, l_118, f_278, t_279, l_279, f_439, t_440, l_440, f_446, t_447, l_447, f_455, t_456, l_456, f_539, t_540, l_540, f_556, t_557, l_557, w_t, w_l, rowX_s, rowX_n, rowX_f, rowX_2, up_s, up_n, Nat.zero_add, n_m1, i_dec, cat_n, cat_i, cat_r, cat_l, i_add, i_tn, i_vi, i_lt, i_eq, i_shl, n_ltT, n_ltF, n_eqT, n_eqF, n_leT, t_and, nb_0, nb_1, b2_0, b2_n, cont_v, cont_n, ex_eq, u_s, u_c, u_j, ↓reduceIte, ite_not, not_true_eq_false, not_false_eq_true, Bool.false_eq_true, Bool.true_eq_false, false_and, true_and, and_false, and_true, or_self, or_false, false_or, or_true, true_or, cont_x, n_leF, c_1, w0, e43, hlt, bI]
end St
