/-! YEARS BY A SEED: both sides -/
/-- flour by the valley and the law, off a row of the reference's -/
def FM (I : VI) (nd : Nat) (lw : (Nat → Int32) → Int32) (db cr : Nat → Nat) (g : Nat → Int32) (k : Nat) : Int32 := flF nd lw db cr (fun k => I (105 + k) 2) (fun h => I (85 + h) 1) (fun h => I (85 + h) 0) g (fun d => g (12 + d)) (fun h => g (30 + h)) k
theorem fl_cong {nd k : Nat} {lw : (Nat → Int32) → Int32} {db cr : Nat → Nat} {kin pri mou kin' pri' mou' w age hun : Nat → Int32} (h : k < nd → kin k = kin' k ∧ pri (db k) = pri' (db k) ∧ mou (db k) = mou' (db k)) : flF nd lw db cr kin pri mou w age hun k = flF nd lw db cr kin' pri' mou' w age hun k := by
  unfold flF
  by_cases ht : thr nd w k = true
  · obtain ⟨h1, h2, h3⟩ := h (thr_lt ht)
    rw [if_pos ht, if_pos ht, h1, h2, h3]
  · rw [if_neg ht, if_neg ht]
section Year
variable {I : VI} {nh nd nL nw ni nf sz : Nat} {db cr bh bv : Nat → Nat} {q : Nat → Nat × Nat} {lw : (Nat → Int32) → Int32}
def YC (I K : VI) (f : Nat → Int32) (s fl : Int32) : Prop := (∀ c j, (c ≠ 55 ∧ ¬ (c = 70 ∧ (j = 2 ∨ j = 3)) ∧ c ≠ 37 ∧ c ≠ 53 ∧ c ≠ 56 ∧ c ≠ 453 ∧ c ≠ 454) → K c j = I c j) ∧ K 55 = f ∧ K 70 2 = s ∧ K 70 3 = fl
def YM (I K : VI) (g : Nat → Int32) (s : Int32) : Prop := (∀ c j, (c ≠ 537 ∧ ¬ (c = 71 ∧ j = 42) ∧ c ≠ 37 ∧ c ≠ 53 ∧ c ≠ 56 ∧ c ≠ 453 ∧ c ≠ 454) → K c j = I c j) ∧ K 537 = g ∧ K 71 42 = s
theorem yc_ag {K : VI} {f : Nat → Int32} {s fl : Int32} (h : YC I K f s fl) : ag I K := fun c j hs => h.1 c j (by unfold scr at hs; omega)
theorem ym_ag {K : VI} {g : Nat → Int32} {s : Int32} (h : YM I K g s) : ag I K := fun c j hs => h.1 c j (by unfold scr at hs; omega)
theorem FM_in (hlw : ∀ t, lawQ q sz t = lw t) {g : Nat → Int32} {k : Nat} : inN (FM I nd lw db cr g k) 99 := by
  have : lawQ q sz = lw := funext hlw
  unfold FM
  rw [← this]; exact fl_in
theorem yc_gr {d n D k : Nat} {K : VI} {L : VL} {S : SW} {f g : Nat → Int32} {s fl : Int32} (hS : S.1 = W0 n) (hI : InvP I nh nd db cr q sz lw nL bh bv nw ni nf) (hY : YC I K f s fl) (hR : Rw nh nd D f g) (hk : k < nd) : ∃ K' f', YC I K' f' s fl ∧ Rw nh nd D f' (grS nd (FM I nd lw db cr) db g k) ∧ ∃ v, cam nh (grS nd (FM I nd lw db cr) db g k) = cam nh g + mxI (i32 0) v ∧ inN (mxI (i32 0) v) 99 ∧ ∀ r, EvD (d + 5) 34 [.ref 54, .int (i32 k)] K L S r ↔ r = (.inl (some (.int v)), K', L, S) := by
  obtain ⟨⟨⟨kh, kd, _, _⟩, ⟨h6, h12⟩, _, kde⟩, ⟨kq, _, hlw⟩, _⟩ := id (invP_ag (yc_ag hY) hI)
  obtain ⟨⟨_, _, hho, hde⟩, _⟩ := id hI
  obtain ⟨y1, y2, y3, y4⟩ := hY
  have kT : K 55 2 = i32 (bitsN nd (thr nd (fun d => K 55 (21 + d)))) := by rw [y2]; exact hR.1.2.2
  have hfl : FM I nd lw db cr g k = flF nd (lawQ q sz) db cr (K 25) (K 21) (K 20) (fun d => K 55 (21 + d)) (fun d => K 55 (33 + d)) (fun h => K 55 (9 + h)) k := by
    rw [y2, show K 25 = I 25 from funext fun j => y1 _ _ (by omega), show K 21 = I 21 from funext fun j => y1 _ _ (by omega), show K 20 = I 20 from funext fun j => y1 _ _ (by omega)]
    exact (fl_eq (J := I) hR (fun k hk => ⟨(hde k hk).1.2, (hde k hk).2.1.2, (hde k hk).2.2.2.2⟩) (fun h hh => ⟨(hho h hh).1, (hho h hh).2.1⟩) hlw).symm
  obtain ⟨X, h1⟩ := a34 (d := d) (I := K) (X := K) (L := L) hS kh kd h6 h12 kT (db := db) (cr := cr) (fun k hk => (kde k hk).1) (fun k hk => (kde k hk).2.1) kq hk hfl
  rw [ov_self] at h1
  have hin := FM_in (I := I) (nd := nd) (db := db) (cr := cr) hlw (g := g) (k := k)
  have ec : (thr nd (fun d => K 55 (21 + d)) k = true ∧ ¬ K 55 1 < i32 1 + K 55 (21 + k) / i32 5) = (thr nd g k = true ∧ ¬ g 42 < i32 1 + g k / i32 5) := by rw [y2, rw_thr hR, hR.1.2.1, (hR.2.2.1 k hk).1]
  have hdk := (hde k hk).1.2
  by_cases hc : thr nd g k = true ∧ ¬ g 42 < i32 1 + g k / i32 5
  · rw [if_pos (ec ▸ hc), if_pos (ec ▸ hc)] at h1
    have eg : grS nd (FM I nd lw db cr) db g k = grM g k (db k) (FM I nd lw db cr g k) := by unfold grS; rw [if_pos hc]
    have emx : mxI (i32 0) (FM I nd lw db cr g k) = FM I nd lw db cr g k := by
      obtain ⟨m, hm, e⟩ := hin
      rw [e]; unfold mxI
      by_cases z : m = 0
      · subst z; split <;> rfl
      · rw [if_neg (fun w => by rw [i_lt (by omega) (by omega)] at w; omega)]
    refine ⟨_, grC f k (db k) (FM I nd lw db cr g k), ⟨fun c j hcj => ?_, ?_, ?_, ?_⟩, ?_, FM I nd lw db cr g k, ?_, ?_, h1⟩
    · rw [ov_n (by omega), rowX_n (by omega)]; exact y1 c j hcj
    · rw [ov_row (by omega), rowX_f, y2]
    · rw [ov_n (by omega), rowX_n (by omega)]; exact y3
    · rw [ov_n (by omega), rowX_n (by omega)]; exact y4
    · rw [eg]; exact rw_gr hR h6 h12 hk hdk hin hc.2
    · rw [eg, emx]; exact cam_gr h6 hdk (by omega)
    · rw [emx]; exact hin
  · rw [if_neg (fun z => hc (ec ▸ z)), if_neg (fun z => hc (ec ▸ z))] at h1
    have eg : grS nd (FM I nd lw db cr) db g k = g := by unfold grS; rw [if_neg hc]
    have emx : mxI (i32 0) m1 = i32 0 := by decide
    refine ⟨_, f, ⟨fun c j hcj => ?_, ?_, ?_, ?_⟩, ?_, m1, ?_, ?_, h1⟩
    · rw [ov_n (by omega)]; exact y1 c j hcj
    · rw [ov_row (by omega)]; exact y2
    · rw [ov_n (by omega)]; exact y3
    · rw [ov_n (by omega)]; exact y4
    · rw [eg]; exact hR
    · rw [eg, emx, add_i0]
    · rw [emx]; exact ⟨0, by omega, rfl⟩
theorem yc_u2 {K : VI} {f : Nat → Int32} {s fl x : Int32} (h : YC I K f s fl) : YC I (u2 K 70 2 x) f x fl := by
  obtain ⟨y1, y2, y3, y4⟩ := h
  refine ⟨fun c j hc => ?_, ?_, u_s, by rw [u_j (by omega)]; exact y4⟩
  · by_cases e : c = 70
    · subst e; rw [u_j (by omega)]; exact y1 _ _ hc
    · rw [u_c e]; exact y1 _ _ hc
  · rw [u_row (by omega)]; exact y2
theorem yc_u3 {K : VI} {f : Nat → Int32} {s fl x : Int32} (h : YC I K f s fl) : YC I (u2 K 70 3 x) f s x := by
  obtain ⟨y1, y2, y3, y4⟩ := h
  refine ⟨fun c j hc => ?_, ?_, by rw [u_j (by omega)]; exact y3, u_s⟩
  · by_cases e : c = 70
    · subst e; rw [u_j (by omega)]; exact y1 _ _ hc
    · rw [u_c e]; exact y1 _ _ hc
  · rw [u_row (by omega)]; exact y2
theorem yc_row {K : VI} {f f' : Nat → Int32} {s fl : Int32} (h : YC I K f s fl) : YC I (rowX K 55 f') f' s fl := by
  obtain ⟨y1, y2, y3, y4⟩ := h
  exact ⟨fun c j hc => by rw [rowX_n (by omega)]; exact y1 _ _ hc, rowX_f, by rw [rowX_n (by omega)]; exact y3, by rw [rowX_n (by omega)]; exact y4⟩
theorem yc_ra {d n D : Nat} {K : VI} {L : VL} {S : SW} {f g : Nat → Int32} {s fl : Int32} (hS : S.1 = W0 n) (hI : InvP I nh nd db cr q sz lw nL bh bv nw ni nf) (hY : YC I K f s fl) (hR : Rw nh nd D f g) : ∃ K' f' v, YC I K' f' s fl ∧ Rw nh nd D f' (raS g) ∧ ∀ r, EvD (d + 2) 39 [.ref 54, .int (i32 5)] K L S r ↔ r = (.inl (some (.int v)), K', L, S) := by
  obtain ⟨⟨⟨kh, kd, _, _⟩, ⟨h6, h12⟩, _, _⟩, _⟩ := id (invP_ag (yc_ag hY) hI)
  have h1 := fun r => a39 (d := d) (I := K) (L := L) (r := r) (x := i32 5) hS kh kd h6 h12
  have y2 := hY.2.1
  have ec : (K 55 1 < i32 99) = ¬ g 42 = i32 99 := by rw [y2]; exact ra_c hR
  by_cases hc : g 42 = i32 99
  · have hn : ¬ K 55 1 < i32 99 := fun z => by rw [ec] at z; exact z hc
    refine ⟨K, f, b2 (K 55 1 < i32 99), hY, ?_, fun r => ?_⟩
    · unfold raS; rw [if_neg (fun z => z hc)]; exact hR
    · rw [h1, if_neg hn]
  · have hn : K 55 1 < i32 99 := by rw [ec]; exact hc
    refine ⟨rowX K 55 (updF (K 55) 1 (mnI (i32 99) (K 55 1 + i32 5))), updF f 1 (mnI (i32 99) (f 1 + i32 5)), b2 (K 55 1 < i32 99), ?_, ?_, fun r => ?_⟩
    · rw [y2]; exact yc_row hY
    · unfold raS; rw [if_pos hc]; exact rw_ra hR h6 h12 (by omega)
    · rw [h1, if_pos hn]
theorem yc_sw {d n D k : Nat} {K : VI} {L : VL} {S : SW} {f g : Nat → Int32} {s fl : Int32} (hS : S.1 = W0 n) (hI : InvP I nh nd db cr q sz lw nL bh bv nw ni nf) (hY : YC I K f s fl) (hR : Rw nh nd D f g) (hk : k < nd) : ∃ K' f' v, YC I K' f' s fl ∧ Rw nh nd D f' (swS nd g k) ∧ ∀ r, EvD (d + 2) 37 [.ref 54, .int (i32 k), .int (i32 3)] K L S r ↔ r = (.inl (some (.int v)), K', L, S) := by
  obtain ⟨⟨⟨kh, kd, _, _⟩, ⟨h6, h12⟩, _, _⟩, _⟩ := id (invP_ag (yc_ag hY) hI)
  have y2 := hY.2.1
  have kT : K 55 2 = i32 (bitsN nd (thr nd (fun d => K 55 (21 + d)))) := by rw [y2]; exact hR.1.2.2
  have h1 := fun r => a37 (d := d) (I := K) (L := L) (r := r) (x := i32 3) hS kh kd h6 h12 kT hk
  have ec : (thr nd (fun d => K 55 (21 + d)) k = true ∧ K 55 (21 + k) < i32 60) = (thr nd g k = true ∧ ¬ g k = i32 60) := by rw [y2, rw_thr hR, sw_c hR hk]
  by_cases hc : thr nd g k = true ∧ ¬ g k = i32 60
  · refine ⟨rowX K 55 (updF (K 55) (21 + k) (mnI (i32 60) (K 55 (21 + k) + i32 3))), updF f (21 + k) (mnI (i32 60) (f (21 + k) + i32 3)), b2 (thr nd (fun d => K 55 (21 + d)) k = true ∧ K 55 (21 + k) < i32 60), ?_, ?_, fun r => ?_⟩
    · rw [y2]; exact yc_row hY
    · unfold swS; rw [if_pos hc]; exact rw_sw hR h6 h12 hk hc.1 (by omega) (by omega)
    · rw [h1, if_pos (ec ▸ hc)]
  · refine ⟨K, f, b2 (thr nd (fun d => K 55 (21 + d)) k = true ∧ K 55 (21 + k) < i32 60), hY, ?_, fun r => ?_⟩
    · unfold swS; rw [if_neg hc]; exact hR
    · rw [h1, if_neg (fun z => hc (ec ▸ z))]
/-- a night of the component's -/
theorem yc_ni {d n D qq B : Nat} {K : VI} {L : VL} {S : SW} {f g : Nat → Int32} {s fl : Int32} (hS : S.1 = W0 n) (hI : InvP I nh nd db cr q sz lw nL bh bv nw ni nf) (hY : YC I K f s fl) (hR : Rw nh nd D f g) (h0 : 0 < nd) (hq : qq ≤ 16) (hB : inN fl B) : ∃ K' f' fl', YC I K' f' (lcg (lcg (lcg s))) fl' ∧ Rw nh nd D f' (niM nd (FM I nd lw db cr) db qq g s) ∧ inN fl' (B + 99) ∧ (∀ c0, cam nh g = c0 + fl → cam nh (niM nd (FM I nd lw db cr) db qq g s) = c0 + fl') ∧ ∀ r, EvD (d + 6) 65 [.ref 70, .int (i32 qq)] K L S r ↔ r = (.inl none, K', L, S) := by
  obtain ⟨⟨⟨_, hd, _, _⟩, ⟨h6, h12⟩, _, _⟩, _⟩ := id hI
  have l1 := Nat.mod_lt (drN (lcg s)) h0
  have l3 := Nat.mod_lt (drN (lcg (lcg (lcg s)))) h0
  have l2 := Nat.mod_lt (drN (lcg (lcg s))) (by omega : 0 < 16)
  have Y1 := yc_u2 (x := lcg s) hY
  obtain ⟨K1, f1, Z1, R1, v, hv1, hv2, e34⟩ := yc_gr (d := d) (L := L) hS hI Y1 hR l1
  have Z2 := yc_u3 (x := fl + mxI (i32 0) v) Z1
  have Z3 := yc_u2 (x := lcg (lcg s)) Z2
  have hfl' : inN (fl + mxI (i32 0) v) (B + 99) := by
    obtain ⟨a, ha, ea⟩ := hB
    obtain ⟨b, hb, eb⟩ := hv2
    exact ⟨a + b, by omega, by rw [ea, eb, i_add]⟩
  have hcam : ∀ c0, cam nh g = c0 + fl → cam nh (niM nd (FM I nd lw db cr) db qq g s) = c0 + (fl + mxI (i32 0) v) := fun c0 hc0 => by
    have e1 : cam nh (niM nd (FM I nd lw db cr) db qq g s) = cam nh (grS nd (FM I nd lw db cr) db g (drN (lcg s) % nd)) := cam_n fun i hi => by
      unfold niM
      rw [sw_t (by omega) (by omega)]
      split
      · exact ra_t (by omega)
      · rfl
    rw [e1, hv1, hc0, Int32.add_assoc]
  have k198 : K 19 8 = i32 nd := by rw [hY.1 _ _ (by omega)]; exact hd
  have k702 : K 70 2 = s := hY.2.2.1
  have k703 : K 70 3 = fl := hY.2.2.2
  have z702 : K1 70 2 = lcg s := Z1.2.2.1
  have c66a : ∀ r, EvD (d + 5) 66 [.ref 70, .int (i32 nd)] K L S r ↔ r = (.inl (some (.int (i32 (drN (lcg s) % nd)))), u2 K 70 2 (lcg s), L, S) := fun r => by
    have := c66 (d := d + 4) (I := K) (L := L) (r := r) hS h0 (by omega : nd < 100)
    rw [k702] at this; exact this
  have c66b : ∀ r, EvD (d + 5) 66 [.ref 70, .int (i32 16)] (u2 K1 70 3 (fl + mxI (i32 0) v)) L S r ↔ r = (.inl (some (.int (i32 (drN (lcg (lcg s)) % 16)))), u2 (u2 K1 70 3 (fl + mxI (i32 0) v)) 70 2 (lcg (lcg s)), L, S) := fun r => by
    have := c66 (d := d + 4) (I := u2 K1 70 3 (fl + mxI (i32 0) v)) (L := L) (r := r) hS (by omega : 0 < 16) (by omega)
    rw [Z2.2.2.1] at this; exact this
  by_cases hr : drN (lcg (lcg s)) % 16 < qq
  · obtain ⟨K2, f2, v2, Z4, R2, e39⟩ := yc_ra (d := d + 3) (L := L) hS hI Z3 R1
    have Z5 := yc_u2 (x := lcg (lcg (lcg s))) Z4
    obtain ⟨K3, f3, v3, Z6, R3, e37⟩ := yc_sw (d := d + 3) (L := L) hS hI Z5 R2 l3
    refine ⟨K3, f3, _, Z6, ?_, hfl', hcam, fun r => ?_⟩
    · unfold niM; rw [if_pos hr]; exact R3
    · have w198 : K2 19 8 = i32 nd := by rw [Z4.1 _ _ (by omega)]; exact hd
      have c66c : ∀ r, EvD (d + 5) 66 [.ref 70, .int (i32 nd)] K2 L S r ↔ r = (.inl (some (.int (i32 (drN (lcg (lcg (lcg s))) % nd)))), u2 K2 70 2 (lcg (lcg (lcg s))), L, S) := fun r => by
        have := c66 (d := d + 4) (I := K2) (L := L) (r := r) hS h0 (by omega : nd < 100)
        rw [Z4.2.2.1] at this; exact this
      simp (disch := first | assumption | omega) only [in65, k65_0, k65_1, k65_1r, k65_2, k65_5, k65_6, k65_7, k65_10, k65_11, k65_12, k65_15, k65_18, k65_21, k65_24, k65_27, k65_28, k65_31, k65_32, k65_34, k65_37, k65_38, k65_41, k65_42, k65_45, k65_46, k65_49, k65_50, k65_51, k65_54, k65_55, k65_56, k65_59, k65_62, k65_65, k65_66, k65_69, k65_70, c_0, c_3, c_5, c_16, hS, t_16, f_16_0, f_16_1, f_16_2, f_16_3, f_16_4, f_16_5, f_16_6, f_16_7, f_16_8, f_16_9, f_16_10, f_16_11, f_16_12, f_16_13, t_17, f_17_0, t_18, l_18, t_19, f_19_0, f_19_1, f_19_2, f_19_3, f_19_4, f_19_5, f_19_6, t_20, l_20, t_21, l_21, t_22, l_22, t_23, l_23, t_24, l_24, t_25, l_25, t_26, l_26, t_27, f_27_0, f_27_1, f_27_2, f_27_3, f_27_4, f_27_5, f_27_6, t_28, l_28, t_29, l_29, t_30, l_30, t_31, l_31, t_32, l_32, t_33, l_33, t_34, l_34, t_35, f_35_0, f_35_1, t_36, l_36, t_37, l_37, t_38, f_38_0, f_38_1, t_39, l_39, t_40, l_40, t_41, f_41_0, t_42, l_42, t_43, f_43_0, t_44, l_44, t_45, f_45_0, f_45_1, f_45_2, f_45_3, t_46, l_46, t_47, l_47, t_48, l_48, t_49, l_49, t_50, l_50, t_51, f_51_0, f_51_1, f_51_2, f_51_3, t_52, l_52, t_53, l_53, t_54, f_54_0, f_54_1, f_54_2, f_54_3, t_55, l_55, t_56, l_56, t_57, f_57_0, f_57_1, f_57_2, f_57_3, t_58, l_58, t_59, l_59, t_60, l_60, t_61, f_61_0, f_61_1, f_61_2, f_61_3, f_61_4, f_61_5, f_61_6, t_62, l_62, t_63, f_63_0, f_63_1, t_64, l_64, t_65, l_65, t_66, f_66_0, f_66_1, t_67, l_67, t_68, l_68, t_69, l_69, t_70, f_70_0, f_70_1, t_1, l_1, t_2, l_2, m_t, m_f0, m_f1, m_f2, m_f3, m_t1, m_l1, m_t2, m_l2, rowX_s, rowX_n, rowX_f, rowX_2, up_s, up_n, Nat.zero_add, n_m1, i_dec, cat_n, cat_i, cat_r, cat_l, i_add, i_tn, i_vi, i_lt, i_eq, i_shl, n_ltT, n_ltF, n_eqT, n_eqF, n_leT, t_and, nb_0, nb_1, b2_0, b2_n, cont_v, cont_n, ex_eq, u_s, u_c, u_j, ↓reduceIte, ite_not, not_true_eq_false, not_false_eq_true, Bool.false_eq_true, Bool.true_eq_false, false_and, true_and, and_false, and_true, or_self, or_false, false_or, or_true, true_or, cont_x, n_leF, c_1, k198, k703, c66a, e34, c287 hS, c66b, hr, e39, w198, c66c, e37]
  · have Z5 := yc_u2 (x := lcg (lcg (lcg s))) Z3
    obtain ⟨K3, f3, v3, Z6, R3, e37⟩ := yc_sw (d := d + 3) (L := L) hS hI Z5 R1 l3
    refine ⟨K3, f3, _, Z6, ?_, hfl', hcam, fun r => ?_⟩
    · unfold niM; rw [if_neg hr]; exact R3
    · have w198 : u2 (u2 K1 70 3 (fl + mxI (i32 0) v)) 70 2 (lcg (lcg s)) 19 8 = i32 nd := by rw [Z3.1 _ _ (by omega)]; exact hd
      have c66c : ∀ r, EvD (d + 5) 66 [.ref 70, .int (i32 nd)] (u2 (u2 K1 70 3 (fl + mxI (i32 0) v)) 70 2 (lcg (lcg s))) L S r ↔ r = (.inl (some (.int (i32 (drN (lcg (lcg (lcg s))) % nd)))), u2 (u2 (u2 K1 70 3 (fl + mxI (i32 0) v)) 70 2 (lcg (lcg s))) 70 2 (lcg (lcg (lcg s))), L, S) := fun r => by
        have := c66 (d := d + 4) (I := u2 (u2 K1 70 3 (fl + mxI (i32 0) v)) 70 2 (lcg (lcg s))) (L := L) (r := r) hS h0 (by omega : nd < 100)
        rw [Z3.2.2.1] at this; exact this
      generalize u2 (u2 K1 70 3 (fl + mxI (i32 0) v)) 70 2 (lcg (lcg s)) = K2 at *
      simp (disch := first | assumption | omega) only [in65, k65_0, k65_1, k65_1r, k65_2, k65_5, k65_6, k65_7, k65_10, k65_11, k65_12, k65_15, k65_18, k65_21, k65_24, k65_27, k65_28, k65_31, k65_32, k65_34, k65_37, k65_38, k65_41, k65_42, k65_45, k65_46, k65_49, k65_50, k65_51, k65_54, k65_55, k65_56, k65_59, k65_62, k65_65, k65_66, k65_69, k65_70, c_0, c_3, c_5, c_16, hS, t_16, f_16_0, f_16_1, f_16_2, f_16_3, f_16_4, f_16_5, f_16_6, f_16_7, f_16_8, f_16_9, f_16_10, f_16_11, f_16_12, f_16_13, t_17, f_17_0, t_18, l_18, t_19, f_19_0, f_19_1, f_19_2, f_19_3, f_19_4, f_19_5, f_19_6, t_20, l_20, t_21, l_21, t_22, l_22, t_23, l_23, t_24, l_24, t_25, l_25, t_26, l_26, t_27, f_27_0, f_27_1, f_27_2, f_27_3, f_27_4, f_27_5, f_27_6, t_28, l_28, t_29, l_29, t_30, l_30, t_31, l_31, t_32, l_32, t_33, l_33, t_34, l_34, t_35, f_35_0, f_35_1, t_36, l_36, t_37, l_37, t_38, f_38_0, f_38_1, t_39, l_39, t_40, l_40, t_41, f_41_0, t_42, l_42, t_43, f_43_0, t_44, l_44, t_45, f_45_0, f_45_1, f_45_2, f_45_3, t_46, l_46, t_47, l_47, t_48, l_48, t_49, l_49, t_50, l_50, t_51, f_51_0, f_51_1, f_51_2, f_51_3, t_52, l_52, t_53, l_53, t_54, f_54_0, f_54_1, f_54_2, f_54_3, t_55, l_55, t_56, l_56, t_57, f_57_0, f_57_1, f_57_2, f_57_3, t_58, l_58, t_59, l_59, t_60, l_60, t_61, f_61_0, f_61_1, f_61_2, f_61_3, f_61_4, f_61_5, f_61_6, t_62, l_62, t_63, f_63_0, f_63_1, t_64, l_64, t_65, l_65, t_66, f_66_0, f_66_1, t_67, l_67, t_68, l_68, t_69, l_69, t_70, f_70_0, f_70_1, t_1, l_1, t_2, l_2, m_t, m_f0, m_f1, m_f2, m_f3, m_t1, m_l1, m_t2, m_l2, rowX_s, rowX_n, rowX_f, rowX_2, up_s, up_n, Nat.zero_add, n_m1, i_dec, cat_n, cat_i, cat_r, cat_l, i_add, i_tn, i_vi, i_lt, i_eq, i_shl, n_ltT, n_ltF, n_eqT, n_eqF, n_leT, t_and, nb_0, nb_1, b2_0, b2_n, cont_v, cont_n, ex_eq, u_s, u_c, u_j, ↓reduceIte, ite_not, not_true_eq_false, not_false_eq_true, Bool.false_eq_true, Bool.true_eq_false, false_and, true_and, and_false, and_true, or_self, or_false, false_or, or_true, true_or, cont_x, n_leF, c_1, k198, k703, c66a, e34, c287 hS, c66b, hr, w198, c66c, e37]
end Year
