/-! WORK: its text, purely -/
abbrev WS : Type := Nat × (Nat → Nat → Nat)
abbrev WR : Type := (WS × Nat) ⊕ (Nat × Nat)
def nQ (tb : Nat → Nat) (m : Nat) (lo hi : Int32) (p : Nat) (k : Nat → Nat → WR) : WR := if numF tb m lo hi p = 0 then k (numV tb m p) (sk tb m (dgE tb m p)) else .inr (numF tb m lo hi p, p)
theorem nQ_0 {tb : Nat → Nat} {m p : Nat} {lo hi : Int32} {k : Nat → Nat → WR} (h : numF tb m lo hi p = 0) : nQ tb m lo hi p k = k (numV tb m p) (sk tb m (dgE tb m p)) := if_pos h
theorem nQ_f {tb : Nat → Nat} {m p : Nat} {lo hi : Int32} {k : Nat → Nat → WR} (h : ¬ numF tb m lo hi p = 0) : nQ tb m lo hi p k = .inr (numF tb m lo hi p, p) := if_neg h
def seW (tb : Nat → Nat) (m ch : Nat) (x : WR) (k : WS → Nat → WR) : WR := match x with
  | .inr e => .inr e
  | .inl (s, p) => if p < m ∧ tb p = ch then k s (sk tb m (p + 1)) else .inr (1, p)
def lsA (tb : Nat → Nat) (m : Nat) (ov : Nat → Bool) (U : WS → Nat → WR) : Nat → WS → Nat → WR
  | 0, s, p => .inl (s, p)
  | j + 1, s, p => if ov p = true then .inl (s, p) else (match seW tb m 59 (U s p) (fun s p => .inl (s, p)) with
    | .inr e => .inr e
    | .inl (s', p') => lsA tb m ov U j s' p')
def ovN (tb : Nat → Nat) (m p : Nat) : Bool := decide (p < m ∧ tb p = 93)
def ovT (m p : Nat) : Bool := decide (¬ p < m)
def stB (tb : Nat → Nat) (m nh nd : Nat) (ag : WS → Nat → Nat → WR) (s : WS) (p : Nat) : WR :=
  if stp (lwd tb m p) = 7 then .inr (1, p)
  else if stp (lwd tb m p) = 6 then ag s (sk tb m (ltE tb m p)) p
  else if stp (lwd tb m p) = 5 then .inl ((s.1 + 1, upA (upA s.2 0 s.1 5) 4 s.1 (s.1 + 1)), sk tb m (ltE tb m p))
  else if stp (lwd tb m p) = 4 then nQ tb m (i32 1) (i32 40) (sk tb m (ltE tb m p)) fun a p2 => .inl ((s.1 + 1, upA (upA (upA s.2 0 s.1 4) 1 s.1 a) 4 s.1 (s.1 + 1)), p2)
  else if stp (lwd tb m p) = 3 then nQ tb m (i32 0) (i32 nh - i32 1) (sk tb m (ltE tb m p)) fun a p2 => nQ tb m (i32 0) (i32 nh - i32 1) p2 fun b p3 => nQ tb m (i32 1) (i32 99) p3 fun c p4 => .inl ((s.1 + 1, upA (upA (upA (upA (upA s.2 0 s.1 3) 1 s.1 a) 2 s.1 b) 3 s.1 c) 4 s.1 (s.1 + 1)), p4)
  else if stp (lwd tb m p) = 2 then nQ tb m (i32 0) (i32 nd - i32 1) (sk tb m (ltE tb m p)) fun a p2 => nQ tb m (i32 1) (i32 30) p2 fun b p3 => .inl ((s.1 + 1, upA (upA (upA (upA s.2 0 s.1 2) 1 s.1 a) 2 s.1 b) 4 s.1 (s.1 + 1)), p3)
  else nQ tb m (i32 0) (i32 nd - i32 1) (sk tb m (ltE tb m p)) fun a p2 => .inl ((s.1 + 1, upA (upA (upA s.2 0 s.1 (stp (lwd tb m p))) 1 s.1 a) 4 s.1 (s.1 + 1)), p2)
def agA (tb : Nat → Nat) (m : Nat) (U : WS → Nat → WR) (s : WS) (p1 : Nat) : WR := nQ tb m (i32 0) (i32 60) p1 fun a p2 => seW tb m 91 (.inl ((s.1 + 1, upA (upA s.2 0 s.1 6) 1 s.1 a), p2)) fun s1 p3 => seW tb m 93 (lsA tb m (ovN tb m) U 39 s1 p3) fun s2 p4 => .inl ((s2.1, upA s2.2 4 s.1 s2.1), p4)
def stA (tb : Nat → Nat) (m nh nd : Nat) : Nat → WS → Nat → WR
  | 0 => stB tb m nh nd (fun _ _ p => .inr (3, p))
  | g + 1 => stB tb m nh nd (fun s p1 _ => agA tb m (stA tb m nh nd g) s p1)
/-- a row that can be worked -/
def rwK (F : Nat → Nat → Nat) (nh nd r : Nat) : Prop := F 0 r ≤ 6 ∧ (F 0 r < 3 → F 1 r < nd) ∧ (F 0 r = 2 → 1 ≤ F 2 r ∧ F 2 r ≤ 30) ∧ (F 0 r = 3 → F 1 r < nh ∧ F 2 r < nh ∧ 1 ≤ F 3 r ∧ F 3 r ≤ 99) ∧ (F 0 r = 4 → 1 ≤ F 1 r ∧ F 1 r ≤ 40) ∧ (F 0 r = 6 → F 1 r ≤ 60)
def SQ (nh nd : Nat) : Nat → Nat → (Nat → Nat → Nat) → Nat → Nat → Prop
  | 0, _, _, lo, hi => lo = hi
  | n + 1, g, F, lo, hi => lo = hi ∨ (lo < hi ∧ rwK F nh nd lo ∧ (F 0 lo ≠ 6 → F 4 lo = lo + 1) ∧ (F 0 lo = 6 → 1 ≤ g ∧ lo + 1 ≤ F 4 lo ∧ SQ nh nd n (g - 1) F (lo + 1) (F 4 lo)) ∧ F 4 lo ≤ hi ∧ SQ nh nd n g F (F 4 lo) hi)
theorem SQ_le {nh nd : Nat} {F : Nat → Nat → Nat} : ∀ n g lo hi, SQ nh nd n g F lo hi → lo ≤ hi := by
  intro n g lo hi h
  match n, h with
  | 0, h => exact Nat.le_of_eq h
  | n + 1, h => rw [SQ] at h; rcases h with h | h <;> omega
theorem SQ_m {nh nd : Nat} {F : Nat → Nat → Nat} : ∀ n n' g lo hi, n ≤ n' → SQ nh nd n g F lo hi → SQ nh nd n' g F lo hi := by
  intro n
  induction n with
  | zero =>
    intro n' g lo hi _ h
    match n' with
    | 0 => exact h
    | n' + 1 => rw [SQ]; exact Or.inl h
  | succ n ih =>
    intro n' g lo hi hn h
    match n', hn with
    | n' + 1, hn =>
      rw [SQ] at h ⊢
      rcases h with h | ⟨h1, h2, h3, h4, h5, h6⟩
      · exact Or.inl h
      · exact Or.inr ⟨h1, h2, h3, fun z => ⟨(h4 z).1, (h4 z).2.1, ih _ _ _ _ (by omega) (h4 z).2.2⟩, h5, ih _ _ _ _ (by omega) h6⟩
theorem rwK_c {F F' : Nat → Nat → Nat} {nh nd r : Nat} (e : ∀ i, F' i r = F i r) (h : rwK F nh nd r) : rwK F' nh nd r := by
  unfold rwK at *
  simp only [e]; exact h
theorem SQ_c {nh nd : Nat} {F F' : Nat → Nat → Nat} : ∀ n g lo hi, (∀ i k, lo ≤ k → k < hi → F' i k = F i k) → SQ nh nd n g F lo hi → SQ nh nd n g F' lo hi := by
  intro n
  induction n with
  | zero => intro g lo hi _ h; exact h
  | succ n ih =>
    intro g lo hi e h
    rw [SQ] at h ⊢
    rcases h with h | ⟨h1, h2, h3, h4, h5, h6⟩
    · exact Or.inl h
    · have e0 := fun i => e i lo (Nat.le_refl _) h1
      refine Or.inr ⟨h1, rwK_c e0 h2, ?_, ?_, ?_, ?_⟩
      · rw [e0, e0]; exact h3
      · rw [e0, e0]; exact fun z => ⟨(h4 z).1, (h4 z).2.1, ih _ _ _ (fun i k a b => e i k (by omega) (by omega)) (h4 z).2.2⟩
      · rw [e0]; exact h5
      · have hlo : lo + 1 ≤ F 4 lo := by
          by_cases z : F 0 lo = 6
          · exact (h4 z).2.1
          · rw [h3 z]; exact Nat.le_refl _
        rw [e0]; exact ih _ _ _ (fun i k a b => e i k (by omega) b) h6
/-- a step from row lo on, up to row mid -/
def STP (nh nd g : Nat) (F : Nat → Nat → Nat) (lo mid : Nat) : Prop := rwK F nh nd lo ∧ (F 0 lo ≠ 6 → F 4 lo = lo + 1) ∧ (F 0 lo = 6 → 1 ≤ g ∧ lo + 1 ≤ F 4 lo ∧ ∃ n, SQ nh nd n (g - 1) F (lo + 1) (F 4 lo)) ∧ F 4 lo = mid
def UWB (m nh nd g : Nat) (U : WS → Nat → WR) : Prop := ∀ s p s' p', U s p = .inl (s', p') → p ≤ m → (s.1 < s'.1 ∧ p < p' ∧ p' ≤ m ∧ 4 * s'.1 + p ≤ 4 * s.1 + p' + 1) ∧ (∀ i k, k < s.1 → s'.2 i k = s.2 i k) ∧ STP nh nd g s'.2 s.1 s'.1
theorem seW_i {tb : Nat → Nat} {m ch : Nat} {x : WR} {k : WS → Nat → WR} {y : WS × Nat} (h : seW tb m ch x k = .inl y) : ∃ s p, x = .inl (s, p) ∧ p < m ∧ k s (sk tb m (p + 1)) = .inl y := by
  unfold seW at h
  split at h
  · cases h
  · rename_i s p
    split at h
    · rename_i hc; exact ⟨s, p, rfl, hc.1, h⟩
    · cases h
theorem nQ_i {tb : Nat → Nat} {m p : Nat} {lo hi : Int32} {k : Nat → Nat → WR} {x : WS × Nat} (h : nQ tb m lo hi p k = .inl x) : numF tb m lo hi p = 0 ∧ k (numV tb m p) (sk tb m (dgE tb m p)) = .inl x := by
  by_cases e : numF tb m lo hi p = 0
  · rw [nQ_0 e] at h; exact ⟨e, h⟩
  · rw [nQ_f e] at h; cases h
theorem num_adv {tb : Nat → Nat} {m p : Nat} {lo hi : Int32} (hp : p ≤ m) (h : numF tb m lo hi p = 0) : p < sk tb m (dgE tb m p) ∧ sk tb m (dgE tb m p) ≤ m := by
  have h1 : dgE tb m p ≠ p := fun z => by unfold numF at h; rw [if_pos z] at h; omega
  have h2 : dgE tb m p ≤ m := adv_le p hp
  have h3 : p ≤ dgE tb m p := adv_ge p
  have h4 := sk_ge (tb := tb) (m := m) (a := dgE tb m p)
  have h5 := sk_le (tb := tb) (n := m) (a := dgE tb m p) h2
  omega
theorem lsA_B {tb : Nat → Nat} {m nh nd g : Nat} {ov : Nat → Bool} {U : WS → Nat → WR} (hU : UWB m nh nd g U) : ∀ j s p s' p', lsA tb m ov U j s p = .inl (s', p') → p ≤ m → (s.1 ≤ s'.1 ∧ p ≤ p' ∧ p' ≤ m ∧ 4 * s'.1 + p ≤ 4 * s.1 + p') ∧ (∀ i k, k < s.1 → s'.2 i k = s.2 i k) ∧ ∃ n, SQ nh nd n g s'.2 s.1 s'.1 := by
  intro j
  induction j with
  | zero =>
    intro s p s' p' h hp
    rw [lsA] at h; cases h
    exact ⟨⟨Nat.le_refl _, Nat.le_refl _, hp, Nat.le_refl _⟩, fun _ _ _ => rfl, 0, rfl⟩
  | succ j ih =>
    intro s p s' p' h hp
    rw [lsA] at h
    split at h
    · cases h
      exact ⟨⟨Nat.le_refl _, Nat.le_refl _, hp, Nat.le_refl _⟩, fun _ _ _ => rfl, 0, rfl⟩
    · split at h
      · cases h
      · rename_i s1 p1 hu
        obtain ⟨s0, p0, e0, l0, h0⟩ := seW_i hu
        cases h0
        obtain ⟨⟨a1, a2, a3, a4⟩, a5, ⟨a6, a7, a8, a9⟩⟩ := hU _ _ _ _ e0 hp
        have k1 := sk_ge (tb := tb) (m := m) (a := p0 + 1)
        have k2 := sk_le (tb := tb) (n := m) (a := p0 + 1) (by omega)
        obtain ⟨⟨b1, b2, b3, b4⟩, b5, n2, b6⟩ := ih _ _ _ _ h k2
        have e : ∀ i, s'.2 i s.1 = s1.2 i s.1 := fun i => b5 i s.1 a1
        refine ⟨⟨by omega, by omega, b3, by omega⟩, fun i k hk => (b5 i k (by omega)).trans (a5 i k hk), ?_⟩
        by_cases z : s1.2 0 s.1 = 6
        · obtain ⟨c1, c2, n1, c3⟩ := a8 z
          refine ⟨max n1 n2 + 1, ?_⟩
          rw [SQ]
          refine Or.inr ⟨by omega, rwK_c e a6, ?_, ?_, ?_, ?_⟩
          · rw [e, e]; exact a7
          · rw [e, e]
            exact fun _ => ⟨c1, c2, SQ_m _ _ _ _ _ (Nat.le_max_left _ _) (SQ_c _ _ _ _ (fun i k x y => b5 i k (by omega)) c3)⟩
          · rw [e, a9]; exact b1
          · rw [e, a9]; exact SQ_m _ _ _ _ _ (Nat.le_max_right _ _) b6
        · refine ⟨n2 + 1, ?_⟩
          rw [SQ]
          refine Or.inr ⟨by omega, rwK_c e a6, ?_, ?_, ?_, ?_⟩
          · rw [e, e]; exact a7
          · rw [e]; exact fun z2 => absurd z2 z
          · rw [e, a9]; exact b1
          · rw [e, a9]; exact b6
theorem stp_len {tb : Nat → Nat} {m p : Nat} (hp : p ≤ m) (h : stp (lwd tb m p) ≠ 7) : p + 3 ≤ sk tb m (ltE tb m p) ∧ sk tb m (ltE tb m p) ≤ m := by
  have hl := lwd_len (tb := tb) (n := m) (p := p)
  have h2 : ltE tb m p ≤ m := adv_le p hp
  have h4 := sk_ge (tb := tb) (m := m) (a := ltE tb m p)
  have h5 := sk_le (tb := tb) (n := m) (a := ltE tb m p) h2
  have h3 : 3 ≤ (lwd tb m p).length := by
    generalize lwd tb m p = l at *
    unfold stp at h
    (repeat' split at h) <;> first | (rename_i z; rw [z]; decide) | exact absurd rfl h
  omega
theorem stp_le {l : List Nat} : stp l ≤ 7 := by unfold stp; (repeat' split) <;> omega
theorem stB_B {tb : Nat → Nat} {m nh nd g : Nat} {ag : WS → Nat → Nat → WR} (h6 : nh ≤ 6) (h12 : nd ≤ 12) (hag : ∀ s p1 p s' p', ag s p1 p = .inl (s', p') → p1 ≤ m → (s.1 < s'.1 ∧ p1 < p' ∧ p' ≤ m ∧ 4 * s'.1 + p1 ≤ 4 * s.1 + p' + 1) ∧ (∀ i k, k < s.1 → s'.2 i k = s.2 i k) ∧ STP nh nd g s'.2 s.1 s'.1) : UWB m nh nd g (stB tb m nh nd ag) := by
  intro s p s' p' h hp
  unfold stB at h
  split at h
  · cases h
  rename_i k7
  obtain ⟨l1, l2⟩ := stp_len hp k7
  have hs7 := stp_le (l := lwd tb m p)
  generalize sk tb m (ltE tb m p) = p1 at *
  generalize stp (lwd tb m p) = k at *
  split at h
  · obtain ⟨⟨a1, a2, a3, a4⟩, a5, a6⟩ := hag _ _ _ _ _ h l2
    exact ⟨⟨a1, by omega, a3, by omega⟩, a5, a6⟩
  split at h
  · cases h
    refine ⟨⟨by show s.1 < s.1 + 1; omega, by omega, l2, by show 4 * (s.1 + 1) + p ≤ _; omega⟩, fun i k hk => ?_, ⟨?_, ?_, ?_, ?_⟩⟩
    · dsimp only; simp (disch := omega) only [upA_n]
    · unfold rwK; dsimp only; simp (disch := omega) only [upA_n, upA_s]; omega
    · dsimp only; simp (disch := omega) only [upA_n, upA_s]; exact fun _ => trivial
    · dsimp only; simp (disch := omega) only [upA_n, upA_s]; exact fun z => absurd z (by omega)
    · dsimp only; simp (disch := omega) only [upA_n, upA_s]
  split at h
  · obtain ⟨n1, h⟩ := nQ_i h
    obtain ⟨d1, d2⟩ := num_adv l2 n1
    cases h
    have v1 := numF_b (by omega) n1
    have v2 := numF_l (by omega) n1
    refine ⟨⟨by show s.1 < s.1 + 1; omega, by omega, d2, by show 4 * (s.1 + 1) + p ≤ _; omega⟩, fun i k hk => ?_, ⟨?_, ?_, ?_, ?_⟩⟩
    · dsimp only; simp (disch := omega) only [upA_n]
    · unfold rwK; dsimp only; simp (disch := omega) only [upA_n, upA_s]; omega
    · dsimp only; simp (disch := omega) only [upA_n, upA_s]; exact fun _ => trivial
    · dsimp only; simp (disch := omega) only [upA_n, upA_s]; exact fun z => absurd z (by omega)
    · dsimp only; simp (disch := omega) only [upA_n, upA_s]
  split at h
  · obtain ⟨n1, h⟩ := nQ_i h
    obtain ⟨d1, d2⟩ := num_adv l2 n1
    obtain ⟨n2, h⟩ := nQ_i h
    obtain ⟨d3, d4⟩ := num_adv d2 n2
    obtain ⟨n3, h⟩ := nQ_i h
    obtain ⟨d5, d6⟩ := num_adv d4 n3
    cases h
    have v1 := numF_h (by omega) n1
    have v2 := numF_h (by omega) n2
    have v3 := numF_b (by omega) n3
    have v4 := numF_l (by omega) n3
    refine ⟨⟨by show s.1 < s.1 + 1; omega, by omega, d6, by show 4 * (s.1 + 1) + p ≤ _; omega⟩, fun i k hk => ?_, ⟨?_, ?_, ?_, ?_⟩⟩
    · dsimp only; simp (disch := omega) only [upA_n]
    · unfold rwK; dsimp only; simp (disch := omega) only [upA_n, upA_s]; omega
    · dsimp only; simp (disch := omega) only [upA_n, upA_s]; exact fun _ => trivial
    · dsimp only; simp (disch := omega) only [upA_n, upA_s]; exact fun z => absurd z (by omega)
    · dsimp only; simp (disch := omega) only [upA_n, upA_s]
  split at h
  · obtain ⟨n1, h⟩ := nQ_i h
    obtain ⟨d1, d2⟩ := num_adv l2 n1
    obtain ⟨n2, h⟩ := nQ_i h
    obtain ⟨d3, d4⟩ := num_adv d2 n2
    cases h
    have v1 := numF_h (by omega) n1
    have v3 := numF_b (by omega) n2
    have v4 := numF_l (by omega) n2
    refine ⟨⟨by show s.1 < s.1 + 1; omega, by omega, d4, by show 4 * (s.1 + 1) + p ≤ _; omega⟩, fun i k hk => ?_, ⟨?_, ?_, ?_, ?_⟩⟩
    · dsimp only; simp (disch := omega) only [upA_n]
    · unfold rwK; dsimp only; simp (disch := omega) only [upA_n, upA_s]; omega
    · dsimp only; simp (disch := omega) only [upA_n, upA_s]; exact fun _ => trivial
    · dsimp only; simp (disch := omega) only [upA_n, upA_s]; exact fun z => absurd z (by omega)
    · dsimp only; simp (disch := omega) only [upA_n, upA_s]
  · obtain ⟨n1, h⟩ := nQ_i h
    obtain ⟨d1, d2⟩ := num_adv l2 n1
    cases h
    have v1 := numF_h (by omega) n1
    refine ⟨⟨by show s.1 < s.1 + 1; omega, by omega, d2, by show 4 * (s.1 + 1) + p ≤ _; omega⟩, fun i k hk => ?_, ⟨?_, ?_, ?_, ?_⟩⟩
    · dsimp only; simp (disch := omega) only [upA_n]
    · unfold rwK; dsimp only; simp (disch := omega) only [upA_n, upA_s]; omega
    · dsimp only; simp (disch := omega) only [upA_n, upA_s]; exact fun _ => trivial
    · dsimp only; simp (disch := omega) only [upA_n, upA_s]; exact fun z => absurd z (by omega)
    · dsimp only; simp (disch := omega) only [upA_n, upA_s]
theorem agA_B {tb : Nat → Nat} {m nh nd g : Nat} {U : WS → Nat → WR} (hU : UWB m nh nd g U) : ∀ s p1 s' p', agA tb m U s p1 = .inl (s', p') → p1 ≤ m → (s.1 < s'.1 ∧ p1 < p' ∧ p' ≤ m ∧ 4 * s'.1 + p1 ≤ 4 * s.1 + p' + 1) ∧ (∀ i k, k < s.1 → s'.2 i k = s.2 i k) ∧ STP nh nd (g + 1) s'.2 s.1 s'.1 := by
  intro s p1 s' p' h hp
  unfold agA at h
  obtain ⟨n1, h⟩ := nQ_i h
  obtain ⟨d1, d2⟩ := num_adv hp n1
  obtain ⟨s1, q1, e1, l1, h⟩ := seW_i h
  cases e1
  obtain ⟨s2, q2, e2, l2, h⟩ := seW_i h
  cases h
  have v1 := numF_b (by omega) n1
  generalize sk tb m (dgE tb m p1) = p2 at *
  have k1 := sk_ge (tb := tb) (m := m) (a := p2 + 1)
  have k2 := sk_le (tb := tb) (n := m) (a := p2 + 1) (by omega)
  have k3 := sk_ge (tb := tb) (m := m) (a := q2 + 1)
  have k4 := sk_le (tb := tb) (n := m) (a := q2 + 1) (by omega)
  obtain ⟨⟨b1, b2, b3, b4⟩, b5, n2, b6⟩ := lsA_B hU _ _ _ _ _ e2 k2
  dsimp only at b1 b4 b5 b6
  have f0 : s2.2 0 s.1 = 6 := by rw [b5 0 s.1 (by omega), upA_n (by omega), upA_s]
  have f1 : s2.2 1 s.1 = numV tb m p1 := by rw [b5 1 s.1 (by omega), upA_s]
  refine ⟨⟨by show s.1 < s2.1; omega, by omega, k4, by show 4 * s2.1 + p1 ≤ _; omega⟩, fun i k hk => ?_, ⟨?_, ?_, ?_, ?_⟩⟩
  · dsimp only; rw [upA_n (by omega), b5 i k (by omega), upA_n (by omega), upA_n (by omega)]
  · unfold rwK; dsimp only; simp (disch := omega) only [upA_n, f0, f1]; omega
  · dsimp only; rw [upA_n (by omega), f0]; exact fun z => absurd rfl z
  · dsimp only
    rw [upA_s]
    exact fun _ => ⟨by omega, b1, n2, by rw [Nat.add_sub_cancel]; exact SQ_c _ _ _ _ (fun i k x y => upA_n (by omega)) b6⟩
  · dsimp only; rw [upA_s]
theorem stA_B {tb : Nat → Nat} {m nh nd : Nat} (h6 : nh ≤ 6) (h12 : nd ≤ 12) : ∀ g, UWB m nh nd g (stA tb m nh nd g) := by
  intro g
  induction g with
  | zero => rw [stA]; exact stB_B h6 h12 (fun s p1 p s' p' h _ => by cases h)
  | succ g ih => rw [stA]; exact stB_B h6 h12 (fun s p1 p s' p' h hp => agA_B ih s p1 s' p' h hp)
