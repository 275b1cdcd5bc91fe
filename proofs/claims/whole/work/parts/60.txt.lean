/-! TEXTS: what is read off them, purely -/
/-- on while q holds -/
def advB (q : Nat → Bool) (n : Nat) : Nat → Nat → Nat
  | 0, a => a
  | m + 1, a => if a < n ∧ q a = true then advB q n m (a + 1) else a
def adv (q : Nat → Bool) (n a : Nat) : Nat := advB q n (n - a) a
theorem adv_eq {q : Nat → Bool} {n a : Nat} : adv q n a = if a < n ∧ q a = true then adv q n (a + 1) else a := by
  unfold adv
  by_cases h : a < n
  · rw [show n - a = (n - (a + 1)) + 1 from by omega, advB]
  · rw [show n - a = 0 from by omega, advB, if_neg (fun z => h z.1)]
theorem adv_t {q : Nat → Bool} {n a : Nat} (h : a < n) (h2 : q a = true) : adv q n a = adv q n (a + 1) := by rw [adv_eq, if_pos ⟨h, h2⟩]
theorem adv_f {q : Nat → Bool} {n a : Nat} (h : ¬ (a < n ∧ q a = true)) : adv q n a = a := by rw [adv_eq, if_neg h]
theorem adv_ind {q : Nat → Bool} {n : Nat} {P : Nat → Prop} (h1 : ∀ a, ¬ (a < n ∧ q a = true) → P a) (h2 : ∀ a, a < n → q a = true → P (a + 1) → P a) : ∀ a, P a := by
  intro a
  obtain ⟨m, hm⟩ : ∃ m, n - a = m := ⟨_, rfl⟩
  induction m generalizing a with
  | zero => exact h1 a (fun z => by omega)
  | succ m ih =>
    by_cases h : a < n ∧ q a = true
    · exact h2 a h.1 h.2 (ih (a + 1) (by omega))
    · exact h1 a h
theorem adv_ge {q : Nat → Bool} {n : Nat} : ∀ a, a ≤ adv q n a := adv_ind (fun a h => by rw [adv_f h]; exact Nat.le_refl _) (fun a h h2 ih => by rw [adv_t h h2]; omega)
theorem adv_le {q : Nat → Bool} {n : Nat} : ∀ a, a ≤ n → adv q n a ≤ n := adv_ind (fun a h z => by rw [adv_f h]; exact z) (fun a h h2 ih z => by rw [adv_t h h2]; exact ih (by omega))
theorem adv_end {q : Nat → Bool} {n : Nat} : ∀ a, ¬ (adv q n a < n ∧ q (adv q n a) = true) := adv_ind (fun a h => by rw [adv_f h]; exact h) (fun a h h2 ih => by rw [adv_t h h2]; exact ih)
theorem adv_idem {q : Nat → Bool} {n : Nat} (a : Nat) : adv q n (adv q n a) = adv q n a := adv_f (adv_end a)
theorem adv_in {q : Nat → Bool} {n : Nat} : ∀ a i, a + i < adv q n a → q (a + i) = true ∧ a + i < n := adv_ind (fun a h i z => by rw [adv_f h] at z; omega) (fun a h h2 ih i z => by
  rw [adv_t h h2] at z
  match i with
  | 0 => exact ⟨h2, h⟩
  | i + 1 =>
    have := ih i (by omega)
    rwa [show a + 1 + i = a + (i + 1) from by omega] at this)
def isBl (tb : Nat → Nat) (k : Nat) : Bool := decide (tb k = 32)
def isDg (tb : Nat → Nat) (k : Nat) : Bool := decide (48 ≤ tb k ∧ tb k ≤ 57)
def isLt (tb : Nat → Nat) (k : Nat) : Bool := decide (97 ≤ tb k ∧ tb k ≤ 122)
/-- on behind blanks -/
def sk (tb : Nat → Nat) (n a : Nat) : Nat := adv (isBl tb) n a
def dgE (tb : Nat → Nat) (n a : Nat) : Nat := adv (isDg tb) n a
def ltE (tb : Nat → Nat) (n a : Nat) : Nat := adv (isLt tb) n a
/-- what the first j digits from a on say -/
def nvF (tb : Nat → Nat) (a : Nat) : Nat → Nat
  | 0 => 0
  | j + 1 => min 100000 (10 * nvF tb a j + (tb (a + j) - 48))
theorem nv_le {tb : Nat → Nat} {a j : Nat} : nvF tb a j ≤ 100000 := by
  match j with
  | 0 => exact Nat.zero_le _
  | j + 1 => exact Nat.min_le_left _ _
def numV (tb : Nat → Nat) (n p : Nat) : Nat := nvF tb p (dgE tb n p - p)
/-- a number's fault: 0 none -/
def numF (tb : Nat → Nat) (n : Nat) (lo hi : Int32) (p : Nat) : Nat := if dgE tb n p = p then 1 else if i32 (numV tb n p) < lo ∨ hi < i32 (numV tb n p) then 2 else 0
/-- the letters that stand there -/
def lwd (tb : Nat → Nat) (n p : Nat) : List Nat := (List.range (ltE tb n p - p)).map (fun i => tb (p + i))
theorem sgn_eq {b c : Nat} (hb : b < 256) (hc : c < 128) : (sgn b = i32 c) = (b = c) := by
  unfold sgn
  by_cases h : b < 128
  · rw [if_pos h, i_eq (by omega) (by omega)]
  · rw [if_neg h]
    refine propext ⟨fun z => ?_, fun z => by omega⟩
    have h1 := (neg_lt (a := b) (b := 256) (by omega) (by omega)).mpr hb
    rw [z, i_lt (by omega) (by omega)] at h1
    omega
theorem sgn_lt {b c : Nat} (hb : b < 256) (hc : c < 128) : (sgn b < i32 c) = (b < c ∨ 128 ≤ b) := by
  unfold sgn
  by_cases h : b < 128
  · rw [if_pos h, i_lt (by omega) (by omega)]
    refine propext ⟨fun z => Or.inl z, fun z => by omega⟩
  · rw [if_neg h]
    refine propext ⟨fun z => by omega, fun z => ?_⟩
    have h1 := (neg_lt (a := b) (b := 256) (by omega) (by omega)).mpr hb
    rw [Int32.lt_iff_toInt_lt] at h1 ⊢
    rw [i_int (by omega)] at h1 ⊢
    omega
theorem sgn_gt {b c : Nat} (hb : b < 256) (hc : c < 128) : (i32 c < sgn b) = (c < b ∧ b < 128) := by
  unfold sgn
  by_cases h : b < 128
  · rw [if_pos h, i_lt (by omega) (by omega)]
    refine propext ⟨fun z => ⟨z, h⟩, fun z => z.1⟩
  · rw [if_neg h]
    refine propext ⟨fun z => ?_, fun z => by omega⟩
    have h1 := (neg_lt (a := b) (b := 256) (by omega) (by omega)).mpr hb
    rw [Int32.lt_iff_toInt_lt] at h1 z
    rw [i_int (by omega)] at h1 z
    omega
theorem sgn_s {b : Nat} (h : b < 128) : sgn b = i32 b := if_pos h
/-! codes of words, by 27s -/
def enc : List Nat → Nat
  | [] => 0
  | x :: l => x + 27 * enc l
theorem enc_inj : ∀ {l l' : List Nat}, (∀ x ∈ l, 1 ≤ x ∧ x ≤ 26) → (∀ x ∈ l', 1 ≤ x ∧ x ≤ 26) → enc l = enc l' → l = l'
  | [], [], _, _, _ => rfl
  | [], x :: l', _, h2, h => by
    have := h2 x (List.mem_cons_self ..)
    simp only [enc] at h; omega
  | x :: l, [], h1, _, h => by
    have := h1 x (List.mem_cons_self ..)
    simp only [enc] at h; omega
  | x :: l, y :: l', h1, h2, h => by
    have a := h1 x (List.mem_cons_self ..)
    have b := h2 y (List.mem_cons_self ..)
    simp only [enc] at h
    have e : x = y := by omega
    subst e
    rw [enc_inj (fun z hz => h1 z (List.mem_cons_of_mem _ hz)) (fun z hz => h2 z (List.mem_cons_of_mem _ hz)) (by omega)]
/-- the code of the first j letters -/
def cdF (tb : Nat → Nat) (p : Nat) : Nat → Nat
  | 0 => 0
  | j + 1 => 27 * cdF tb p j + (tb (p + j) - 96)
theorem cd_enc {tb : Nat → Nat} {p j : Nat} : cdF tb p j = enc (((List.range j).map (fun i => tb (p + i) - 96)).reverse) := by
  induction j with
  | zero => rfl
  | succ j ih => rw [List.range_succ, List.map_append, List.reverse_append]; simp only [List.map_cons, List.map_nil, List.reverse_cons, List.reverse_nil, List.nil_append, List.singleton_append, enc, cdF, ih]; omega
theorem cd_lt {tb : Nat → Nat} {p j : Nat} (h : ∀ i, i < j → tb (p + i) ≤ 122) : cdF tb p j < 27 ^ j := by
  induction j with
  | zero => exact Nat.one_pos
  | succ j ih =>
    have h1 := ih (fun i hi => h i (by omega))
    have h2 := h j (by omega)
    rw [cdF, Nat.pow_succ]; omega
/-- a word by its letters, as the reference writes it -/
def wcd (w : List Nat) : Nat := enc ((w.map (fun x => x - 96)).reverse)
theorem lwd_len {tb : Nat → Nat} {n p : Nat} : (lwd tb n p).length = ltE tb n p - p := by unfold lwd; simp
theorem lwd_let {tb : Nat → Nat} {n p x : Nat} (h : x ∈ lwd tb n p) : 97 ≤ x ∧ x ≤ 122 := by
  unfold lwd at h
  obtain ⟨i, hi, rfl⟩ := List.mem_map.mp h
  have := (adv_in (q := isLt tb) (n := n) p i (by have := List.mem_range.mp hi; unfold ltE at this; omega)).1
  simpa [isLt] using this
theorem map_inj96 : ∀ {l l' : List Nat}, (∀ x ∈ l, 97 ≤ x) → (∀ x ∈ l', 97 ≤ x) → l.map (fun x => x - 96) = l'.map (fun x => x - 96) → l = l'
  | [], [], _, _, _ => rfl
  | [], _ :: _, _, _, h => by cases h
  | _ :: _, [], _, _, h => by cases h
  | x :: l, y :: l', h1, h2, h => by
    have a := h1 x (List.mem_cons_self ..)
    have b := h2 y (List.mem_cons_self ..)
    simp only [List.map_cons, List.cons.injEq] at h
    rw [show x = y from by omega, map_inj96 (fun z hz => h1 z (List.mem_cons_of_mem _ hz)) (fun z hz => h2 z (List.mem_cons_of_mem _ hz)) h.2]
theorem wcd_eq {tb : Nat → Nat} {n p : Nat} {w : List Nat} (hw : ∀ x ∈ w, 97 ≤ x ∧ x ≤ 122) : (cdF tb p (ltE tb n p - p) = wcd w) = (lwd tb n p = w) := by
  have e : cdF tb p (ltE tb n p - p) = wcd (lwd tb n p) := by
    rw [cd_enc]; unfold wcd lwd; rw [List.map_map]; rfl
  rw [e]
  refine propext ⟨fun h => ?_, fun h => by rw [h]⟩
  unfold wcd at h
  have h1 := enc_inj (fun x hx => ?_) (fun x hx => ?_) h
  · have h2 := List.reverse_inj.mp h1
    exact map_inj96 (fun x hx => (lwd_let hx).1) (fun x hx => (hw x hx).1) h2
  · rw [List.mem_reverse] at hx
    obtain ⟨y, hy, rfl⟩ := List.mem_map.mp hx
    have := lwd_let hy
    omega
  · rw [List.mem_reverse] at hx
    obtain ⟨y, hy, rfl⟩ := List.mem_map.mp hx
    have := hw y hy
    omega
