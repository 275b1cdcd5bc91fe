/-! THE CONSTRUCTORS: the small machine as a function, for runs on numbers -/
abbrev MM : Type := List (Nat × Nat × Int32) × List (Nat × Nat × List Nat) × Nat × Nat
def SS (n : Nat) (m : MM) : SW := (w16 n ++ m.2.1, true, m.2.2.1, m.2.2.2)
def IA (xs : Nat → Int32) : List (Nat × Nat × Int32) → VI
  | [] => I0 xs
  | e :: A => u2 (IA xs A) e.1 e.2.1 e.2.2
def LZ : VL := fun _ _ => 0
def lk : List (Nat × Nat × Int32) → Nat → Nat → Option Int32
  | [], k, j => if 16 ≤ k then some 0 else if k = 2 then some (usual j) else none
  | e :: A, k, j => if k = e.1 then (if j = e.2.1 then some e.2.2 else lk A k j) else lk A k j
theorem lk_s {xs : Nat → Int32} {k j : Nat} {v : Int32} : ∀ {A}, lk A k j = some v → IA xs A k j = v
  | [], h => by
    unfold lk at h
    unfold IA I0
    split at h
    · rw [if_neg (by omega), if_neg (by omega)]; injection h
    · split at h
      · rw [if_neg (by omega), if_pos (by assumption)]; injection h
      · cases h
  | e :: A, h => by
    unfold lk at h
    show u2 (IA xs A) e.1 e.2.1 e.2.2 k j = v
    unfold u2
    split at h
    · rename_i h1
      rw [if_pos h1]
      split at h
      · rename_i h2; rw [if_pos h2]; injection h
      · rename_i h2; rw [if_neg h2]; exact lk_s h
    · rename_i h1
      rw [if_neg h1]; exact lk_s h
/-- no place of a cell behind q is written yet -/
def frs (A : List (Nat × Nat × Int32)) (q : Nat) : Bool := A.all (fun e => decide (e.1 < q))
theorem frs_z {xs : Nat → Int32} {q : Nat} (hq : 16 ≤ q) : ∀ {A}, frs A q = true → ∀ k j, q ≤ k → IA xs A k j = 0
  | [], _, k, j, h => by unfold IA I0; rw [if_neg (by omega), if_neg (by omega)]
  | e :: A, hA, k, j, h => by
    have h1 : e.1 < q ∧ frs A q = true := by
      unfold frs at hA ⊢
      simpa using hA
    show u2 (IA xs A) e.1 e.2.1 e.2.2 k j = 0
    unfold u2
    rw [if_neg (by omega)]
    exact frs_z hq h1.2 k j h
theorem frs_zI {xs : Nat → Int32} {q : Nat} {A : List (Nat × Nat × Int32)} (hq : 16 ≤ q) (h : frs A q = true) : zI (IA xs A) q = IA xs A := by
  funext k j
  unfold zI
  split
  · rename_i e; exact (frs_z hq h k j (by omega)).symm
  · rfl
theorem frs_zIs {xs : Nat → Int32} {q m : Nat} {A : List (Nat × Nat × Int32)} (hq : 16 ≤ q) (h : frs A q = true) : zIs (IA xs A) q m = IA xs A := by
  funext k j
  unfold zIs
  split
  · rename_i e; exact (frs_z hq h k j (by omega)).symm
  · rfl
theorem zL_z {q : Nat} : zL LZ q = LZ := by funext k j; unfold zL LZ; split <;> rfl
/-- the copy, place by place -/
def cpA (A : List (Nat × Nat × Int32)) (a s b d : Nat) : Nat → Option (List (Nat × Nat × Int32))
  | 0 => some A
  | m + 1 => match lk A a (s + m), cpA A a s b d m with
    | some v, some A' => some ((b, d + m, v) :: A')
    | _, _ => none
theorem cpA_s {xs : Nat → Int32} {A : List (Nat × Nat × Int32)} {a s b d : Nat} : ∀ {m A'}, cpA A a s b d m = some A' → cpI (IA xs A) a s b d m = IA xs A'
  | 0, A', h => by
    injection h with h
    subst h
    funext k j
    unfold cpI
    split
    · rw [if_neg (by omega)]
    · rfl
  | m + 1, A', h => by
    unfold cpA at h
    split at h
    · rename_i v A2 h1 h2
      injection h with h
      subst h
      have ih := cpA_s (xs := xs) h2
      funext k j
      show _ = u2 (IA xs A2) b (d + m) v k j
      rw [← ih]
      unfold u2 cpI
      by_cases hk : k = b
      · rw [if_pos hk, if_pos hk]
        by_cases hj : j = d + m
        · rw [if_pos hj, if_pos (by omega), ← lk_s h1, hj]
          congr 1; omega
        · rw [if_neg hj, if_pos hk]
          by_cases hr : d ≤ j ∧ j < d + m
          · rw [if_pos hr, if_pos (by omega)]
          · rw [if_neg hr, if_neg (by omega)]
      · rw [if_neg hk, if_neg hk, if_neg hk]
    · cases h
theorem w16_len {n : Nat} : (w16 n).length = 16 := rfl
theorem w16_get {n k : Nat} {T : List (Nat × Nat × List Nat)} (h : k ≠ 1) : (w16 n ++ T).getD k (999, 0, []) = (w16 0 ++ T).getD k (999, 0, []) := by
  by_cases h16 : k < 16
  · match k, h, h16 with
    | 0, _, _ => rfl
    | 1, h, _ => exact absurd rfl h
    | 2, _, _ => rfl
    | 3, _, _ => rfl
    | 4, _, _ => rfl
    | 5, _, _ => rfl
    | 6, _, _ => rfl
    | 7, _, _ => rfl
    | 8, _, _ => rfl
    | 9, _, _ => rfl
    | 10, _, _ => rfl
    | 11, _, _ => rfl
    | 12, _, _ => rfl
    | 13, _, _ => rfl
    | 14, _, _ => rfl
    | 15, _, _ => rfl
    | k + 16, _, h16 => exact absurd h16 (by omega)
  · obtain ⟨q, rfl⟩ : ∃ q, k = q + 16 := ⟨k - 16, by omega⟩
    rfl
theorem w16_tag {n k : Nat} {T : List (Nat × Nat × List Nat)} : tagW (w16 n ++ T) k = tagW (w16 0 ++ T) k := by
  by_cases h : k = 1
  · subst h; rfl
  · unfold tagW; rw [w16_get h]
theorem w16_ref {n k j : Nat} {T : List (Nat × Nat × List Nat)} : refW (w16 n ++ T) k j = refW (w16 0 ++ T) k j := by
  by_cases h : k = 1
  · subst h; rfl
  · unfold refW; rw [w16_get h]
theorem w16_lw {n k : Nat} {T : List (Nat × Nat × List Nat)} (h : k ≠ 1) : lenW (w16 n ++ T) k = lenW (w16 0 ++ T) k := by
  unfold lenW; rw [w16_get h]
theorem w16_set {n k : Nat} {T : List (Nat × Nat × List Nat)} {x : Nat × Nat × List Nat} (h : 16 ≤ k) : (w16 n ++ T).set k x = w16 n ++ T.set (k - 16) x := by
  obtain ⟨q, rfl⟩ : ∃ q, k = q + 16 := ⟨k - 16, by omega⟩
  rw [Nat.add_sub_cancel]
  rfl
theorem vpi {j : Int32} {q : Nat} (h : ¬ j < 0 ∧ j.toNatClampNeg < q) : vp_in j q := fun e => e.elim h.1 (fun c => by have := h.2; omega)
