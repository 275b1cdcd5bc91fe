/-! WHAT STAYS AS IT IS: words that the tables decide, the script, USUAL, the texts, what a throw needs -/
def nwB : Cond → Bool
  | .fieldLinkNest .. => true
  | .methodLinkNest .. => true
  | .declares .. => true
  | .castable .. => true
  | _ => false
def NW (U : State) : Prop := ∀ w ∈ lw_tbl, nwB w = true → va_Nw w U
theorem NW.warm {s U : State} (hW : s.WarmedH U.vm) (h : NW s) : NW U := by
  intro w hw hb
  have h1 := h w hw hb
  cases w with
  | fieldLinkNest a i b n d q => exact va_Nw.warmF hW h1
  | methodLinkNest a i x q => exact va_Nw.warmM hW h1
  | declares x => exact va_Nw.warmD hW h1
  | castable a b => exact va_Nw.warmC hW h1
  | _ => cases hb
theorem va_AOA.moved {t : FieldType} {u U : State} (hvm : u.vm.Alike U.vm) (h : va_AOA t u) : va_AOA t U := by
  obtain ⟨comp, c, k, h1, h2, h3, h4, h5⟩ := arrayOverA_spec h
  obtain ⟨k', hk', he⟩ := hvm.2.2 _ _ h3
  have e0 : U.vm.bare = u.vm.bare := by first | exact hvm.bare_eq | exact hvm.bare_eq.symm
  have a1 := va_idx_bare U.vm comp
  have a2 := va_idx_bare u.vm comp
  rw [e0] at a1
  have hi := a1.symm.trans (a2.trans h2)
  have hkind : k'.kind = .array comp (.array t) := by rw [he]; exact h4
  have f1 : U.vm.findClass (FieldType.array t).toString = some comp := by rw [hvm.findClass]; exact h1
  have f2 : U.vm.findClass ("[" ++ (FieldType.array t).toString) = some c := by rw [hvm.findClass]; exact h5
  unfold va_AOA Cond.before Cond.holds
  simp only [Cond.value]
  rw [f1, Option.bind_some]
  refine (congrArg (fun o : Option Nat => (o.bind (fun c => (U.vm.classes[c]?).map fun (k : Class) => match k.kind with | .array _ ty => decide (ty = FieldType.array t) && decide (U.vm.findClass ("[" ++ (FieldType.array t).toString) = some c) | _ => false) == some true)) hi).trans ?_
  simp [hk', hkind, f2]
def txLen : List Nat := [22, 63, 39]
/-- the texts, and what reads them -/
def FS (G : GX) (B0 : Nat) (U : State) (H : Heap) : Prop :=
  (∃ adV : Nat → Nat, vk_S 3 txLen txTab (fun i => G.1 (3 + i)) adV (AB B0) U H) ∧ va_Z "java/lang/String" "COMPACT_STRINGS" "Z" (.int 1) (AB B0) U H ∧ va_Zq "jdk/internal/util/Preconditions" "SIOOBE_FORMATTER" "Ljava/util/function/BiFunction;" (AB B0) U H ∧
  vk_R RX9 58 "house debt flour water" (G.1 3) U ∧ vk_R RX1 68 "weight kind age pride mouths owed others hunger debt least most" (G.1 4) U ∧ vk_R RX6 61 "grind forgive swell give rain day again" (G.1 5) U
/-- what a throw needs -/
def FT (B0 : Nat) (U : State) (H : Heap) : Prop :=
  vx_Zq Bundle.tN "UNASSIGNED_STACK" Bundle.steD (AB B0) U H ∧ vx_Zq Bundle.tN "SUPPRESSED_SENTINEL" Bundle.listD (AB B0) U H ∧ (∃ sa, vk_R RX10 382 "out of its range" sa U) ∧ (∃ sa, vk_R RX10 389 "no such house" sa U) ∧ (∃ sa, vk_R RX10 392 "no such debt" sa U) ∧ va_Nc "java/lang/IllegalArgumentException" "java/util/NoSuchElementException" U
def Fx (G : GX) (B0 : Nat) (U : State) (H : Heap) : Prop :=
  va_T .int (G.1 1) G.2.2.2.2 (fun j => .int (G.2.2.2.1 j)) (AB B0) U H ∧ va_T .int (G.1 2) 9 (fun j => .int (usual j)) (AB B0) U H ∧ va_Z RX1 "USUAL" "[I" (.ref (G.1 2)) (AB B0) U H ∧ NW U ∧ FS G B0 U H ∧ FT B0 U H ∧ va_AOA .int U
theorem Fx.go {G : GX} {B0 : Nat} {s U : State} {H : Heap} (h : Fx G B0 s s.heap) (hW : s.WarmedH U.vm) (hq : ∀ a : Nat, a < s.heap.size → ¬ AB B0 a → H[a]? = s.heap[a]?) : Fx G B0 U H := by
  obtain ⟨h1, h2, h3, h4, ⟨⟨adV, h5⟩, h6, h7, h8, h9, h10⟩, ⟨h11, h12, ⟨a, h13⟩, ⟨b, h14⟩, ⟨c, h15⟩, h16⟩, h17⟩ := h
  exact ⟨(h1.kept hq).moved hW.alike, (h2.kept hq).moved hW.alike, (h3.kept hq).moved hW.alike, h4.warm hW, ⟨⟨adV, (h5.kept hq).moved hW.alike⟩, (h6.kept hq).moved hW.alike, (h7.kept hq).moved hW.alike, h8.warm hW, h9.warm hW, h10.warm hW⟩,
    ⟨(h11.kept hq).moved hW.alike, (h12.kept hq).moved hW.alike, ⟨a, h13.warm hW⟩, ⟨b, h14.warm hW⟩, ⟨c, h15.warm hW⟩, h16.moved hW.alike⟩, h17.moved hW.alike⟩
