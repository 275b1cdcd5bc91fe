section Snd
variable {p : Program} {l : Launch} {e : Env} {R : Room} {s : State} {m : MethodId} {args : Array Value} {below : List Frame} {meth : Method} {c : Code} {Q : State → Prop} {G : GX} {B0 y uc us rc rs : Nat}
/-- the instruction that gives the answer v -/
def retOK (y pc : Nat) (v : Option Value) : Prop := match v with
  | none => decode (mB y) pc = .ok (.return_, 1) ∧ mR y = none
  | some (.int x) => decode (mB y) pc = .ok (.ireturn, 1) ∧ ∃ ty, mR y = some ty ∧ narrow ty (.int x) = .int x
  | some (.long _) => decode (mB y) pc = .ok (.lreturn, 1) ∧ mR y = some .long
  | _ => False
/-- what a body's end owes -/
def Ends (p : Program) (l : Launch) (e : Env) (R : Room) (s : State) (m : MethodId) (args : Array Value) (below : List Frame) (meth : Method) (c : Code) (Q : State → Prop) (G : GX) (B0 y uc us : Nat) (r : Res) : Prop :=
  (∀ (v : Option Value) (I : VI) (L : VL) (S : SW) (H : Heap) (locs : List Loc) (lr : Array Slot) (pc : Nat), r = (.inl v, I, L, S) → Mem G B0 I L S H → va_S (AB B0) s.heap H locs → retOK y pc v → W p l e R s m args below meth c H locs (S.2.2.1 - uc) (S.2.2.2 - us) Q (F0 m pc lr (v.toList.map (conc G.1)))) ∧
  (∀ (E : Nat) (I : VI) (L : VL) (S : SW) (H : Heap) (locs : List Loc) (lr : Array Slot) (pc j : Nat) (rest : List Value), uc ≤ S.2.2.1 → us ≤ S.2.2.2 → r = (.inr E, I, L, bump S) → th y pc = some E → decode (mB y) pc = .ok (.new j, 3) → Mem G B0 I L S H → lr.size = mL y → va_S (AB B0) s.heap H locs → catS rest ≤ 8 → W p l e R s m args below meth c H locs (S.2.2.1 - uc) (S.2.2.2 - us) Q (F0 m pc lr (rest.map (conc G.1)))) ∧
  (∀ (E : Nat) (I : VI) (L : VL) (S : SW) (H : Heap) (locs : List Loc) (lr : Array Slot) (pc : Nat) (rest : List Value) (q : Addr) (ce : Cell), r = (.inr E, I, L, S) → hn y pc E = none → mO y < 12 → Mem G B0 I L S H → va_S (AB B0) s.heap H locs → H[q]? = some ce → ce.vm = .none → s.vm.findClass (exN E) = some ce.cls → vx_W p l e R s m args below meth c H locs (S.2.2.1 - uc) (S.2.2.2 - us) Q (F0 m pc lr rest) q) ∧
  (∀ (E h n pc cells slots : Nat) (H : Heap) (locs : List Loc) (lr : Array Slot) (ls rest : List Value) (q : Addr) (ce : Cell), hn y pc E = some (h, n) → E < 2 → n < ls.length → ls.length = mL y → lv_has lr (mL y) (clm G.1 ls) → H[q]? = some ce → ce.vm = .none → s.vm.findClass (exN E) = some ce.cls → (∀ lr' : Array Slot, lv_has lr' (mL y) (clm G.1 (ls.set n (.retAddr 0))) → W p l e R s m args below meth c H locs cells slots Q (F0 m h lr' [])) → vx_W p l e R s m args below meth c H locs cells slots Q (F0 m pc lr rest) q)
set_option maxHeartbeats 4000000 in
theorem snd_closed {C : CC} {r : Res} {d : Nat} (ctx : At0 p s m args c G B0 y) (hR : RmD R d uc us r.2.2.2.2.2.1 r.2.2.2.2.2.2) (hin : (mY y).name = "<init>" → meth.name = "<init>") (hC : ∀ y' as I L S r', y' < 319 → C y' as I L S r' → SndR l G B0 d y' as I L S r')
    (hE : Ends p l e R s m args below meth c Q G B0 y uc us r) : closed C y r (PP p l e R s m args below meth c Q G B0 y uc us r.2.2.2.2.2.1 r.2.2.2.2.2.2) := by
  intro pc ls st I L S h
  have hR0 : Rm R uc us r.2.2.2.2.2.1 r.2.2.2.2.2.2 := ⟨by have := hR.1; omega, by have := hR.2.1; omega, hR.2.2.1, hR.2.2.2⟩
  unfold stepR at h
  split at h
  · rename_i i n hd
    obtain ⟨hl, h1⟩ := h
    by_cases hs : simpleI i = true
    · exact snd_simple ctx hd hl h1 hs
    cases i
    case getfield j => exact snd_getfield ctx hd hl h1
    case putfield j => exact snd_putfield ctx hin hd hl h1
    case iaload => exact snd_array ctx hd hl h1 (by simp)
    case iastore => exact snd_array ctx hd hl h1 (by simp)
    case baload => exact snd_array ctx hd hl h1 (by simp)
    case bastore => exact snd_array ctx hd hl h1 (by simp)
    case laload => exact snd_array ctx hd hl h1 (by simp)
    case lastore => exact snd_array ctx hd hl h1 (by simp)
    case aaload => exact snd_array ctx hd hl h1 (by simp)
    case arraylength => exact snd_array ctx hd hl h1 (by simp)
    case ldc j => exact snd_ldc ctx hd hl h1 (Or.inl ⟨_, rfl⟩)
    case ldc_w j => exact snd_ldc ctx hd hl h1 (Or.inr (Or.inl ⟨_, rfl⟩))
    case ldc2_w j => exact snd_ldc ctx hd hl h1 (Or.inr (Or.inr (Or.inl ⟨_, rfl⟩)))
    case getstatic j => exact snd_ldc ctx hd hl h1 (Or.inr (Or.inr (Or.inr ⟨_, rfl⟩)))
    case tableswitch d lo hi offs => exact snd_switch ctx hd h1 (Or.inl ⟨_, _, _, _, rfl⟩)
    case lookupswitch d ps => exact snd_switch ctx hd h1 (Or.inr ⟨_, _, rfl⟩)
    case newarray a => exact snd_newarray ctx hR0 hd hl h1
    case multianewarray j d => exact snd_multi ctx hR0 hd hl h1
    case new j =>
      cases hth : th y pc with
      | none => exact snd_new ctx hR0 hd hl h1 hth
      | some E =>
        obtain rfl : n = 3 := eq_of_beq hl
        simp only [stepI, hth] at h1
        obtain ⟨hcat, hr⟩ := h1
        intro b1 b2 b3
        refine ⟨?_, fun H locs lr hM hlv hS => hE.2.1 E I L S H locs lr pc j st b1 b2 hr hth hd hM hlv.1 hS hcat⟩
        rw [hr]
        simp only [bump]
        omega
    case ireturn =>
      obtain rfl : n = 1 := eq_of_beq hl
      simp only [stepI] at h1
      split at h1
      · rename_i v
        obtain ⟨hty, hr⟩ := h1
        intro b1 b2 b3
        refine ⟨by rw [hr]; exact ⟨Nat.le_refl _, Nat.le_refl _⟩, fun H locs lr hM hlv hS => hE.1 (some (.int v)) I L S H locs lr pc hr hM hS ⟨hd, ?_⟩⟩
        split at hty
        · rename_i ty e1; exact ⟨ty, e1, hty⟩
        · exact hty.elim
      · exact h1.elim
    case lreturn =>
      obtain rfl : n = 1 := eq_of_beq hl
      simp only [stepI] at h1
      split at h1
      · rename_i v
        obtain ⟨hty, hr⟩ := h1
        intro b1 b2 b3
        exact ⟨by rw [hr]; exact ⟨Nat.le_refl _, Nat.le_refl _⟩, fun H locs lr hM hlv hS => hE.1 (some (.long v)) I L S H locs lr pc hr hM hS ⟨hd, hty⟩⟩
      · exact h1.elim
    case return_ =>
      obtain rfl : n = 1 := eq_of_beq hl
      simp only [stepI] at h1
      split at h1
      · obtain ⟨hty, hr⟩ := h1
        intro b1 b2 b3
        exact ⟨by rw [hr]; exact ⟨Nat.le_refl _, Nat.le_refl _⟩, fun H locs lr hM hlv hS => hE.1 none I L S H locs lr pc hr hM hS ⟨hd, hty⟩⟩
      · exact h1.elim
    case invokestatic j =>
      by_cases hsp : sp (mO y) j = 2
      · exact snd_copy ctx hR0 hd hl h1 hsp
      · obtain rfl : n = 3 := eq_of_beq hl
        simp only [stepI, if_neg hsp] at h1
        split at h1
        · rename_i o' j' y' kd nest ps hmk
          obtain ⟨rfl, hlen, hcat, r', hc, hk⟩ := h1
          obtain ⟨a, I', L', S'⟩ := r'
          cases a with
          | inl v => exact snd_callS (r := r) ctx hR hC hmk hd hlen hcat hc hk
          | inr E => exact absurd hk.1 (by decide)
        · exact h1.elim
    case invokespecial j =>
      by_cases hsp : sp (mO y) j = 1
      · exact snd_objinit ctx hR0 hd hl h1 hsp
      · obtain rfl : n = 3 := eq_of_beq hl
        simp only [stepI, if_neg hsp] at h1
        split at h1
        · rename_i o' j' y' kd nest ps hmk
          obtain ⟨rfl, hrc, hlen, hcat, r', hc, hk⟩ := h1
          obtain ⟨a, I', L', S'⟩ := r'
          cases a with
          | inl v => exact snd_callV (r := r) ctx hR hC hmk (Or.inr ⟨rfl, hd⟩) hrc hcat hc hk
          | inr E => exact absurd hk.1 (by decide)
        · exact h1.elim
    case invokevirtual j =>
      by_cases hsp : sp (mO y) j = 3 ∨ sp (mO y) j = 4
      · exact snd_str ctx hR hd hl h1 hsp
      · obtain rfl : n = 3 := eq_of_beq hl
        simp only [stepI, if_neg (fun z => hsp (Or.inl z)), if_neg (fun z => hsp (Or.inr z))] at h1
        split at h1
        · rename_i o' j' y' kd nest ps hmk
          obtain ⟨rfl, hrc, hlen, hcat, r', hc, hk⟩ := h1
          obtain ⟨a, I', L', S'⟩ := r'
          cases a with
          | inl v => exact snd_callV (r := r) ctx hR hC hmk (Or.inl ⟨rfl, hd⟩) hrc hcat hc hk
          | inr E =>
            obtain ⟨-, hE2, hk⟩ := hk
            refine snd_callX (r := r) ctx hR hC hmk hd hrc hcat hc fun b1 b2 b3 => ?_
            cases hh : hn y pc E with
            | none =>
              rw [hh] at hk
              obtain ⟨hO, hr⟩ := hk
              exact ⟨by rw [hr]; exact ⟨Nat.le_refl _, Nat.le_refl _⟩, fun H locs lr rest q ce hM hlv hS z1 z2 z3 => hE.2.2.1 E I' L' S' H locs lr pc rest q ce hr hh hO hM hS z1 z2 z3⟩
            | some q9 =>
              obtain ⟨h9, n9⟩ := q9
              rw [hh] at hk
              obtain ⟨hn9, hk⟩ := hk
              have hk2 := hk b1 b2 (by rw [List.length_set]; exact b3)
              exact ⟨hk2.1, fun H locs lr rest q ce hM hlv hS z1 z2 z3 => hE.2.2.2 E h9 n9 pc _ _ H locs lr ls rest q ce hh hE2 hn9 b3 hlv z1 z2 z3 (fun lr' h' => hk2.2 H locs lr' hM h' hS)⟩
        · exact h1.elim
    all_goals first | exact absurd rfl hs | exact False.elim h1
  · exact h.elim
end Snd
