/-! RULES OF THE SMALL MACHINE, instruction by instruction -/
def evK (d y : Nat) (r : Res) : KK := fun pc ls st I L S => Ev d y pc ls st I L S r
section Rules
variable {d y pc nx : Nat} {ls ls' st : List Value} {I : VI} {L : VL} {S : SW} {r : Res}
theorem e_at {n : Nat} {i : Instr} (h : decode (mB y) pc = .ok (i, n)) (hl : ilen i n = true) : Ev d y pc ls st I L S r ↔ stepI (EvD d) y pc (pc + n) i ls st I L S (evK d y r) r := ev_at h hl
theorem e_iconst {n : Int} {v : Int32} (h : decode (mB y) pc = .ok (.iconst n, 1)) (hx : pc + 1 = nx) (hv : Int32.ofInt n = v) : Ev d y pc ls st I L S r ↔ Ev d y nx ls (.int v :: st) I L S r := by subst hx hv; exact e_at h rfl
theorem e_bipush {n : Int} {v : Int32} (h : decode (mB y) pc = .ok (.bipush n, 2)) (hx : pc + 2 = nx) (hv : (Int8.ofInt n).toInt32 = v) : Ev d y pc ls st I L S r ↔ Ev d y nx ls (.int v :: st) I L S r := by subst hx hv; exact e_at h rfl
theorem e_sipush {n : Int} {v : Int32} (h : decode (mB y) pc = .ok (.sipush n, 3)) (hx : pc + 3 = nx) (hv : (Int16.ofInt n).toInt32 = v) : Ev d y pc ls st I L S r ↔ Ev d y nx ls (.int v :: st) I L S r := by subst hx hv; exact e_at h rfl
theorem e_lconst {n : Fin 2} {v : Int64} (h : decode (mB y) pc = .ok (.lconst n, 1)) (hx : pc + 1 = nx) (hv : Int64.ofNat n.val = v) : Ev d y pc ls st I L S r ↔ Ev d y nx ls (.long v :: st) I L S r := by subst hx hv; exact e_at h rfl
theorem e_ldci {j : Nat} {v : Int32} (h : decode (mB y) pc = .ok (.ldc j, 2)) (hx : pc + 2 = nx) (hv : kc (mO y) j = some (.int v)) : Ev d y pc ls st I L S r ↔ Ev d y nx ls (.int v :: st) I L S r := by subst hx; rw [e_at h rfl]; simp only [stepI, hv]; rfl
theorem e_ldcr {j v : Nat} (h : decode (mB y) pc = .ok (.ldc j, 2)) (hx : pc + 2 = nx) (hv : kc (mO y) j = some (.ref v)) : Ev d y pc ls st I L S r ↔ Ev d y nx ls (.ref v :: st) I L S r := by subst hx; rw [e_at h rfl]; simp only [stepI, hv]; rfl
theorem e_ldcw {j : Nat} {v : Int32} (h : decode (mB y) pc = .ok (.ldc_w j, 3)) (hx : pc + 3 = nx) (hv : kc (mO y) j = some (.int v)) : Ev d y pc ls st I L S r ↔ Ev d y nx ls (.int v :: st) I L S r := by subst hx; rw [e_at h rfl]; simp only [stepI, hv]; rfl
theorem e_ldc2 {j : Nat} {v : Int64} (h : decode (mB y) pc = .ok (.ldc2_w j, 3)) (hx : pc + 3 = nx) (hv : kc (mO y) j = some (.long v)) : Ev d y pc ls st I L S r ↔ Ev d y nx ls (.long v :: st) I L S r := by subst hx; rw [e_at h rfl]; simp only [stepI, hv]; rfl
theorem e_iload_n {k : Fin 4} {x : Int32} (h : decode (mB y) pc = .ok (.iload_n k, 1)) (hx : pc + 1 = nx) (hl : ls[k.val]? = some (.int x)) : Ev d y pc ls st I L S r ↔ Ev d y nx ls (.int x :: st) I L S r := by subst hx; rw [e_at h rfl]; simp only [stepI, hl]; rfl
theorem e_iload {k : Nat} {x : Int32} (h : decode (mB y) pc = .ok (.iload k, 2)) (hx : pc + 2 = nx) (hl : ls[k]? = some (.int x)) : Ev d y pc ls st I L S r ↔ Ev d y nx ls (.int x :: st) I L S r := by subst hx; rw [e_at h rfl]; simp only [stepI, hl]; rfl
theorem e_aload_n {k : Fin 4} {x : Nat} (h : decode (mB y) pc = .ok (.aload_n k, 1)) (hx : pc + 1 = nx) (hl : ls[k.val]? = some (.ref x)) : Ev d y pc ls st I L S r ↔ Ev d y nx ls (.ref x :: st) I L S r := by subst hx; rw [e_at h rfl]; simp only [stepI, hl]; rfl
theorem e_aload {k : Nat} {x : Nat} (h : decode (mB y) pc = .ok (.aload k, 2)) (hx : pc + 2 = nx) (hl : ls[k]? = some (.ref x)) : Ev d y pc ls st I L S r ↔ Ev d y nx ls (.ref x :: st) I L S r := by subst hx; rw [e_at h rfl]; simp only [stepI, hl]; rfl
theorem e_lload_n {k : Fin 4} {x : Int64} (h : decode (mB y) pc = .ok (.lload_n k, 1)) (hx : pc + 1 = nx) (hl : ls[k.val]? = some (.long x)) (hl2 : ls[k.val + 1]? = some (.retAddr 1)) : Ev d y pc ls st I L S r ↔ Ev d y nx ls (.long x :: st) I L S r := by subst hx; rw [e_at h rfl]; simp only [stepI, hl, hl2]; rfl
theorem e_lload {k : Nat} {x : Int64} (h : decode (mB y) pc = .ok (.lload k, 2)) (hx : pc + 2 = nx) (hl : ls[k]? = some (.long x)) (hl2 : ls[k + 1]? = some (.retAddr 1)) : Ev d y pc ls st I L S r ↔ Ev d y nx ls (.long x :: st) I L S r := by subst hx; rw [e_at h rfl]; simp only [stepI, hl, hl2]; rfl
theorem e_istore_n {k : Fin 4} {x : Int32} (h : decode (mB y) pc = .ok (.istore_n k, 1)) (hx : pc + 1 = nx) (hk : k.val < ls.length) (hs : ls.set k.val (.int x) = ls') : Ev d y pc ls (.int x :: st) I L S r ↔ Ev d y nx ls' st I L S r := by subst hx hs; rw [e_at h rfl]; exact ⟨fun q => q.2, fun q => ⟨hk, q⟩⟩
theorem e_istore {k : Nat} {x : Int32} (h : decode (mB y) pc = .ok (.istore k, 2)) (hx : pc + 2 = nx) (hk : k < ls.length) (hs : ls.set k (.int x) = ls') : Ev d y pc ls (.int x :: st) I L S r ↔ Ev d y nx ls' st I L S r := by subst hx hs; rw [e_at h rfl]; exact ⟨fun q => q.2, fun q => ⟨hk, q⟩⟩
theorem e_astore_n {k : Fin 4} {x : Nat} (h : decode (mB y) pc = .ok (.astore_n k, 1)) (hx : pc + 1 = nx) (hk : k.val < ls.length) (hs : ls.set k.val (.ref x) = ls') : Ev d y pc ls (.ref x :: st) I L S r ↔ Ev d y nx ls' st I L S r := by subst hx hs; rw [e_at h rfl]; exact ⟨fun q => q.2, fun q => ⟨hk, q⟩⟩
theorem e_astore {k : Nat} {x : Nat} (h : decode (mB y) pc = .ok (.astore k, 2)) (hx : pc + 2 = nx) (hk : k < ls.length) (hs : ls.set k (.ref x) = ls') : Ev d y pc ls (.ref x :: st) I L S r ↔ Ev d y nx ls' st I L S r := by subst hx hs; rw [e_at h rfl]; exact ⟨fun q => q.2, fun q => ⟨hk, q⟩⟩
theorem e_lstore_n {k : Fin 4} {x : Int64} (h : decode (mB y) pc = .ok (.lstore_n k, 1)) (hx : pc + 1 = nx) (hk : k.val + 1 < ls.length) (hs : (ls.set k.val (.long x)).set (k.val + 1) (.retAddr 1) = ls') : Ev d y pc ls (.long x :: st) I L S r ↔ Ev d y nx ls' st I L S r := by subst hx hs; rw [e_at h rfl]; exact ⟨fun q => q.2, fun q => ⟨hk, q⟩⟩
theorem e_lstore {k : Nat} {x : Int64} (h : decode (mB y) pc = .ok (.lstore k, 2)) (hx : pc + 2 = nx) (hk : k + 1 < ls.length) (hs : (ls.set k (.long x)).set (k + 1) (.retAddr 1) = ls') : Ev d y pc ls (.long x :: st) I L S r ↔ Ev d y nx ls' st I L S r := by subst hx hs; rw [e_at h rfl]; exact ⟨fun q => q.2, fun q => ⟨hk, q⟩⟩
theorem e_iinc {k : Nat} {n : Int} {x v : Int32} (h : decode (mB y) pc = .ok (.iinc k n, 3)) (hx : pc + 3 = nx) (hl : ls[k]? = some (.int x)) (hv : Int32.ofInt n = v) (hs : ls.set k (.int (x + v)) = ls') : Ev d y pc ls st I L S r ↔ Ev d y nx ls' st I L S r := by subst hx hv hs; rw [e_at h rfl]; simp only [stepI, hl]; rfl
theorem e_iadd {a b : Int32} (h : decode (mB y) pc = .ok (.iadd, 1)) (hx : pc + 1 = nx) : Ev d y pc ls (.int b :: .int a :: st) I L S r ↔ Ev d y nx ls (.int (a + b) :: st) I L S r := by subst hx; exact e_at h rfl
theorem e_isub {a b : Int32} (h : decode (mB y) pc = .ok (.isub, 1)) (hx : pc + 1 = nx) : Ev d y pc ls (.int b :: .int a :: st) I L S r ↔ Ev d y nx ls (.int (a - b) :: st) I L S r := by subst hx; exact e_at h rfl
theorem e_imul {a b : Int32} (h : decode (mB y) pc = .ok (.imul, 1)) (hx : pc + 1 = nx) : Ev d y pc ls (.int b :: .int a :: st) I L S r ↔ Ev d y nx ls (.int (a * b) :: st) I L S r := by subst hx; exact e_at h rfl
theorem e_idiv {a b : Int32} (h : decode (mB y) pc = .ok (.idiv, 1)) (hx : pc + 1 = nx) : Ev d y pc ls (.int b :: .int a :: st) I L S r ↔ (¬ b = 0 ∧ Ev d y nx ls (.int (a / b) :: st) I L S r) := by subst hx; exact e_at h rfl
theorem e_irem {a b : Int32} (h : decode (mB y) pc = .ok (.irem, 1)) (hx : pc + 1 = nx) : Ev d y pc ls (.int b :: .int a :: st) I L S r ↔ (¬ b = 0 ∧ Ev d y nx ls (.int (a - a / b * b) :: st) I L S r) := by subst hx; exact e_at h rfl
theorem e_ineg {a : Int32} (h : decode (mB y) pc = .ok (.ineg, 1)) (hx : pc + 1 = nx) : Ev d y pc ls (.int a :: st) I L S r ↔ Ev d y nx ls (.int (-a) :: st) I L S r := by subst hx; exact e_at h rfl
theorem e_iand {a b : Int32} (h : decode (mB y) pc = .ok (.iand, 1)) (hx : pc + 1 = nx) : Ev d y pc ls (.int b :: .int a :: st) I L S r ↔ Ev d y nx ls (.int (a &&& b) :: st) I L S r := by subst hx; exact e_at h rfl
theorem e_ior {a b : Int32} (h : decode (mB y) pc = .ok (.ior, 1)) (hx : pc + 1 = nx) : Ev d y pc ls (.int b :: .int a :: st) I L S r ↔ Ev d y nx ls (.int (a ||| b) :: st) I L S r := by subst hx; exact e_at h rfl
theorem e_ixor {a b : Int32} (h : decode (mB y) pc = .ok (.ixor, 1)) (hx : pc + 1 = nx) : Ev d y pc ls (.int b :: .int a :: st) I L S r ↔ Ev d y nx ls (.int (a ^^^ b) :: st) I L S r := by subst hx; exact e_at h rfl
theorem e_ishl {a b : Int32} (h : decode (mB y) pc = .ok (.ishl, 1)) (hx : pc + 1 = nx) : Ev d y pc ls (.int b :: .int a :: st) I L S r ↔ Ev d y nx ls (.int (a <<< (b &&& 31)) :: st) I L S r := by subst hx; exact e_at h rfl
theorem e_ishr {a b : Int32} (h : decode (mB y) pc = .ok (.ishr, 1)) (hx : pc + 1 = nx) : Ev d y pc ls (.int b :: .int a :: st) I L S r ↔ Ev d y nx ls (.int (a >>> (b &&& 31)) :: st) I L S r := by subst hx; exact e_at h rfl
/-- a shift that brings zeros -/
def ushr (a b : Int32) : Int32 := (a.toUInt32 >>> (b.toUInt32 &&& Int32.toUInt32 31)).toInt32
theorem e_iushr {a b : Int32} (h : decode (mB y) pc = .ok (.iushr, 1)) (hx : pc + 1 = nx) : Ev d y pc ls (.int b :: .int a :: st) I L S r ↔ Ev d y nx ls (.int (ushr a b) :: st) I L S r := by subst hx; exact e_at h rfl
theorem e_ladd {a b : Int64} (h : decode (mB y) pc = .ok (.ladd, 1)) (hx : pc + 1 = nx) : Ev d y pc ls (.long b :: .long a :: st) I L S r ↔ Ev d y nx ls (.long (a + b) :: st) I L S r := by subst hx; exact e_at h rfl
theorem e_lmul {a b : Int64} (h : decode (mB y) pc = .ok (.lmul, 1)) (hx : pc + 1 = nx) : Ev d y pc ls (.long b :: .long a :: st) I L S r ↔ Ev d y nx ls (.long (a * b) :: st) I L S r := by subst hx; exact e_at h rfl
theorem e_ldiv {a b : Int64} (h : decode (mB y) pc = .ok (.ldiv, 1)) (hx : pc + 1 = nx) : Ev d y pc ls (.long b :: .long a :: st) I L S r ↔ (¬ b = 0 ∧ Ev d y nx ls (.long (a / b) :: st) I L S r) := by subst hx; exact e_at h rfl
theorem e_lrem {a b : Int64} (h : decode (mB y) pc = .ok (.lrem, 1)) (hx : pc + 1 = nx) : Ev d y pc ls (.long b :: .long a :: st) I L S r ↔ (¬ b = 0 ∧ Ev d y nx ls (.long (a - a / b * b) :: st) I L S r) := by subst hx; exact e_at h rfl
theorem e_lshl {a : Int64} {b : Int32} (h : decode (mB y) pc = .ok (.lshl, 1)) (hx : pc + 1 = nx) : Ev d y pc ls (.int b :: .long a :: st) I L S r ↔ Ev d y nx ls (.long (a <<< (b.toInt64 &&& 63)) :: st) I L S r := by subst hx; exact e_at h rfl
theorem e_lcmp {a b : Int64} (h : decode (mB y) pc = .ok (.lcmp, 1)) (hx : pc + 1 = nx) : Ev d y pc ls (.long b :: .long a :: st) I L S r ↔ Ev d y nx ls (.int (lg_cmp a b) :: st) I L S r := by subst hx; exact e_at h rfl
theorem e_i2l {a : Int32} (h : decode (mB y) pc = .ok (.i2l, 1)) (hx : pc + 1 = nx) : Ev d y pc ls (.int a :: st) I L S r ↔ Ev d y nx ls (.long a.toInt64 :: st) I L S r := by subst hx; exact e_at h rfl
theorem e_i2b {a : Int32} (h : decode (mB y) pc = .ok (.i2b, 1)) (hx : pc + 1 = nx) : Ev d y pc ls (.int a :: st) I L S r ↔ Ev d y nx ls (.int a.toInt8.toInt32 :: st) I L S r := by subst hx; exact e_at h rfl
theorem e_dupi {a : Int32} (h : decode (mB y) pc = .ok (.dup, 1)) (hx : pc + 1 = nx) : Ev d y pc ls (.int a :: st) I L S r ↔ Ev d y nx ls (.int a :: .int a :: st) I L S r := by subst hx; rw [e_at h rfl]; exact ⟨fun q => q.2, fun q => ⟨rfl, q⟩⟩
theorem e_dupr {a : Nat} (h : decode (mB y) pc = .ok (.dup, 1)) (hx : pc + 1 = nx) : Ev d y pc ls (.ref a :: st) I L S r ↔ Ev d y nx ls (.ref a :: .ref a :: st) I L S r := by subst hx; rw [e_at h rfl]; exact ⟨fun q => q.2, fun q => ⟨rfl, q⟩⟩
theorem e_popi {a : Int32} (h : decode (mB y) pc = .ok (.pop, 1)) (hx : pc + 1 = nx) : Ev d y pc ls (.int a :: st) I L S r ↔ Ev d y nx ls st I L S r := by subst hx; rw [e_at h rfl]; exact ⟨fun q => q.2, fun q => ⟨rfl, q⟩⟩
theorem e_dup2 {a : Int32} {b : Nat} (h : decode (mB y) pc = .ok (.dup2, 1)) (hx : pc + 1 = nx) : Ev d y pc ls (.int a :: .ref b :: st) I L S r ↔ Ev d y nx ls (.int a :: .ref b :: .int a :: .ref b :: st) I L S r := by subst hx; rw [e_at h rfl]; exact ⟨fun q => q.2.2, fun q => ⟨rfl, rfl, q⟩⟩
theorem e_goto {o : Int} (h : decode (mB y) pc = .ok (.goto o, 3)) (hx : tgt pc o = nx) (h0 : 0 ≤ (pc : Int) + o) : Ev d y pc ls st I L S r ↔ Ev d y nx ls st I L S r := by subst hx; rw [e_at h rfl]; exact ⟨fun q => q.2, fun q => ⟨h0, q⟩⟩
theorem e_if {c : ClassFile.Cond} {o : Int} {a : Int32} {tx : Nat} (h : decode (mB y) pc = .ok (.ifCond c o, 3)) (ht : tgt pc o = tx) (hx : pc + 3 = nx) (h0 : 0 ≤ (pc : Int) + o) : Ev d y pc ls (.int a :: st) I L S r ↔ brR c a 0 (Ev d y tx ls st I L S r) (Ev d y nx ls st I L S r) := by subst hx ht; rw [e_at h rfl]; exact ⟨fun q => q.2, fun q => ⟨h0, q⟩⟩
theorem e_icmp {c : ClassFile.Cond} {o : Int} {a b : Int32} {tx : Nat} (h : decode (mB y) pc = .ok (.if_icmp c o, 3)) (ht : tgt pc o = tx) (hx : pc + 3 = nx) (h0 : 0 ≤ (pc : Int) + o) : Ev d y pc ls (.int b :: .int a :: st) I L S r ↔ brR c a b (Ev d y tx ls st I L S r) (Ev d y nx ls st I L S r) := by subst hx ht; rw [e_at h rfl]; exact ⟨fun q => q.2, fun q => ⟨h0, q⟩⟩
theorem e_getI {j ci f o' j' ne po k : Nat} (h : decode (mB y) pc = .ok (.getfield j, 3)) (hx : pc + 3 = nx) (hf : fk (mO y) j = some (o', j', ci, f, 0, ne, po)) : Ev d y pc ls (.ref k :: st) I L S r ↔ (tagW S.1 k = ci ∧ Ev d y nx ls (.int (I k f) :: st) I L S r) := by subst hx; rw [e_at h rfl]; simp only [stepI, hf]; rfl
theorem e_getR {j ci f o' j' ne po k : Nat} (h : decode (mB y) pc = .ok (.getfield j, 3)) (hx : pc + 3 = nx) (hf : fk (mO y) j = some (o', j', ci, f, 1, ne, po)) : Ev d y pc ls (.ref k :: st) I L S r ↔ (tagW S.1 k = ci ∧ Ev d y nx ls (rv (refW S.1 k f) :: st) I L S r) := by subst hx; rw [e_at h rfl]; simp only [stepI, hf]; rfl
theorem e_putI {j ci f o' j' ne po k : Nat} {x : Int32} (h : decode (mB y) pc = .ok (.putfield j, 3)) (hx : pc + 3 = nx) (hf : fk (mO y) j = some (o', j', ci, f, 0, ne, po)) : Ev d y pc ls (.int x :: .ref k :: st) I L S r ↔ (tagW S.1 k = ci ∧ 16 ≤ k ∧ Ev d y nx ls st (u2 I k f x) L S r) := by subst hx; rw [e_at h rfl]; simp only [stepI, hf]; exact ⟨fun q => ⟨q.1, q.2.2⟩, fun q => ⟨q.1, trivial, q.2⟩⟩
theorem e_putR {j ci f o' j' po k a : Nat} (h : decode (mB y) pc = .ok (.putfield j, 3)) (hx : pc + 3 = nx) (hf : fk (mO y) j = some (o', j', ci, f, 1, 0, po)) (hn : (mY y).name = "<init>") (ho : mO y = ci) : Ev d y pc ls (.ref a :: .ref k :: st) I L S r ↔ (tagW S.1 k = ci ∧ 16 ≤ k ∧ a ≠ 0 ∧ a < S.1.length ∧ Ev d y nx ls st I L (setR S k f a) r) := by
  subst hx; rw [e_at h rfl]; simp only [stepI, hf]; exact ⟨fun q => ⟨q.1, q.2.2.2.1, q.2.2.2.2.1, q.2.2.2.2.2.1, q.2.2.2.2.2.2.2.2⟩, fun q => ⟨q.1, by simp, trivial, q.2.1, q.2.2.1, q.2.2.2.1, hn, ho, q.2.2.2.2⟩⟩
theorem e_iald {j : Int32} {k : Nat} (h : decode (mB y) pc = .ok (.iaload, 1)) (hx : pc + 1 = nx) : Ev d y pc ls (.int j :: .ref k :: st) I L S r ↔ (tagW S.1 k = 100 ∧ vp_in j (lenW S.1 k) ∧ Ev d y nx ls (.int (I k j.toNatClampNeg) :: st) I L S r) := by subst hx; exact e_at h rfl
theorem e_iast {j x : Int32} {k : Nat} (h : decode (mB y) pc = .ok (.iastore, 1)) (hx : pc + 1 = nx) : Ev d y pc ls (.int x :: .int j :: .ref k :: st) I L S r ↔ (tagW S.1 k = 100 ∧ 16 ≤ k ∧ vp_in j (lenW S.1 k) ∧ Ev d y nx ls st (u2 I k j.toNatClampNeg x) L S r) := by subst hx; exact e_at h rfl
theorem e_bald {j : Int32} {k : Nat} (h : decode (mB y) pc = .ok (.baload, 1)) (hx : pc + 1 = nx) : Ev d y pc ls (.int j :: .ref k :: st) I L S r ↔ (tagW S.1 k = 101 ∧ 16 ≤ k ∧ vp_in j (lenW S.1 k) ∧ Ev d y nx ls (.int (I k j.toNatClampNeg) :: st) I L S r) := by subst hx; exact e_at h rfl
theorem e_bast {j x : Int32} {k : Nat} (h : decode (mB y) pc = .ok (.bastore, 1)) (hx : pc + 1 = nx) : Ev d y pc ls (.int x :: .int j :: .ref k :: st) I L S r ↔ (tagW S.1 k = 101 ∧ 16 ≤ k ∧ vp_in j (lenW S.1 k) ∧ Ev d y nx ls st (u2 I k j.toNatClampNeg x.toInt8.toInt32) L S r) := by subst hx; exact e_at h rfl
theorem e_lald {j : Int32} {k : Nat} (h : decode (mB y) pc = .ok (.laload, 1)) (hx : pc + 1 = nx) : Ev d y pc ls (.int j :: .ref k :: st) I L S r ↔ (tagW S.1 k = 102 ∧ 16 ≤ k ∧ vp_in j (lenW S.1 k) ∧ Ev d y nx ls (.long (L k j.toNatClampNeg) :: st) I L S r) := by subst hx; exact e_at h rfl
theorem e_last {j : Int32} {x : Int64} {k : Nat} (h : decode (mB y) pc = .ok (.lastore, 1)) (hx : pc + 1 = nx) : Ev d y pc ls (.long x :: .int j :: .ref k :: st) I L S r ↔ (tagW S.1 k = 102 ∧ 16 ≤ k ∧ vp_in j (lenW S.1 k) ∧ Ev d y nx ls st I (uL L k j.toNatClampNeg x) S r) := by subst hx; exact e_at h rfl
theorem e_aald {j : Int32} {k : Nat} (h : decode (mB y) pc = .ok (.aaload, 1)) (hx : pc + 1 = nx) : Ev d y pc ls (.int j :: .ref k :: st) I L S r ↔ (tagW S.1 k = 103 ∧ 16 ≤ k ∧ vp_in j (lenW S.1 k) ∧ Ev d y nx ls (rv (refW S.1 k j.toNatClampNeg) :: st) I L S r) := by subst hx; exact e_at h rfl
theorem e_alen {k : Nat} (h : decode (mB y) pc = .ok (.arraylength, 1)) (hx : pc + 1 = nx) : Ev d y pc ls (.ref k :: st) I L S r ↔ ((100 ≤ tagW S.1 k ∧ tagW S.1 k ≤ 103) ∧ Ev d y nx ls (.int (Int32.ofNat (lenW S.1 k)) :: st) I L S r) := by subst hx; exact e_at h rfl
theorem e_usual (h : decode (mB y) pc = .ok (.getstatic 22, 3)) (hx : pc + 3 = nx) (ho : mO y = 1) : Ev d y pc ls st I L S r ↔ Ev d y nx ls (.ref 2 :: st) I L S r := by subst hx; rw [e_at h rfl]; exact ⟨fun q => q.2.2, fun q => ⟨ho, rfl, q⟩⟩
theorem e_throw {j E : Nat} (h : decode (mB y) pc = .ok (.new j, 3)) (ht : th y pc = some E) : Ev d y pc ls st I L S r ↔ (catS st ≤ 8 ∧ r = (.inr E, I, L, bump S)) := by rw [e_at h rfl]; simp only [stepI, ht]
theorem e_new {j ci n : Nat} (h : decode (mB y) pc = .ok (.new j, 3)) (hx : pc + 3 = nx) (ht : th y pc = none) (hc : ck (mO y) j = some (ci, n)) : Ev d y pc ls st I L S r ↔ (S.2.1 = true ∧ Ev d y nx ls (.ref S.1.length :: st) (zI I S.1.length) L (grow S (ci, n, List.replicate n 0) n) r) := by subst hx; rw [e_at h rfl]; simp only [stepI, ht, hc]; rfl
theorem e_newa {a : ArrayType} {n : Int32} (h : decode (mB y) pc = .ok (.newarray a, 2)) (hx : pc + 2 = nx) : Ev d y pc ls (.int n :: st) I L S r ↔ (S.2.1 = true ∧ ¬ n < 0 ∧ n.toNatClampNeg ≤ 60000000 ∧ atTag a < 103 ∧ Ev d y nx ls (.ref S.1.length :: st) (zI I S.1.length) (zL L S.1.length) (grow S (atTag a, n.toNatClampNeg, []) n.toNatClampNeg) r) := by subst hx; exact e_at h rfl
theorem e_multi {m n : Int32} (h : decode (mB y) pc = .ok (.multianewarray 29 2, 4)) (hx : pc + 4 = nx) (ho : mO y = 11) : Ev d y pc ls (.int m :: .int n :: st) I L S r ↔ (S.2.1 = true ∧ ¬ n < 0 ∧ ¬ m < 0 ∧ n.toNatClampNeg ≤ 60000 ∧ m.toNatClampNeg ≤ 60000 ∧ Ev d y nx ls (.ref S.1.length :: st) (zIs I S.1.length (n.toNatClampNeg + 1)) L (growM S n.toNatClampNeg m.toNatClampNeg) r) := by subst hx; rw [e_at h rfl]; exact ⟨fun q => q.2.2.2, fun q => ⟨rfl, ho, rfl, q⟩⟩
theorem e_copy {j : Nat} {n dp s0 : Int32} {a b : Nat} (h : decode (mB y) pc = .ok (.invokestatic j, 3)) (hx : pc + 3 = nx) (hsp : sp (mO y) j = 2) : Ev d y pc ls (.int n :: .int dp :: .ref b :: .int s0 :: .ref a :: st) I L S r ↔ ((tagW S.1 a = 100 ∧ (16 ≤ a ∨ a = 2)) ∧ (tagW S.1 b = 100 ∧ 16 ≤ b) ∧ catS st ≤ 8 ∧ (¬ s0 < 0 ∧ ¬ dp < 0 ∧ ¬ n < 0) ∧ s0.toNatClampNeg + n.toNatClampNeg ≤ lenW S.1 a ∧ dp.toNatClampNeg + n.toNatClampNeg ≤ lenW S.1 b ∧ Ev d y nx ls st (cpI I a s0.toNatClampNeg b dp.toNatClampNeg n.toNatClampNeg) L S r) := by subst hx; rw [e_at h rfl]; simp only [stepI, if_pos hsp]; rfl
theorem e_slen {j k : Nat} (h : decode (mB y) pc = .ok (.invokevirtual j, 3)) (hx : pc + 3 = nx) (hsp : sp (mO y) j = 3) : Ev d y pc ls (.ref k :: st) I L S r ↔ ((3 ≤ k ∧ k < 6) ∧ catS st ≤ 8 ∧ Ev d y nx ls (.int (Int32.ofNat (tx k).length) :: st) I L S r) := by subst hx; rw [e_at h rfl]; simp only [stepI, if_pos hsp]; rfl
theorem e_sat {j k : Nat} {i : Int32} (h : decode (mB y) pc = .ok (.invokevirtual j, 3)) (hx : pc + 3 = nx) (hsp : sp (mO y) j = 4) : Ev d y pc ls (.int i :: .ref k :: st) I L S r ↔ ((3 ≤ k ∧ k < 6) ∧ catS st ≤ 8 ∧ vp_in i (tx k).length ∧ Ev d y nx ls (.int ((tx k).getD i.toNatClampNeg 0) :: st) I L S r) := by subst hx; rw [e_at h rfl]; simp only [stepI, hsp]; rfl
theorem e_oini {j k : Nat} (h : decode (mB y) pc = .ok (.invokespecial j, 3)) (hx : pc + 3 = nx) (hsp : sp (mO y) j = 1) : Ev d y pc ls (.ref k :: st) I L S r ↔ (catS st ≤ 8 ∧ tagW S.1 k < 12 ∧ Ev d y nx ls st I L S r) := by subst hx; rw [e_at h rfl]; simp only [stepI, if_pos hsp]; rfl
theorem e_callV {j b y' o' j' ne P O : Nat} {ps : List Nat} {top as : List Value} (h : decode (mB y) pc = .ok (.invokevirtual j, 3)) (hx : pc + 3 = nx) (hs3 : ¬ sp (mO y) j = 3) (hs4 : ¬ sp (mO y) j = 4) (hmk : mk (mO y) j = some (o', j', y', 0, ne, ps)) (hP : mP y' = top.length) (hO : mO y' = O) (has : top.reverse = as) :
    Ev d y pc ls (top ++ .ref b :: st) I L S r ↔ (tagW S.1 b = O ∧ catS st ≤ 8 ∧ ∃ r', EvD d y' (.ref b :: as) I L S r' ∧ cont true y pc nx ls st (evK d y r) r r') := by
  subst hx hO has
  rw [e_at h rfl]
  simp only [stepI, if_neg hs3, if_neg hs4, hmk, callR]
  have t := take_top (rest := st) (v := Value.ref b) (P := mP y') hP.symm
  rw [t.1, t.2]
  have e1 : (top ++ Value.ref b :: st)[mP y']? = some (.ref b) := by rw [hP]; simp
  constructor
  · rintro ⟨-, ⟨b', hb1, hb2⟩, -, h3, h4⟩
    rw [e1] at hb1
    cases hb1
    exact ⟨hb2, h3, h4⟩
  · rintro ⟨h1, h2, h3⟩
    exact ⟨trivial, ⟨b, e1, h1⟩, by simp; omega, h2, h3⟩
theorem e_callI {j b y' o' j' ne P O : Nat} {ps : List Nat} {top as : List Value} (h : decode (mB y) pc = .ok (.invokespecial j, 3)) (hx : pc + 3 = nx) (hs1 : ¬ sp (mO y) j = 1) (hmk : mk (mO y) j = some (o', j', y', 1, ne, ps)) (hP : mP y' = top.length) (hO : mO y' = O) (has : top.reverse = as) :
    Ev d y pc ls (top ++ .ref b :: st) I L S r ↔ (tagW S.1 b = O ∧ catS st ≤ 8 ∧ ∃ r', EvD d y' (.ref b :: as) I L S r' ∧ cont false y pc nx ls st (evK d y r) r r') := by
  subst hx hO has
  rw [e_at h rfl]
  simp only [stepI, if_neg hs1, hmk, callR]
  have t := take_top (rest := st) (v := Value.ref b) (P := mP y') hP.symm
  rw [t.1, t.2]
  have e1 : (top ++ Value.ref b :: st)[mP y']? = some (.ref b) := by rw [hP]; simp
  constructor
  · rintro ⟨-, ⟨b', hb1, hb2⟩, -, h3, h4⟩
    rw [e1] at hb1
    cases hb1
    exact ⟨hb2, h3, h4⟩
  · rintro ⟨h1, h2, h3⟩
    exact ⟨trivial, ⟨b, e1, h1⟩, by simp; omega, h2, h3⟩
theorem e_callS {j y' o' j' ne : Nat} {ps : List Nat} {top as : List Value} (h : decode (mB y) pc = .ok (.invokestatic j, 3)) (hx : pc + 3 = nx) (hs2 : ¬ sp (mO y) j = 2) (hmk : mk (mO y) j = some (o', j', y', 2, ne, ps)) (hP : mP y' = top.length) (has : top.reverse = as) :
    Ev d y pc ls (top ++ st) I L S r ↔ (catS st ≤ 8 ∧ ∃ r', EvD d y' as I L S r' ∧ cont false y pc nx ls st (evK d y r) r r') := by
  subst hx has
  rw [e_at h rfl]
  simp only [stepI, if_neg hs2, hmk, callR, hP]
  rw [List.take_left' rfl, List.drop_left' rfl]
  constructor
  · rintro ⟨-, -, h3, h4⟩
    exact ⟨h3, h4⟩
  · rintro ⟨h2, h3⟩
    exact ⟨trivial, by simp, h2, h3⟩
theorem e_ireti {v : Int32} (h : decode (mB y) pc = .ok (.ireturn, 1)) (hr : mR y = some .int) : Ev d y pc ls [.int v] I L S r ↔ r = (.inl (some (.int v)), I, L, S) := by rw [e_at h rfl]; simp only [stepI, hr]; exact ⟨fun q => q.2, fun q => ⟨rfl, q⟩⟩
theorem e_iretz {v : Int32} (h : decode (mB y) pc = .ok (.ireturn, 1)) (hr : mR y = some .boolean) : Ev d y pc ls [.int v] I L S r ↔ (narrow .boolean (.int v) = .int v ∧ r = (.inl (some (.int v)), I, L, S)) := by rw [e_at h rfl]; simp only [stepI, hr]
theorem e_lret {v : Int64} (h : decode (mB y) pc = .ok (.lreturn, 1)) (hr : mR y = some .long) : Ev d y pc ls [.long v] I L S r ↔ r = (.inl (some (.long v)), I, L, S) := by rw [e_at h rfl]; simp only [stepI, hr]; exact ⟨fun q => q.2, fun q => ⟨trivial, q⟩⟩
theorem e_ret (h : decode (mB y) pc = .ok (.return_, 1)) (hr : mR y = none) : Ev d y pc ls [] I L S r ↔ r = (.inl none, I, L, S) := by rw [e_at h rfl]; simp only [stepI, hr]; exact ⟨fun q => q.2, fun q => ⟨trivial, q⟩⟩
theorem cont_v {vt : Bool} {r : Res} {v : Value} : cont vt y pc nx ls st (evK d y r) r (.inl (some v), I, L, S) ↔ Ev d y nx ls (v :: st) I L S r := Iff.rfl
theorem cont_n {vt : Bool} {r : Res} : cont vt y pc nx ls st (evK d y r) r (.inl none, I, L, S) ↔ Ev d y nx ls st I L S r := Iff.rfl
end Rules
theorem ev_in {d y : Nat} {as : List Value} {I : VI} {L : VL} {S : SW} {r : Res} (n : Nat) (hn : mL y = as.length + n) (hc : catS as = as.length) : EvD (d + 1) y as I L S r ↔ Ev d y 0 (as ++ List.replicate n (.retAddr 0)) [] I L S r := by
  have e1 : mL y - as.length = n := by omega
  constructor
  · rintro ⟨-, -, h⟩
    rw [e1] at h
    exact h
  · intro h
    refine ⟨by omega, hc, ?_⟩
    rw [e1]
    exact h
