/-! THE JUDGEMENT: G E cl sl ad dm a b r pc lo st: the machine, at pc with locals lo and stack st, the world as ad dm a b r say, comes to a state with E's Q. E: the machine, the method's frame, its end. -/
abbrev EX : Type := Program × Launch × Env × Room × State × MethodId × Array Value × List Frame × Method × Code
abbrev EN : Type := GM × Nat × EX × Nat × (State → Prop)
abbrev eG (E : EN) : GM := E.1
abbrev eB (E : EN) : Nat := E.2.1
abbrev eL (E : EN) : Launch := E.2.2.1.2.1
abbrev eR (E : EN) : Room := E.2.2.1.2.2.2.1
abbrev eS (E : EN) : State := E.2.2.1.2.2.2.2.1
abbrev eM (E : EN) : MethodId := E.2.2.1.2.2.2.2.2.1
abbrev eA (E : EN) : Array Value := E.2.2.1.2.2.2.2.2.2.1
abbrev eW (E : EN) : List Frame := E.2.2.1.2.2.2.2.2.2.2.1
abbrev eH (E : EN) : Method := E.2.2.1.2.2.2.2.2.2.2.2.1
abbrev eC (E : EN) : Code := E.2.2.1.2.2.2.2.2.2.2.2.2
abbrev eN (E : EN) : Nat := E.2.2.2.1
abbrev eQ (E : EN) : State → Prop := E.2.2.2.2
abbrev WW (E : EN) (H : Heap) (locs : List Loc) (cl sl : Nat) (f : JFrame) : Prop := W E.2.2.1.1 (eL E) E.2.2.1.2.2.1 (eR E) (eS E) (eM E) (eA E) (eW E) (eH E) (eC E) H locs cl sl (eQ E) f
def las : Nat → List (Option Value) → List (Nat × Value)
  | _, [] => []
  | k, none :: t => las (k + 1) t
  | k, some v :: t => (k, v) :: las (k + 1) t
theorem las_mem : ∀ (lo : List (Option Value)) (k i : Nat) (v : Value), lo[i]? = some (some v) → (k + i, v) ∈ las k lo
  | [], _, i, v, h => by simp at h
  | none :: t, k, 0, v, h => by simp at h
  | some w :: t, k, 0, v, h => by
    simp at h
    subst h
    simp [las]
  | none :: t, k, i + 1, v, h => by
    have h1 := las_mem t (k + 1) i v (by simpa using h)
    rw [show k + 1 + i = k + (i + 1) by omega] at h1
    exact h1
  | some w :: t, k, i + 1, v, h => by
    have h1 := las_mem t (k + 1) i v (by simpa using h)
    rw [show k + 1 + i = k + (i + 1) by omega] at h1
    exact List.mem_cons_of_mem _ h1
theorem las_in : ∀ (lo : List (Option Value)) (k : Nat) (q : Nat × Value), q ∈ las k lo → ∃ i, q.1 = k + i ∧ lo[i]? = some (some q.2)
  | [], _, q, h => by simp [las] at h
  | none :: t, k, q, h => by
    obtain ⟨i, h1, h2⟩ := las_in t (k + 1) q h
    exact ⟨i + 1, by omega, by simpa using h2⟩
  | some w :: t, k, q, h => by
    rcases List.mem_cons.mp h with h | h
    · subst h
      exact ⟨0, rfl, rfl⟩
    · obtain ⟨i, h1, h2⟩ := las_in t (k + 1) q h
      exact ⟨i + 1, by omega, by simpa using h2⟩
def lh (ls : Array Slot) (nL : Nat) (lo : List (Option Value)) : Prop := lv_has ls nL (las 0 lo)
theorem lh_at {ls : Array Slot} {nL : Nat} {lo : List (Option Value)} {i : Nat} {v : Value} (h : lh ls nL lo) (hi : lo[i]? = some (some v)) : ls[i]? = some (.val v) := by
  have h1 := h.2.2 _ (las_mem lo 0 i v hi)
  rwa [Nat.zero_add] at h1
def G (E : EN) (cl sl : Nat) (ad : Nat → Nat) (dm : Nat → Bool) (a : Nat → Nat → Int32) (b : Nat → Nat → Int64) (r : Nat → Nat → Option Nat) (pc : Nat) (lo : List (Option Value)) (st : List Value) : Prop :=
  ∀ (H : Heap) (locs : List Loc) (ls : Array Slot), Wd (eG E) (eB E) ad dm a b r H → va_S (fun q => eB E ≤ q) (eS E).heap H locs → lh ls (eN E) lo → WW E H locs cl sl (F0 (eM E) pc ls st)
/-- the machine, the code, the tables, the room: lev calls deep -/
def CX (E : EN) (cc : ByteArray) (own : String) (lev : Nat) : Prop :=
  E.2.2.1.1.tables.exec = Jvm.exec ∧ (eC E).code = cc ∧ (eC E).maxLocals = eN E ∧ (eS E).vm.findClass own = some (eM E).cls ∧ (∀ w ∈ gd, w.before (eA E) (eS E) = true) ∧ va_K (eG E).1 vwCl (tysG (eG E)) (eS E) ∧ lev ≤ (eR E).frames ∧ 40 * lev ≤ (eR E).locals
section GR
variable {E : EN} {cc : ByteArray} {own : String} {lev cl sl : Nat} {ad : Nat → Nat} {dm : Nat → Bool} {a : Nat → Nat → Int32} {b : Nat → Nat → Int64} {r : Nat → Nat → Option Nat} {pc q : Nat} {lo : List (Option Value)} {rest : List Value}
theorem g_topi {x : Int32} (k : ∀ y : Int32, y = x → G E cl sl ad dm a b r pc lo (.int y :: rest)) : G E cl sl ad dm a b r pc lo (.int x :: rest) := k x rfl
theorem g_topl {x : Int64} (k : ∀ y : Int64, y = x → G E cl sl ad dm a b r pc lo (.long y :: rest)) : G E cl sl ad dm a b r pc lo (.long x :: rest) := k x rfl
theorem g_wide {cl' sl' : Nat} {st : List Value} (h1 : cl ≤ cl') (h2 : sl ≤ sl') (k : G E cl' sl' ad dm a b r pc lo st) : G E cl sl ad dm a b r pc lo st := fun H L ls hW hS hl => W.widen h1 h2 (k H L ls hW hS hl)
theorem g_eqi {x y : Int32} (e : x = y) (k : G E cl sl ad dm a b r pc lo (.int y :: rest)) : G E cl sl ad dm a b r pc lo (.int x :: rest) := e ▸ k
theorem g_lo {lo' : List (Option Value)} {st : List Value} (e : ∀ (i : Nat) (v : Value), lo'[i]? = some (some v) → lo[i]? = some (some v)) (k : G E cl sl ad dm a b r pc lo' st) : G E cl sl ad dm a b r pc lo st := fun H L ls hW hS hl => k H L ls hW hS ⟨hl.1, hl.2.1, fun z hz => by
  obtain ⟨i, h1, h2⟩ := las_in lo' 0 z hz
  have h3 := lh_at hl (e i z.2 h2)
  rw [show z.1 = i by omega]
  exact h3⟩

theorem g_iconst {n : Int} {v : Int32} (C : CX E cc own lev) (d : decode cc pc = .ok (.iconst n, 1)) (hq : pc + 1 = q) (hv : Int32.ofInt n = v) (k : G E cl sl ad dm a b r q lo (.int v :: rest)) : G E cl sl ad dm a b r pc lo (rest) := fun H L ls hW hS hl => lv_iconst C.1 C.2.1 d hv (by subst hq; exact k H L ls hW hS hl)
theorem g_bipush {n : Int} {v : Int32} (C : CX E cc own lev) (d : decode cc pc = .ok (.bipush n, 2)) (hq : pc + 2 = q) (hv : (Int8.ofInt n).toInt32 = v) (k : G E cl sl ad dm a b r q lo (.int v :: rest)) : G E cl sl ad dm a b r pc lo (rest) := fun H L ls hW hS hl => lv_bipush C.1 C.2.1 d hv (by subst hq; exact k H L ls hW hS hl)
theorem g_sipush {n : Int} {v : Int32} (C : CX E cc own lev) (d : decode cc pc = .ok (.sipush n, 3)) (hq : pc + 3 = q) (hv : (Int16.ofInt n).toInt32 = v) (k : G E cl sl ad dm a b r q lo (.int v :: rest)) : G E cl sl ad dm a b r pc lo (rest) := fun H L ls hW hS hl => lv_sipush C.1 C.2.1 d hv (by subst hq; exact k H L ls hW hS hl)
theorem g_lconst {n : Fin 2} {v : Int64} (C : CX E cc own lev) (d : decode cc pc = .ok (.lconst n, 1)) (hq : pc + 1 = q) (hv : Int64.ofNat (n : Nat) = v) (k : G E cl sl ad dm a b r q lo (.long v :: rest)) : G E cl sl ad dm a b r pc lo (rest) := fun H L ls hW hS hl => lv_lconst C.1 C.2.1 d hv (by subst hq; exact k H L ls hW hS hl)
theorem g_null (C : CX E cc own lev) (d : decode cc pc = .ok (.aconst_null, 1)) (hq : pc + 1 = q) (k : G E cl sl ad dm a b r q lo (.null :: rest)) : G E cl sl ad dm a b r pc lo (rest) := fun H L ls hW hS hl => lv_null C.1 C.2.1 d (by subst hq; exact k H L ls hW hS hl)
theorem g_ldc {i : Nat} {v : Int32} (C : CX E cc own lev) (d : decode cc pc = .ok (.ldc i, 2)) (hq : pc + 2 = q) (hg : Cond.constant own i v ∈ gd) (k : G E cl sl ad dm a b r q lo (.int v :: rest)) : G E cl sl ad dm a b r pc lo (rest) := fun H L ls hW hS hl => lv_ldc C.1 C.2.1 C.2.2.2.1 (C.2.2.2.2.1 _ hg) d (by subst hq; exact k H L ls hW hS hl)
theorem g_ldc2 {i : Nat} {v : Int64} (C : CX E cc own lev) (d : decode cc pc = .ok (.ldc2_w i, 3)) (hq : pc + 3 = q) (hg : Cond.constantLong own i v ∈ gd) (k : G E cl sl ad dm a b r q lo (.long v :: rest)) : G E cl sl ad dm a b r pc lo (rest) := fun H L ls hW hS hl => lv_ldc2 C.1 C.2.1 C.2.2.2.1 (C.2.2.2.2.1 _ hg) d (by subst hq; exact k H L ls hW hS hl)
theorem g_iadd {x y : Int32} (C : CX E cc own lev) (d : decode cc pc = .ok (.iadd, 1)) (hq : pc + 1 = q) (k : G E cl sl ad dm a b r q lo (.int (x + y) :: rest)) : G E cl sl ad dm a b r pc lo (.int y :: .int x :: rest) := fun H L ls hW hS hl => lv_iadd C.1 C.2.1 d (by subst hq; exact k H L ls hW hS hl)
theorem g_isub {x y : Int32} (C : CX E cc own lev) (d : decode cc pc = .ok (.isub, 1)) (hq : pc + 1 = q) (k : G E cl sl ad dm a b r q lo (.int (x - y) :: rest)) : G E cl sl ad dm a b r pc lo (.int y :: .int x :: rest) := fun H L ls hW hS hl => lv_isub C.1 C.2.1 d (by subst hq; exact k H L ls hW hS hl)
theorem g_imul {x y : Int32} (C : CX E cc own lev) (d : decode cc pc = .ok (.imul, 1)) (hq : pc + 1 = q) (k : G E cl sl ad dm a b r q lo (.int (x * y) :: rest)) : G E cl sl ad dm a b r pc lo (.int y :: .int x :: rest) := fun H L ls hW hS hl => lv_imul C.1 C.2.1 d (by subst hq; exact k H L ls hW hS hl)
theorem g_iand {x y : Int32} (C : CX E cc own lev) (d : decode cc pc = .ok (.iand, 1)) (hq : pc + 1 = q) (k : G E cl sl ad dm a b r q lo (.int (x &&& y) :: rest)) : G E cl sl ad dm a b r pc lo (.int y :: .int x :: rest) := fun H L ls hW hS hl => lv_iand C.1 C.2.1 d (by subst hq; exact k H L ls hW hS hl)
theorem g_ior {x y : Int32} (C : CX E cc own lev) (d : decode cc pc = .ok (.ior, 1)) (hq : pc + 1 = q) (k : G E cl sl ad dm a b r q lo (.int (x ||| y) :: rest)) : G E cl sl ad dm a b r pc lo (.int y :: .int x :: rest) := fun H L ls hW hS hl => lv_ior C.1 C.2.1 d (by subst hq; exact k H L ls hW hS hl)
theorem g_idiv {x y : Int32} (C : CX E cc own lev) (d : decode cc pc = .ok (.idiv, 1)) (hq : pc + 1 = q) (hn : ¬ y = 0) (k : G E cl sl ad dm a b r q lo (.int (x / y) :: rest)) : G E cl sl ad dm a b r pc lo (.int y :: .int x :: rest) := fun H L ls hW hS hl => lv_idiv C.1 C.2.1 d hn (by subst hq; exact k H L ls hW hS hl)
theorem g_irem {x y : Int32} (C : CX E cc own lev) (d : decode cc pc = .ok (.irem, 1)) (hq : pc + 1 = q) (hn : ¬ y = 0) (k : G E cl sl ad dm a b r q lo (.int (x - x / y * y) :: rest)) : G E cl sl ad dm a b r pc lo (.int y :: .int x :: rest) := fun H L ls hW hS hl => lv_irem C.1 C.2.1 d hn (by subst hq; exact k H L ls hW hS hl)
theorem g_ineg {x : Int32} (C : CX E cc own lev) (d : decode cc pc = .ok (.ineg, 1)) (hq : pc + 1 = q) (k : G E cl sl ad dm a b r q lo (.int (-x) :: rest)) : G E cl sl ad dm a b r pc lo (.int x :: rest) := fun H L ls hW hS hl => lv_ineg C.1 C.2.1 d (by subst hq; exact k H L ls hW hS hl)
theorem g_ladd {x y : Int64} (C : CX E cc own lev) (d : decode cc pc = .ok (.ladd, 1)) (hq : pc + 1 = q) (k : G E cl sl ad dm a b r q lo (.long (x + y) :: rest)) : G E cl sl ad dm a b r pc lo (.long y :: .long x :: rest) := fun H L ls hW hS hl => lv_ladd C.1 C.2.1 d (by subst hq; exact k H L ls hW hS hl)
theorem g_lsub {x y : Int64} (C : CX E cc own lev) (d : decode cc pc = .ok (.lsub, 1)) (hq : pc + 1 = q) (k : G E cl sl ad dm a b r q lo (.long (x - y) :: rest)) : G E cl sl ad dm a b r pc lo (.long y :: .long x :: rest) := fun H L ls hW hS hl => lv_lsub C.1 C.2.1 d (by subst hq; exact k H L ls hW hS hl)
theorem g_lmul {x y : Int64} (C : CX E cc own lev) (d : decode cc pc = .ok (.lmul, 1)) (hq : pc + 1 = q) (k : G E cl sl ad dm a b r q lo (.long (x * y) :: rest)) : G E cl sl ad dm a b r pc lo (.long y :: .long x :: rest) := fun H L ls hW hS hl => lv_lmul C.1 C.2.1 d (by subst hq; exact k H L ls hW hS hl)
theorem g_land {x y : Int64} (C : CX E cc own lev) (d : decode cc pc = .ok (.land, 1)) (hq : pc + 1 = q) (k : G E cl sl ad dm a b r q lo (.long (x &&& y) :: rest)) : G E cl sl ad dm a b r pc lo (.long y :: .long x :: rest) := fun H L ls hW hS hl => lv_land C.1 C.2.1 d (by subst hq; exact k H L ls hW hS hl)
theorem g_dup {v : Value} (C : CX E cc own lev) (d : decode cc pc = .ok (.dup, 1)) (hq : pc + 1 = q) (hv : v.category = 1) (k : G E cl sl ad dm a b r q lo (v :: v :: rest)) : G E cl sl ad dm a b r pc lo (v :: rest) := fun H L ls hW hS hl => lv_dup C.1 C.2.1 d hv (by subst hq; exact k H L ls hW hS hl)
theorem g_pop {v : Value} (C : CX E cc own lev) (d : decode cc pc = .ok (.pop, 1)) (hq : pc + 1 = q) (hv : v.category = 1) (k : G E cl sl ad dm a b r q lo (rest)) : G E cl sl ad dm a b r pc lo (v :: rest) := fun H L ls hW hS hl => lv_pop C.1 C.2.1 d hv (by subst hq; exact k H L ls hW hS hl)
theorem g_dup2 {v w : Value} (C : CX E cc own lev) (d : decode cc pc = .ok (.dup2, 1)) (hq : pc + 1 = q) (hv : v.category = 1) (hw : w.category = 1) (k : G E cl sl ad dm a b r q lo (v :: w :: v :: w :: rest)) : G E cl sl ad dm a b r pc lo (v :: w :: rest) := fun H L ls hW hS hl => lv_dup2_11 C.1 C.2.1 d hv hw (by subst hq; exact k H L ls hW hS hl)
theorem g_i2l {x : Int32} (C : CX E cc own lev) (d : decode cc pc = .ok (.i2l, 1)) (hq : pc + 1 = q) (k : G E cl sl ad dm a b r q lo (.long x.toInt64 :: rest)) : G E cl sl ad dm a b r pc lo (.int x :: rest) := fun H L ls hW hS hl => lv_i2l C.1 C.2.1 d rfl (by subst hq; exact k H L ls hW hS hl)
theorem g_l2i {x : Int64} (C : CX E cc own lev) (d : decode cc pc = .ok (.l2i, 1)) (hq : pc + 1 = q) (k : G E cl sl ad dm a b r q lo (.int x.toInt32 :: rest)) : G E cl sl ad dm a b r pc lo (.long x :: rest) := fun H L ls hW hS hl => lv_l2i C.1 C.2.1 d rfl (by subst hq; exact k H L ls hW hS hl)
theorem g_lcmp {x y : Int64} (C : CX E cc own lev) (d : decode cc pc = .ok (.lcmp, 1)) (hq : pc + 1 = q) (k : G E cl sl ad dm a b r q lo (.int (lg_cmp x y) :: rest)) : G E cl sl ad dm a b r pc lo (.long y :: .long x :: rest) := fun H L ls hW hS hl => W.lcmp C.1 C.2.1 d (by subst hq; exact k H L ls hW hS hl)
theorem g_ishl {x y : Int32} (C : CX E cc own lev) (d : decode cc pc = .ok (.ishl, 1)) (hq : pc + 1 = q) (k : G E cl sl ad dm a b r q lo (.int (x <<< (y &&& 31)) :: rest)) : G E cl sl ad dm a b r pc lo (.int y :: .int x :: rest) := fun H L ls hW hS hl => lv_ishl C.1 C.2.1 d (by subst hq; exact k H L ls hW hS hl)
theorem g_ishr {x y : Int32} (C : CX E cc own lev) (d : decode cc pc = .ok (.ishr, 1)) (hq : pc + 1 = q) (k : G E cl sl ad dm a b r q lo (.int (x >>> (y &&& 31)) :: rest)) : G E cl sl ad dm a b r pc lo (.int y :: .int x :: rest) := fun H L ls hW hS hl => lv_ishr C.1 C.2.1 d (by subst hq; exact k H L ls hW hS hl)
theorem g_lshl {x : Int64} {y : Int32} (C : CX E cc own lev) (d : decode cc pc = .ok (.lshl, 1)) (hq : pc + 1 = q) (k : G E cl sl ad dm a b r q lo (.long (x <<< (y.toInt64 &&& 63)) :: rest)) : G E cl sl ad dm a b r pc lo (.int y :: .long x :: rest) := fun H L ls hW hS hl => lv_lshl C.1 C.2.1 d rfl (by subst hq; exact k H L ls hW hS hl)
theorem g_lshr {x : Int64} {y : Int32} (C : CX E cc own lev) (d : decode cc pc = .ok (.lshr, 1)) (hq : pc + 1 = q) (k : G E cl sl ad dm a b r q lo (.long (x >>> (y.toInt64 &&& 63)) :: rest)) : G E cl sl ad dm a b r pc lo (.int y :: .long x :: rest) := fun H L ls hW hS hl => lv_lshr C.1 C.2.1 d rfl (by subst hq; exact k H L ls hW hS hl)
theorem g_iload_0 {x : Int32} {t : List (Option Value)} (C : CX E cc own lev) (d : decode cc pc = .ok (.iload_n 0, 1)) (hq : pc + 1 = q) (k : G E cl sl ad dm a b r q (some (.int x) :: t) (.int x :: rest)) : G E cl sl ad dm a b r pc (some (.int x) :: t) rest := fun H L ls hW hS hl => lv_iload_n C.1 C.2.1 d rfl (lh_at hl (i := 0) rfl) (by subst hq; exact k H L ls hW hS hl)
theorem g_lload_0 {x : Int64} {t : List (Option Value)} (C : CX E cc own lev) (d : decode cc pc = .ok (.lload_n 0, 1)) (hq : pc + 1 = q) (k : G E cl sl ad dm a b r q (some (.long x) :: t) (.long x :: rest)) : G E cl sl ad dm a b r pc (some (.long x) :: t) rest := fun H L ls hW hS hl => lv_lload_n C.1 C.2.1 d rfl (lh_at hl (i := 0) rfl) (by subst hq; exact k H L ls hW hS hl)
theorem g_aload_0 {x : Nat} {t : List (Option Value)} (C : CX E cc own lev) (d : decode cc pc = .ok (.aload_n 0, 1)) (hq : pc + 1 = q) (k : G E cl sl ad dm a b r q (some (.ref x) :: t) (.ref x :: rest)) : G E cl sl ad dm a b r pc (some (.ref x) :: t) rest := fun H L ls hW hS hl => lv_aload_n C.1 C.2.1 d rfl (lh_at hl (i := 0) rfl) (by subst hq; exact k H L ls hW hS hl)
theorem g_aload_0N {t : List (Option Value)} (C : CX E cc own lev) (d : decode cc pc = .ok (.aload_n 0, 1)) (hq : pc + 1 = q) (k : G E cl sl ad dm a b r q (some .null :: t) (.null :: rest)) : G E cl sl ad dm a b r pc (some .null :: t) rest := fun H L ls hW hS hl => lv_aload_nN C.1 C.2.1 d rfl (lh_at hl (i := 0) rfl) (by subst hq; exact k H L ls hW hS hl)
theorem g_iload_1 {e0 : Option Value} {x : Int32} {t : List (Option Value)} (C : CX E cc own lev) (d : decode cc pc = .ok (.iload_n 1, 1)) (hq : pc + 1 = q) (k : G E cl sl ad dm a b r q (e0 :: some (.int x) :: t) (.int x :: rest)) : G E cl sl ad dm a b r pc (e0 :: some (.int x) :: t) rest := fun H L ls hW hS hl => lv_iload_n C.1 C.2.1 d rfl (lh_at hl (i := 1) rfl) (by subst hq; exact k H L ls hW hS hl)
theorem g_lload_1 {e0 : Option Value} {x : Int64} {t : List (Option Value)} (C : CX E cc own lev) (d : decode cc pc = .ok (.lload_n 1, 1)) (hq : pc + 1 = q) (k : G E cl sl ad dm a b r q (e0 :: some (.long x) :: t) (.long x :: rest)) : G E cl sl ad dm a b r pc (e0 :: some (.long x) :: t) rest := fun H L ls hW hS hl => lv_lload_n C.1 C.2.1 d rfl (lh_at hl (i := 1) rfl) (by subst hq; exact k H L ls hW hS hl)
theorem g_aload_1 {e0 : Option Value} {x : Nat} {t : List (Option Value)} (C : CX E cc own lev) (d : decode cc pc = .ok (.aload_n 1, 1)) (hq : pc + 1 = q) (k : G E cl sl ad dm a b r q (e0 :: some (.ref x) :: t) (.ref x :: rest)) : G E cl sl ad dm a b r pc (e0 :: some (.ref x) :: t) rest := fun H L ls hW hS hl => lv_aload_n C.1 C.2.1 d rfl (lh_at hl (i := 1) rfl) (by subst hq; exact k H L ls hW hS hl)
theorem g_aload_1N {e0 : Option Value} {t : List (Option Value)} (C : CX E cc own lev) (d : decode cc pc = .ok (.aload_n 1, 1)) (hq : pc + 1 = q) (k : G E cl sl ad dm a b r q (e0 :: some .null :: t) (.null :: rest)) : G E cl sl ad dm a b r pc (e0 :: some .null :: t) rest := fun H L ls hW hS hl => lv_aload_nN C.1 C.2.1 d rfl (lh_at hl (i := 1) rfl) (by subst hq; exact k H L ls hW hS hl)
theorem g_iload_2 {e0 e1 : Option Value} {x : Int32} {t : List (Option Value)} (C : CX E cc own lev) (d : decode cc pc = .ok (.iload_n 2, 1)) (hq : pc + 1 = q) (k : G E cl sl ad dm a b r q (e0 :: e1 :: some (.int x) :: t) (.int x :: rest)) : G E cl sl ad dm a b r pc (e0 :: e1 :: some (.int x) :: t) rest := fun H L ls hW hS hl => lv_iload_n C.1 C.2.1 d rfl (lh_at hl (i := 2) rfl) (by subst hq; exact k H L ls hW hS hl)
theorem g_lload_2 {e0 e1 : Option Value} {x : Int64} {t : List (Option Value)} (C : CX E cc own lev) (d : decode cc pc = .ok (.lload_n 2, 1)) (hq : pc + 1 = q) (k : G E cl sl ad dm a b r q (e0 :: e1 :: some (.long x) :: t) (.long x :: rest)) : G E cl sl ad dm a b r pc (e0 :: e1 :: some (.long x) :: t) rest := fun H L ls hW hS hl => lv_lload_n C.1 C.2.1 d rfl (lh_at hl (i := 2) rfl) (by subst hq; exact k H L ls hW hS hl)
theorem g_aload_2 {e0 e1 : Option Value} {x : Nat} {t : List (Option Value)} (C : CX E cc own lev) (d : decode cc pc = .ok (.aload_n 2, 1)) (hq : pc + 1 = q) (k : G E cl sl ad dm a b r q (e0 :: e1 :: some (.ref x) :: t) (.ref x :: rest)) : G E cl sl ad dm a b r pc (e0 :: e1 :: some (.ref x) :: t) rest := fun H L ls hW hS hl => lv_aload_n C.1 C.2.1 d rfl (lh_at hl (i := 2) rfl) (by subst hq; exact k H L ls hW hS hl)
theorem g_aload_2N {e0 e1 : Option Value} {t : List (Option Value)} (C : CX E cc own lev) (d : decode cc pc = .ok (.aload_n 2, 1)) (hq : pc + 1 = q) (k : G E cl sl ad dm a b r q (e0 :: e1 :: some .null :: t) (.null :: rest)) : G E cl sl ad dm a b r pc (e0 :: e1 :: some .null :: t) rest := fun H L ls hW hS hl => lv_aload_nN C.1 C.2.1 d rfl (lh_at hl (i := 2) rfl) (by subst hq; exact k H L ls hW hS hl)
theorem g_iload_3 {e0 e1 e2 : Option Value} {x : Int32} {t : List (Option Value)} (C : CX E cc own lev) (d : decode cc pc = .ok (.iload_n 3, 1)) (hq : pc + 1 = q) (k : G E cl sl ad dm a b r q (e0 :: e1 :: e2 :: some (.int x) :: t) (.int x :: rest)) : G E cl sl ad dm a b r pc (e0 :: e1 :: e2 :: some (.int x) :: t) rest := fun H L ls hW hS hl => lv_iload_n C.1 C.2.1 d rfl (lh_at hl (i := 3) rfl) (by subst hq; exact k H L ls hW hS hl)
theorem g_lload_3 {e0 e1 e2 : Option Value} {x : Int64} {t : List (Option Value)} (C : CX E cc own lev) (d : decode cc pc = .ok (.lload_n 3, 1)) (hq : pc + 1 = q) (k : G E cl sl ad dm a b r q (e0 :: e1 :: e2 :: some (.long x) :: t) (.long x :: rest)) : G E cl sl ad dm a b r pc (e0 :: e1 :: e2 :: some (.long x) :: t) rest := fun H L ls hW hS hl => lv_lload_n C.1 C.2.1 d rfl (lh_at hl (i := 3) rfl) (by subst hq; exact k H L ls hW hS hl)
theorem g_aload_3 {e0 e1 e2 : Option Value} {x : Nat} {t : List (Option Value)} (C : CX E cc own lev) (d : decode cc pc = .ok (.aload_n 3, 1)) (hq : pc + 1 = q) (k : G E cl sl ad dm a b r q (e0 :: e1 :: e2 :: some (.ref x) :: t) (.ref x :: rest)) : G E cl sl ad dm a b r pc (e0 :: e1 :: e2 :: some (.ref x) :: t) rest := fun H L ls hW hS hl => lv_aload_n C.1 C.2.1 d rfl (lh_at hl (i := 3) rfl) (by subst hq; exact k H L ls hW hS hl)
theorem g_aload_3N {e0 e1 e2 : Option Value} {t : List (Option Value)} (C : CX E cc own lev) (d : decode cc pc = .ok (.aload_n 3, 1)) (hq : pc + 1 = q) (k : G E cl sl ad dm a b r q (e0 :: e1 :: e2 :: some .null :: t) (.null :: rest)) : G E cl sl ad dm a b r pc (e0 :: e1 :: e2 :: some .null :: t) rest := fun H L ls hW hS hl => lv_aload_nN C.1 C.2.1 d rfl (lh_at hl (i := 3) rfl) (by subst hq; exact k H L ls hW hS hl)
theorem g_iload_4 {e0 e1 e2 e3 : Option Value} {x : Int32} {t : List (Option Value)} (C : CX E cc own lev) (d : decode cc pc = .ok (.iload 4, 2)) (hq : pc + 2 = q) (k : G E cl sl ad dm a b r q (e0 :: e1 :: e2 :: e3 :: some (.int x) :: t) (.int x :: rest)) : G E cl sl ad dm a b r pc (e0 :: e1 :: e2 :: e3 :: some (.int x) :: t) rest := fun H L ls hW hS hl => lv_iload C.1 C.2.1 d (lh_at hl (i := 4) rfl) (by subst hq; exact k H L ls hW hS hl)
theorem g_lload_4 {e0 e1 e2 e3 : Option Value} {x : Int64} {t : List (Option Value)} (C : CX E cc own lev) (d : decode cc pc = .ok (.lload 4, 2)) (hq : pc + 2 = q) (k : G E cl sl ad dm a b r q (e0 :: e1 :: e2 :: e3 :: some (.long x) :: t) (.long x :: rest)) : G E cl sl ad dm a b r pc (e0 :: e1 :: e2 :: e3 :: some (.long x) :: t) rest := fun H L ls hW hS hl => lv_lload C.1 C.2.1 d (lh_at hl (i := 4) rfl) (by subst hq; exact k H L ls hW hS hl)
theorem g_aload_4 {e0 e1 e2 e3 : Option Value} {x : Nat} {t : List (Option Value)} (C : CX E cc own lev) (d : decode cc pc = .ok (.aload 4, 2)) (hq : pc + 2 = q) (k : G E cl sl ad dm a b r q (e0 :: e1 :: e2 :: e3 :: some (.ref x) :: t) (.ref x :: rest)) : G E cl sl ad dm a b r pc (e0 :: e1 :: e2 :: e3 :: some (.ref x) :: t) rest := fun H L ls hW hS hl => lv_aload C.1 C.2.1 d (lh_at hl (i := 4) rfl) (by subst hq; exact k H L ls hW hS hl)
theorem g_aload_4N {e0 e1 e2 e3 : Option Value} {t : List (Option Value)} (C : CX E cc own lev) (d : decode cc pc = .ok (.aload 4, 2)) (hq : pc + 2 = q) (k : G E cl sl ad dm a b r q (e0 :: e1 :: e2 :: e3 :: some .null :: t) (.null :: rest)) : G E cl sl ad dm a b r pc (e0 :: e1 :: e2 :: e3 :: some .null :: t) rest := fun H L ls hW hS hl => lv_aloadN C.1 C.2.1 d (lh_at hl (i := 4) rfl) (by subst hq; exact k H L ls hW hS hl)
theorem g_iload_5 {e0 e1 e2 e3 e4 : Option Value} {x : Int32} {t : List (Option Value)} (C : CX E cc own lev) (d : decode cc pc = .ok (.iload 5, 2)) (hq : pc + 2 = q) (k : G E cl sl ad dm a b r q (e0 :: e1 :: e2 :: e3 :: e4 :: some (.int x) :: t) (.int x :: rest)) : G E cl sl ad dm a b r pc (e0 :: e1 :: e2 :: e3 :: e4 :: some (.int x) :: t) rest := fun H L ls hW hS hl => lv_iload C.1 C.2.1 d (lh_at hl (i := 5) rfl) (by subst hq; exact k H L ls hW hS hl)
theorem g_lload_5 {e0 e1 e2 e3 e4 : Option Value} {x : Int64} {t : List (Option Value)} (C : CX E cc own lev) (d : decode cc pc = .ok (.lload 5, 2)) (hq : pc + 2 = q) (k : G E cl sl ad dm a b r q (e0 :: e1 :: e2 :: e3 :: e4 :: some (.long x) :: t) (.long x :: rest)) : G E cl sl ad dm a b r pc (e0 :: e1 :: e2 :: e3 :: e4 :: some (.long x) :: t) rest := fun H L ls hW hS hl => lv_lload C.1 C.2.1 d (lh_at hl (i := 5) rfl) (by subst hq; exact k H L ls hW hS hl)
theorem g_aload_5 {e0 e1 e2 e3 e4 : Option Value} {x : Nat} {t : List (Option Value)} (C : CX E cc own lev) (d : decode cc pc = .ok (.aload 5, 2)) (hq : pc + 2 = q) (k : G E cl sl ad dm a b r q (e0 :: e1 :: e2 :: e3 :: e4 :: some (.ref x) :: t) (.ref x :: rest)) : G E cl sl ad dm a b r pc (e0 :: e1 :: e2 :: e3 :: e4 :: some (.ref x) :: t) rest := fun H L ls hW hS hl => lv_aload C.1 C.2.1 d (lh_at hl (i := 5) rfl) (by subst hq; exact k H L ls hW hS hl)
theorem g_aload_5N {e0 e1 e2 e3 e4 : Option Value} {t : List (Option Value)} (C : CX E cc own lev) (d : decode cc pc = .ok (.aload 5, 2)) (hq : pc + 2 = q) (k : G E cl sl ad dm a b r q (e0 :: e1 :: e2 :: e3 :: e4 :: some .null :: t) (.null :: rest)) : G E cl sl ad dm a b r pc (e0 :: e1 :: e2 :: e3 :: e4 :: some .null :: t) rest := fun H L ls hW hS hl => lv_aloadN C.1 C.2.1 d (lh_at hl (i := 5) rfl) (by subst hq; exact k H L ls hW hS hl)
theorem g_iload_6 {e0 e1 e2 e3 e4 e5 : Option Value} {x : Int32} {t : List (Option Value)} (C : CX E cc own lev) (d : decode cc pc = .ok (.iload 6, 2)) (hq : pc + 2 = q) (k : G E cl sl ad dm a b r q (e0 :: e1 :: e2 :: e3 :: e4 :: e5 :: some (.int x) :: t) (.int x :: rest)) : G E cl sl ad dm a b r pc (e0 :: e1 :: e2 :: e3 :: e4 :: e5 :: some (.int x) :: t) rest := fun H L ls hW hS hl => lv_iload C.1 C.2.1 d (lh_at hl (i := 6) rfl) (by subst hq; exact k H L ls hW hS hl)
theorem g_lload_6 {e0 e1 e2 e3 e4 e5 : Option Value} {x : Int64} {t : List (Option Value)} (C : CX E cc own lev) (d : decode cc pc = .ok (.lload 6, 2)) (hq : pc + 2 = q) (k : G E cl sl ad dm a b r q (e0 :: e1 :: e2 :: e3 :: e4 :: e5 :: some (.long x) :: t) (.long x :: rest)) : G E cl sl ad dm a b r pc (e0 :: e1 :: e2 :: e3 :: e4 :: e5 :: some (.long x) :: t) rest := fun H L ls hW hS hl => lv_lload C.1 C.2.1 d (lh_at hl (i := 6) rfl) (by subst hq; exact k H L ls hW hS hl)
theorem g_aload_6 {e0 e1 e2 e3 e4 e5 : Option Value} {x : Nat} {t : List (Option Value)} (C : CX E cc own lev) (d : decode cc pc = .ok (.aload 6, 2)) (hq : pc + 2 = q) (k : G E cl sl ad dm a b r q (e0 :: e1 :: e2 :: e3 :: e4 :: e5 :: some (.ref x) :: t) (.ref x :: rest)) : G E cl sl ad dm a b r pc (e0 :: e1 :: e2 :: e3 :: e4 :: e5 :: some (.ref x) :: t) rest := fun H L ls hW hS hl => lv_aload C.1 C.2.1 d (lh_at hl (i := 6) rfl) (by subst hq; exact k H L ls hW hS hl)
theorem g_aload_6N {e0 e1 e2 e3 e4 e5 : Option Value} {t : List (Option Value)} (C : CX E cc own lev) (d : decode cc pc = .ok (.aload 6, 2)) (hq : pc + 2 = q) (k : G E cl sl ad dm a b r q (e0 :: e1 :: e2 :: e3 :: e4 :: e5 :: some .null :: t) (.null :: rest)) : G E cl sl ad dm a b r pc (e0 :: e1 :: e2 :: e3 :: e4 :: e5 :: some .null :: t) rest := fun H L ls hW hS hl => lv_aloadN C.1 C.2.1 d (lh_at hl (i := 6) rfl) (by subst hq; exact k H L ls hW hS hl)
theorem g_iload_7 {e0 e1 e2 e3 e4 e5 e6 : Option Value} {x : Int32} {t : List (Option Value)} (C : CX E cc own lev) (d : decode cc pc = .ok (.iload 7, 2)) (hq : pc + 2 = q) (k : G E cl sl ad dm a b r q (e0 :: e1 :: e2 :: e3 :: e4 :: e5 :: e6 :: some (.int x) :: t) (.int x :: rest)) : G E cl sl ad dm a b r pc (e0 :: e1 :: e2 :: e3 :: e4 :: e5 :: e6 :: some (.int x) :: t) rest := fun H L ls hW hS hl => lv_iload C.1 C.2.1 d (lh_at hl (i := 7) rfl) (by subst hq; exact k H L ls hW hS hl)
theorem g_lload_7 {e0 e1 e2 e3 e4 e5 e6 : Option Value} {x : Int64} {t : List (Option Value)} (C : CX E cc own lev) (d : decode cc pc = .ok (.lload 7, 2)) (hq : pc + 2 = q) (k : G E cl sl ad dm a b r q (e0 :: e1 :: e2 :: e3 :: e4 :: e5 :: e6 :: some (.long x) :: t) (.long x :: rest)) : G E cl sl ad dm a b r pc (e0 :: e1 :: e2 :: e3 :: e4 :: e5 :: e6 :: some (.long x) :: t) rest := fun H L ls hW hS hl => lv_lload C.1 C.2.1 d (lh_at hl (i := 7) rfl) (by subst hq; exact k H L ls hW hS hl)
theorem g_aload_7 {e0 e1 e2 e3 e4 e5 e6 : Option Value} {x : Nat} {t : List (Option Value)} (C : CX E cc own lev) (d : decode cc pc = .ok (.aload 7, 2)) (hq : pc + 2 = q) (k : G E cl sl ad dm a b r q (e0 :: e1 :: e2 :: e3 :: e4 :: e5 :: e6 :: some (.ref x) :: t) (.ref x :: rest)) : G E cl sl ad dm a b r pc (e0 :: e1 :: e2 :: e3 :: e4 :: e5 :: e6 :: some (.ref x) :: t) rest := fun H L ls hW hS hl => lv_aload C.1 C.2.1 d (lh_at hl (i := 7) rfl) (by subst hq; exact k H L ls hW hS hl)
theorem g_aload_7N {e0 e1 e2 e3 e4 e5 e6 : Option Value} {t : List (Option Value)} (C : CX E cc own lev) (d : decode cc pc = .ok (.aload 7, 2)) (hq : pc + 2 = q) (k : G E cl sl ad dm a b r q (e0 :: e1 :: e2 :: e3 :: e4 :: e5 :: e6 :: some .null :: t) (.null :: rest)) : G E cl sl ad dm a b r pc (e0 :: e1 :: e2 :: e3 :: e4 :: e5 :: e6 :: some .null :: t) rest := fun H L ls hW hS hl => lv_aloadN C.1 C.2.1 d (lh_at hl (i := 7) rfl) (by subst hq; exact k H L ls hW hS hl)
theorem g_iload_8 {e0 e1 e2 e3 e4 e5 e6 e7 : Option Value} {x : Int32} {t : List (Option Value)} (C : CX E cc own lev) (d : decode cc pc = .ok (.iload 8, 2)) (hq : pc + 2 = q) (k : G E cl sl ad dm a b r q (e0 :: e1 :: e2 :: e3 :: e4 :: e5 :: e6 :: e7 :: some (.int x) :: t) (.int x :: rest)) : G E cl sl ad dm a b r pc (e0 :: e1 :: e2 :: e3 :: e4 :: e5 :: e6 :: e7 :: some (.int x) :: t) rest := fun H L ls hW hS hl => lv_iload C.1 C.2.1 d (lh_at hl (i := 8) rfl) (by subst hq; exact k H L ls hW hS hl)
theorem g_lload_8 {e0 e1 e2 e3 e4 e5 e6 e7 : Option Value} {x : Int64} {t : List (Option Value)} (C : CX E cc own lev) (d : decode cc pc = .ok (.lload 8, 2)) (hq : pc + 2 = q) (k : G E cl sl ad dm a b r q (e0 :: e1 :: e2 :: e3 :: e4 :: e5 :: e6 :: e7 :: some (.long x) :: t) (.long x :: rest)) : G E cl sl ad dm a b r pc (e0 :: e1 :: e2 :: e3 :: e4 :: e5 :: e6 :: e7 :: some (.long x) :: t) rest := fun H L ls hW hS hl => lv_lload C.1 C.2.1 d (lh_at hl (i := 8) rfl) (by subst hq; exact k H L ls hW hS hl)
theorem g_aload_8 {e0 e1 e2 e3 e4 e5 e6 e7 : Option Value} {x : Nat} {t : List (Option Value)} (C : CX E cc own lev) (d : decode cc pc = .ok (.aload 8, 2)) (hq : pc + 2 = q) (k : G E cl sl ad dm a b r q (e0 :: e1 :: e2 :: e3 :: e4 :: e5 :: e6 :: e7 :: some (.ref x) :: t) (.ref x :: rest)) : G E cl sl ad dm a b r pc (e0 :: e1 :: e2 :: e3 :: e4 :: e5 :: e6 :: e7 :: some (.ref x) :: t) rest := fun H L ls hW hS hl => lv_aload C.1 C.2.1 d (lh_at hl (i := 8) rfl) (by subst hq; exact k H L ls hW hS hl)
theorem g_aload_8N {e0 e1 e2 e3 e4 e5 e6 e7 : Option Value} {t : List (Option Value)} (C : CX E cc own lev) (d : decode cc pc = .ok (.aload 8, 2)) (hq : pc + 2 = q) (k : G E cl sl ad dm a b r q (e0 :: e1 :: e2 :: e3 :: e4 :: e5 :: e6 :: e7 :: some .null :: t) (.null :: rest)) : G E cl sl ad dm a b r pc (e0 :: e1 :: e2 :: e3 :: e4 :: e5 :: e6 :: e7 :: some .null :: t) rest := fun H L ls hW hS hl => lv_aloadN C.1 C.2.1 d (lh_at hl (i := 8) rfl) (by subst hq; exact k H L ls hW hS hl)
theorem g_iload_9 {e0 e1 e2 e3 e4 e5 e6 e7 e8 : Option Value} {x : Int32} {t : List (Option Value)} (C : CX E cc own lev) (d : decode cc pc = .ok (.iload 9, 2)) (hq : pc + 2 = q) (k : G E cl sl ad dm a b r q (e0 :: e1 :: e2 :: e3 :: e4 :: e5 :: e6 :: e7 :: e8 :: some (.int x) :: t) (.int x :: rest)) : G E cl sl ad dm a b r pc (e0 :: e1 :: e2 :: e3 :: e4 :: e5 :: e6 :: e7 :: e8 :: some (.int x) :: t) rest := fun H L ls hW hS hl => lv_iload C.1 C.2.1 d (lh_at hl (i := 9) rfl) (by subst hq; exact k H L ls hW hS hl)
theorem g_lload_9 {e0 e1 e2 e3 e4 e5 e6 e7 e8 : Option Value} {x : Int64} {t : List (Option Value)} (C : CX E cc own lev) (d : decode cc pc = .ok (.lload 9, 2)) (hq : pc + 2 = q) (k : G E cl sl ad dm a b r q (e0 :: e1 :: e2 :: e3 :: e4 :: e5 :: e6 :: e7 :: e8 :: some (.long x) :: t) (.long x :: rest)) : G E cl sl ad dm a b r pc (e0 :: e1 :: e2 :: e3 :: e4 :: e5 :: e6 :: e7 :: e8 :: some (.long x) :: t) rest := fun H L ls hW hS hl => lv_lload C.1 C.2.1 d (lh_at hl (i := 9) rfl) (by subst hq; exact k H L ls hW hS hl)
theorem g_aload_9 {e0 e1 e2 e3 e4 e5 e6 e7 e8 : Option Value} {x : Nat} {t : List (Option Value)} (C : CX E cc own lev) (d : decode cc pc = .ok (.aload 9, 2)) (hq : pc + 2 = q) (k : G E cl sl ad dm a b r q (e0 :: e1 :: e2 :: e3 :: e4 :: e5 :: e6 :: e7 :: e8 :: some (.ref x) :: t) (.ref x :: rest)) : G E cl sl ad dm a b r pc (e0 :: e1 :: e2 :: e3 :: e4 :: e5 :: e6 :: e7 :: e8 :: some (.ref x) :: t) rest := fun H L ls hW hS hl => lv_aload C.1 C.2.1 d (lh_at hl (i := 9) rfl) (by subst hq; exact k H L ls hW hS hl)
theorem g_aload_9N {e0 e1 e2 e3 e4 e5 e6 e7 e8 : Option Value} {t : List (Option Value)} (C : CX E cc own lev) (d : decode cc pc = .ok (.aload 9, 2)) (hq : pc + 2 = q) (k : G E cl sl ad dm a b r q (e0 :: e1 :: e2 :: e3 :: e4 :: e5 :: e6 :: e7 :: e8 :: some .null :: t) (.null :: rest)) : G E cl sl ad dm a b r pc (e0 :: e1 :: e2 :: e3 :: e4 :: e5 :: e6 :: e7 :: e8 :: some .null :: t) rest := fun H L ls hW hS hl => lv_aloadN C.1 C.2.1 d (lh_at hl (i := 9) rfl) (by subst hq; exact k H L ls hW hS hl)
theorem g_iload_10 {e0 e1 e2 e3 e4 e5 e6 e7 e8 e9 : Option Value} {x : Int32} {t : List (Option Value)} (C : CX E cc own lev) (d : decode cc pc = .ok (.iload 10, 2)) (hq : pc + 2 = q) (k : G E cl sl ad dm a b r q (e0 :: e1 :: e2 :: e3 :: e4 :: e5 :: e6 :: e7 :: e8 :: e9 :: some (.int x) :: t) (.int x :: rest)) : G E cl sl ad dm a b r pc (e0 :: e1 :: e2 :: e3 :: e4 :: e5 :: e6 :: e7 :: e8 :: e9 :: some (.int x) :: t) rest := fun H L ls hW hS hl => lv_iload C.1 C.2.1 d (lh_at hl (i := 10) rfl) (by subst hq; exact k H L ls hW hS hl)
theorem g_lload_10 {e0 e1 e2 e3 e4 e5 e6 e7 e8 e9 : Option Value} {x : Int64} {t : List (Option Value)} (C : CX E cc own lev) (d : decode cc pc = .ok (.lload 10, 2)) (hq : pc + 2 = q) (k : G E cl sl ad dm a b r q (e0 :: e1 :: e2 :: e3 :: e4 :: e5 :: e6 :: e7 :: e8 :: e9 :: some (.long x) :: t) (.long x :: rest)) : G E cl sl ad dm a b r pc (e0 :: e1 :: e2 :: e3 :: e4 :: e5 :: e6 :: e7 :: e8 :: e9 :: some (.long x) :: t) rest := fun H L ls hW hS hl => lv_lload C.1 C.2.1 d (lh_at hl (i := 10) rfl) (by subst hq; exact k H L ls hW hS hl)
theorem g_aload_10 {e0 e1 e2 e3 e4 e5 e6 e7 e8 e9 : Option Value} {x : Nat} {t : List (Option Value)} (C : CX E cc own lev) (d : decode cc pc = .ok (.aload 10, 2)) (hq : pc + 2 = q) (k : G E cl sl ad dm a b r q (e0 :: e1 :: e2 :: e3 :: e4 :: e5 :: e6 :: e7 :: e8 :: e9 :: some (.ref x) :: t) (.ref x :: rest)) : G E cl sl ad dm a b r pc (e0 :: e1 :: e2 :: e3 :: e4 :: e5 :: e6 :: e7 :: e8 :: e9 :: some (.ref x) :: t) rest := fun H L ls hW hS hl => lv_aload C.1 C.2.1 d (lh_at hl (i := 10) rfl) (by subst hq; exact k H L ls hW hS hl)
theorem g_aload_10N {e0 e1 e2 e3 e4 e5 e6 e7 e8 e9 : Option Value} {t : List (Option Value)} (C : CX E cc own lev) (d : decode cc pc = .ok (.aload 10, 2)) (hq : pc + 2 = q) (k : G E cl sl ad dm a b r q (e0 :: e1 :: e2 :: e3 :: e4 :: e5 :: e6 :: e7 :: e8 :: e9 :: some .null :: t) (.null :: rest)) : G E cl sl ad dm a b r pc (e0 :: e1 :: e2 :: e3 :: e4 :: e5 :: e6 :: e7 :: e8 :: e9 :: some .null :: t) rest := fun H L ls hW hS hl => lv_aloadN C.1 C.2.1 d (lh_at hl (i := 10) rfl) (by subst hq; exact k H L ls hW hS hl)
theorem g_iload_11 {e0 e1 e2 e3 e4 e5 e6 e7 e8 e9 e10 : Option Value} {x : Int32} {t : List (Option Value)} (C : CX E cc own lev) (d : decode cc pc = .ok (.iload 11, 2)) (hq : pc + 2 = q) (k : G E cl sl ad dm a b r q (e0 :: e1 :: e2 :: e3 :: e4 :: e5 :: e6 :: e7 :: e8 :: e9 :: e10 :: some (.int x) :: t) (.int x :: rest)) : G E cl sl ad dm a b r pc (e0 :: e1 :: e2 :: e3 :: e4 :: e5 :: e6 :: e7 :: e8 :: e9 :: e10 :: some (.int x) :: t) rest := fun H L ls hW hS hl => lv_iload C.1 C.2.1 d (lh_at hl (i := 11) rfl) (by subst hq; exact k H L ls hW hS hl)
theorem g_lload_11 {e0 e1 e2 e3 e4 e5 e6 e7 e8 e9 e10 : Option Value} {x : Int64} {t : List (Option Value)} (C : CX E cc own lev) (d : decode cc pc = .ok (.lload 11, 2)) (hq : pc + 2 = q) (k : G E cl sl ad dm a b r q (e0 :: e1 :: e2 :: e3 :: e4 :: e5 :: e6 :: e7 :: e8 :: e9 :: e10 :: some (.long x) :: t) (.long x :: rest)) : G E cl sl ad dm a b r pc (e0 :: e1 :: e2 :: e3 :: e4 :: e5 :: e6 :: e7 :: e8 :: e9 :: e10 :: some (.long x) :: t) rest := fun H L ls hW hS hl => lv_lload C.1 C.2.1 d (lh_at hl (i := 11) rfl) (by subst hq; exact k H L ls hW hS hl)
theorem g_aload_11 {e0 e1 e2 e3 e4 e5 e6 e7 e8 e9 e10 : Option Value} {x : Nat} {t : List (Option Value)} (C : CX E cc own lev) (d : decode cc pc = .ok (.aload 11, 2)) (hq : pc + 2 = q) (k : G E cl sl ad dm a b r q (e0 :: e1 :: e2 :: e3 :: e4 :: e5 :: e6 :: e7 :: e8 :: e9 :: e10 :: some (.ref x) :: t) (.ref x :: rest)) : G E cl sl ad dm a b r pc (e0 :: e1 :: e2 :: e3 :: e4 :: e5 :: e6 :: e7 :: e8 :: e9 :: e10 :: some (.ref x) :: t) rest := fun H L ls hW hS hl => lv_aload C.1 C.2.1 d (lh_at hl (i := 11) rfl) (by subst hq; exact k H L ls hW hS hl)
theorem g_aload_11N {e0 e1 e2 e3 e4 e5 e6 e7 e8 e9 e10 : Option Value} {t : List (Option Value)} (C : CX E cc own lev) (d : decode cc pc = .ok (.aload 11, 2)) (hq : pc + 2 = q) (k : G E cl sl ad dm a b r q (e0 :: e1 :: e2 :: e3 :: e4 :: e5 :: e6 :: e7 :: e8 :: e9 :: e10 :: some .null :: t) (.null :: rest)) : G E cl sl ad dm a b r pc (e0 :: e1 :: e2 :: e3 :: e4 :: e5 :: e6 :: e7 :: e8 :: e9 :: e10 :: some .null :: t) rest := fun H L ls hW hS hl => lv_aloadN C.1 C.2.1 d (lh_at hl (i := 11) rfl) (by subst hq; exact k H L ls hW hS hl)
theorem g_iload_12 {e0 e1 e2 e3 e4 e5 e6 e7 e8 e9 e10 e11 : Option Value} {x : Int32} {t : List (Option Value)} (C : CX E cc own lev) (d : decode cc pc = .ok (.iload 12, 2)) (hq : pc + 2 = q) (k : G E cl sl ad dm a b r q (e0 :: e1 :: e2 :: e3 :: e4 :: e5 :: e6 :: e7 :: e8 :: e9 :: e10 :: e11 :: some (.int x) :: t) (.int x :: rest)) : G E cl sl ad dm a b r pc (e0 :: e1 :: e2 :: e3 :: e4 :: e5 :: e6 :: e7 :: e8 :: e9 :: e10 :: e11 :: some (.int x) :: t) rest := fun H L ls hW hS hl => lv_iload C.1 C.2.1 d (lh_at hl (i := 12) rfl) (by subst hq; exact k H L ls hW hS hl)
theorem g_lload_12 {e0 e1 e2 e3 e4 e5 e6 e7 e8 e9 e10 e11 : Option Value} {x : Int64} {t : List (Option Value)} (C : CX E cc own lev) (d : decode cc pc = .ok (.lload 12, 2)) (hq : pc + 2 = q) (k : G E cl sl ad dm a b r q (e0 :: e1 :: e2 :: e3 :: e4 :: e5 :: e6 :: e7 :: e8 :: e9 :: e10 :: e11 :: some (.long x) :: t) (.long x :: rest)) : G E cl sl ad dm a b r pc (e0 :: e1 :: e2 :: e3 :: e4 :: e5 :: e6 :: e7 :: e8 :: e9 :: e10 :: e11 :: some (.long x) :: t) rest := fun H L ls hW hS hl => lv_lload C.1 C.2.1 d (lh_at hl (i := 12) rfl) (by subst hq; exact k H L ls hW hS hl)
theorem g_aload_12 {e0 e1 e2 e3 e4 e5 e6 e7 e8 e9 e10 e11 : Option Value} {x : Nat} {t : List (Option Value)} (C : CX E cc own lev) (d : decode cc pc = .ok (.aload 12, 2)) (hq : pc + 2 = q) (k : G E cl sl ad dm a b r q (e0 :: e1 :: e2 :: e3 :: e4 :: e5 :: e6 :: e7 :: e8 :: e9 :: e10 :: e11 :: some (.ref x) :: t) (.ref x :: rest)) : G E cl sl ad dm a b r pc (e0 :: e1 :: e2 :: e3 :: e4 :: e5 :: e6 :: e7 :: e8 :: e9 :: e10 :: e11 :: some (.ref x) :: t) rest := fun H L ls hW hS hl => lv_aload C.1 C.2.1 d (lh_at hl (i := 12) rfl) (by subst hq; exact k H L ls hW hS hl)
theorem g_aload_12N {e0 e1 e2 e3 e4 e5 e6 e7 e8 e9 e10 e11 : Option Value} {t : List (Option Value)} (C : CX E cc own lev) (d : decode cc pc = .ok (.aload 12, 2)) (hq : pc + 2 = q) (k : G E cl sl ad dm a b r q (e0 :: e1 :: e2 :: e3 :: e4 :: e5 :: e6 :: e7 :: e8 :: e9 :: e10 :: e11 :: some .null :: t) (.null :: rest)) : G E cl sl ad dm a b r pc (e0 :: e1 :: e2 :: e3 :: e4 :: e5 :: e6 :: e7 :: e8 :: e9 :: e10 :: e11 :: some .null :: t) rest := fun H L ls hW hS hl => lv_aloadN C.1 C.2.1 d (lh_at hl (i := 12) rfl) (by subst hq; exact k H L ls hW hS hl)
/-- a store into a local: the slot before holds no long -/
def okst (lo : List (Option Value)) : Nat → Bool
  | 0 => true
  | j + 1 => match lo[j]? with
    | some (some v) => v.category != 2
    | _ => true
theorem lh_st {ls : Array Slot} {nL : Nat} {lo lo' : List (Option Value)} {i : Nat} {v : Value} (hl : lv_has ls nL ((i, v) :: (las 0 lo).filter (fun q => !(q.1 == i) && !(q.1 + 1 == i && q.2.category == 2)))) (ho : okst lo i = true) (h1 : ∀ w, lo'[i]? = some (some w) → w = v) (h2 : ∀ j w, j ≠ i → lo'[j]? = some (some w) → lo[j]? = some (some w)) : lh ls nL lo' := by
  refine ⟨hl.1, hl.2.1, fun z hz => ?_⟩
  obtain ⟨j, e, hj⟩ := las_in lo' 0 z hz
  have e : z.1 = j := by omega
  by_cases hji : j = i
  · subst hji
    rw [e, h1 _ hj]
    exact hl.2.2 (j, v) List.mem_cons_self
  · have h3 := h2 j _ hji hj
    refine hl.2.2 z (List.mem_cons_of_mem _ (List.mem_filter.mpr ⟨?_, ?_⟩))
    · have h4 := las_mem lo 0 j z.2 h3
      rw [Nat.zero_add, ← e] at h4
      exact h4
    · rw [e]
      cases i with
      | zero => simp [hji]
      | succ i =>
        by_cases hj2 : j = i
        · subst hj2
          simp only [okst, h3] at ho
          simp at ho
          simp [ho]
        · simp [hji, hj2]

theorem lh_st2 {ls : Array Slot} {nL : Nat} {lo lo' : List (Option Value)} {i : Nat} {v : Value} (hl : lv_has ls nL ((i, v) :: (las 0 lo).filter (fun q => !(q.1 == i) && (!(q.1 == i + 1) && !(q.1 + 1 == i && q.2.category == 2))))) (ho : okst lo i = true) (h1 : ∀ w, lo'[i]? = some (some w) → w = v) (h0 : ∀ w, ¬ lo'[i + 1]? = some (some w)) (h2 : ∀ j w, j ≠ i → j ≠ i + 1 → lo'[j]? = some (some w) → lo[j]? = some (some w)) : lh ls nL lo' := by
  refine ⟨hl.1, hl.2.1, fun z hz => ?_⟩
  obtain ⟨j, e, hj⟩ := las_in lo' 0 z hz
  have e : z.1 = j := by omega
  by_cases hji : j = i
  · subst hji
    rw [e, h1 _ hj]
    exact hl.2.2 (j, v) List.mem_cons_self
  · have hj9 : j ≠ i + 1 := fun z9 => h0 _ (z9 ▸ hj)
    have h3 := h2 j _ hji hj9 hj
    refine hl.2.2 z (List.mem_cons_of_mem _ (List.mem_filter.mpr ⟨?_, ?_⟩))
    · have h4 := las_mem lo 0 j z.2 h3
      rw [Nat.zero_add, ← e] at h4
      exact h4
    · rw [e]
      cases i with
      | zero => simp [hji, hj9] <;> omega
      | succ i =>
        by_cases hj2 : j = i
        · subst hj2
          simp only [okst, h3] at ho
          simp at ho
          simp [ho] <;> omega
        · simp [hji, hj2] <;> omega

theorem g_istore_1 {e0 e1 : Option Value} {x : Int32} {t : List (Option Value)} (C : CX E cc own lev) (d : decode cc pc = .ok (.istore_n 1, 1)) (hq : pc + 1 = q) (hn : 1 < eN E) (ho : okst (e0 :: e1 :: t) 1 = true) (k : G E cl sl ad dm a b r q (e0 :: some (.int x) :: t) rest) : G E cl sl ad dm a b r pc (e0 :: e1 :: t) (.int x :: rest) := fun H L ls hW hS hl => lv_istore_n C.1 C.2.1 d rfl hl hn rfl (fun ls' h' => by
  subst hq
  refine k H L ls' hW hS (lh_st h' ho (fun w h => by cases h; rfl) (fun j w hj h => ?_))
  iterate 2 (rcases j with _ | j; (first | exact absurd rfl hj | exact h | exact absurd rfl hj2))
  exact h)
theorem g_astore_1 {e0 e1 : Option Value} {x : Nat} {t : List (Option Value)} (C : CX E cc own lev) (d : decode cc pc = .ok (.astore_n 1, 1)) (hq : pc + 1 = q) (hn : 1 < eN E) (ho : okst (e0 :: e1 :: t) 1 = true) (k : G E cl sl ad dm a b r q (e0 :: some (.ref x) :: t) rest) : G E cl sl ad dm a b r pc (e0 :: e1 :: t) (.ref x :: rest) := fun H L ls hW hS hl => lv_astore_n C.1 C.2.1 d rfl hl hn rfl (fun ls' h' => by
  subst hq
  refine k H L ls' hW hS (lh_st h' ho (fun w h => by cases h; rfl) (fun j w hj h => ?_))
  iterate 2 (rcases j with _ | j; (first | exact absurd rfl hj | exact h | exact absurd rfl hj2))
  exact h)
theorem g_lstore_1 {e0 e1 : Option Value} {f : Option Value} {x : Int64} {t : List (Option Value)} (C : CX E cc own lev) (d : decode cc pc = .ok (.lstore_n 1, 1)) (hq : pc + 1 = q) (hn : 2 < eN E) (ho : okst (e0 :: e1 :: f :: t) 1 = true) (k : G E cl sl ad dm a b r q (e0 :: some (.long x) :: none :: t) rest) : G E cl sl ad dm a b r pc (e0 :: e1 :: f :: t) (.long x :: rest) := fun H L ls hW hS hl => lv_lstore_n C.1 C.2.1 d rfl hl hn rfl (fun ls' h' => by
  subst hq
  refine k H L ls' hW hS (lh_st2 h' ho (fun w h => by cases h; rfl) (fun w h => by cases h) (fun j w hj hj2 h => ?_))
  iterate 3 (rcases j with _ | j; (first | exact absurd rfl hj | exact h | exact absurd rfl hj2))
  exact h)
theorem g_istore_2 {e0 e1 e2 : Option Value} {x : Int32} {t : List (Option Value)} (C : CX E cc own lev) (d : decode cc pc = .ok (.istore_n 2, 1)) (hq : pc + 1 = q) (hn : 2 < eN E) (ho : okst (e0 :: e1 :: e2 :: t) 2 = true) (k : G E cl sl ad dm a b r q (e0 :: e1 :: some (.int x) :: t) rest) : G E cl sl ad dm a b r pc (e0 :: e1 :: e2 :: t) (.int x :: rest) := fun H L ls hW hS hl => lv_istore_n C.1 C.2.1 d rfl hl hn rfl (fun ls' h' => by
  subst hq
  refine k H L ls' hW hS (lh_st h' ho (fun w h => by cases h; rfl) (fun j w hj h => ?_))
  iterate 3 (rcases j with _ | j; (first | exact absurd rfl hj | exact h | exact absurd rfl hj2))
  exact h)
theorem g_astore_2 {e0 e1 e2 : Option Value} {x : Nat} {t : List (Option Value)} (C : CX E cc own lev) (d : decode cc pc = .ok (.astore_n 2, 1)) (hq : pc + 1 = q) (hn : 2 < eN E) (ho : okst (e0 :: e1 :: e2 :: t) 2 = true) (k : G E cl sl ad dm a b r q (e0 :: e1 :: some (.ref x) :: t) rest) : G E cl sl ad dm a b r pc (e0 :: e1 :: e2 :: t) (.ref x :: rest) := fun H L ls hW hS hl => lv_astore_n C.1 C.2.1 d rfl hl hn rfl (fun ls' h' => by
  subst hq
  refine k H L ls' hW hS (lh_st h' ho (fun w h => by cases h; rfl) (fun j w hj h => ?_))
  iterate 3 (rcases j with _ | j; (first | exact absurd rfl hj | exact h | exact absurd rfl hj2))
  exact h)
theorem g_lstore_2 {e0 e1 e2 : Option Value} {f : Option Value} {x : Int64} {t : List (Option Value)} (C : CX E cc own lev) (d : decode cc pc = .ok (.lstore_n 2, 1)) (hq : pc + 1 = q) (hn : 3 < eN E) (ho : okst (e0 :: e1 :: e2 :: f :: t) 2 = true) (k : G E cl sl ad dm a b r q (e0 :: e1 :: some (.long x) :: none :: t) rest) : G E cl sl ad dm a b r pc (e0 :: e1 :: e2 :: f :: t) (.long x :: rest) := fun H L ls hW hS hl => lv_lstore_n C.1 C.2.1 d rfl hl hn rfl (fun ls' h' => by
  subst hq
  refine k H L ls' hW hS (lh_st2 h' ho (fun w h => by cases h; rfl) (fun w h => by cases h) (fun j w hj hj2 h => ?_))
  iterate 4 (rcases j with _ | j; (first | exact absurd rfl hj | exact h | exact absurd rfl hj2))
  exact h)
theorem g_istore_3 {e0 e1 e2 e3 : Option Value} {x : Int32} {t : List (Option Value)} (C : CX E cc own lev) (d : decode cc pc = .ok (.istore_n 3, 1)) (hq : pc + 1 = q) (hn : 3 < eN E) (ho : okst (e0 :: e1 :: e2 :: e3 :: t) 3 = true) (k : G E cl sl ad dm a b r q (e0 :: e1 :: e2 :: some (.int x) :: t) rest) : G E cl sl ad dm a b r pc (e0 :: e1 :: e2 :: e3 :: t) (.int x :: rest) := fun H L ls hW hS hl => lv_istore_n C.1 C.2.1 d rfl hl hn rfl (fun ls' h' => by
  subst hq
  refine k H L ls' hW hS (lh_st h' ho (fun w h => by cases h; rfl) (fun j w hj h => ?_))
  iterate 4 (rcases j with _ | j; (first | exact absurd rfl hj | exact h | exact absurd rfl hj2))
  exact h)
theorem g_astore_3 {e0 e1 e2 e3 : Option Value} {x : Nat} {t : List (Option Value)} (C : CX E cc own lev) (d : decode cc pc = .ok (.astore_n 3, 1)) (hq : pc + 1 = q) (hn : 3 < eN E) (ho : okst (e0 :: e1 :: e2 :: e3 :: t) 3 = true) (k : G E cl sl ad dm a b r q (e0 :: e1 :: e2 :: some (.ref x) :: t) rest) : G E cl sl ad dm a b r pc (e0 :: e1 :: e2 :: e3 :: t) (.ref x :: rest) := fun H L ls hW hS hl => lv_astore_n C.1 C.2.1 d rfl hl hn rfl (fun ls' h' => by
  subst hq
  refine k H L ls' hW hS (lh_st h' ho (fun w h => by cases h; rfl) (fun j w hj h => ?_))
  iterate 4 (rcases j with _ | j; (first | exact absurd rfl hj | exact h | exact absurd rfl hj2))
  exact h)
theorem g_lstore_3 {e0 e1 e2 e3 : Option Value} {f : Option Value} {x : Int64} {t : List (Option Value)} (C : CX E cc own lev) (d : decode cc pc = .ok (.lstore_n 3, 1)) (hq : pc + 1 = q) (hn : 4 < eN E) (ho : okst (e0 :: e1 :: e2 :: e3 :: f :: t) 3 = true) (k : G E cl sl ad dm a b r q (e0 :: e1 :: e2 :: some (.long x) :: none :: t) rest) : G E cl sl ad dm a b r pc (e0 :: e1 :: e2 :: e3 :: f :: t) (.long x :: rest) := fun H L ls hW hS hl => lv_lstore_n C.1 C.2.1 d rfl hl hn rfl (fun ls' h' => by
  subst hq
  refine k H L ls' hW hS (lh_st2 h' ho (fun w h => by cases h; rfl) (fun w h => by cases h) (fun j w hj hj2 h => ?_))
  iterate 5 (rcases j with _ | j; (first | exact absurd rfl hj | exact h | exact absurd rfl hj2))
  exact h)
theorem g_istore_4 {e0 e1 e2 e3 e4 : Option Value} {x : Int32} {t : List (Option Value)} (C : CX E cc own lev) (d : decode cc pc = .ok (.istore 4, 2)) (hq : pc + 2 = q) (hn : 4 < eN E) (ho : okst (e0 :: e1 :: e2 :: e3 :: e4 :: t) 4 = true) (k : G E cl sl ad dm a b r q (e0 :: e1 :: e2 :: e3 :: some (.int x) :: t) rest) : G E cl sl ad dm a b r pc (e0 :: e1 :: e2 :: e3 :: e4 :: t) (.int x :: rest) := fun H L ls hW hS hl => lv_istore C.1 C.2.1 d hl hn rfl (fun ls' h' => by
  subst hq
  refine k H L ls' hW hS (lh_st h' ho (fun w h => by cases h; rfl) (fun j w hj h => ?_))
  iterate 5 (rcases j with _ | j; (first | exact absurd rfl hj | exact h | exact absurd rfl hj2))
  exact h)
theorem g_astore_4 {e0 e1 e2 e3 e4 : Option Value} {x : Nat} {t : List (Option Value)} (C : CX E cc own lev) (d : decode cc pc = .ok (.astore 4, 2)) (hq : pc + 2 = q) (hn : 4 < eN E) (ho : okst (e0 :: e1 :: e2 :: e3 :: e4 :: t) 4 = true) (k : G E cl sl ad dm a b r q (e0 :: e1 :: e2 :: e3 :: some (.ref x) :: t) rest) : G E cl sl ad dm a b r pc (e0 :: e1 :: e2 :: e3 :: e4 :: t) (.ref x :: rest) := fun H L ls hW hS hl => lv_astore C.1 C.2.1 d hl hn rfl (fun ls' h' => by
  subst hq
  refine k H L ls' hW hS (lh_st h' ho (fun w h => by cases h; rfl) (fun j w hj h => ?_))
  iterate 5 (rcases j with _ | j; (first | exact absurd rfl hj | exact h | exact absurd rfl hj2))
  exact h)
theorem g_lstore_4 {e0 e1 e2 e3 e4 : Option Value} {f : Option Value} {x : Int64} {t : List (Option Value)} (C : CX E cc own lev) (d : decode cc pc = .ok (.lstore 4, 2)) (hq : pc + 2 = q) (hn : 5 < eN E) (ho : okst (e0 :: e1 :: e2 :: e3 :: e4 :: f :: t) 4 = true) (k : G E cl sl ad dm a b r q (e0 :: e1 :: e2 :: e3 :: some (.long x) :: none :: t) rest) : G E cl sl ad dm a b r pc (e0 :: e1 :: e2 :: e3 :: e4 :: f :: t) (.long x :: rest) := fun H L ls hW hS hl => lv_lstore C.1 C.2.1 d hl hn rfl (fun ls' h' => by
  subst hq
  refine k H L ls' hW hS (lh_st2 h' ho (fun w h => by cases h; rfl) (fun w h => by cases h) (fun j w hj hj2 h => ?_))
  iterate 6 (rcases j with _ | j; (first | exact absurd rfl hj | exact h | exact absurd rfl hj2))
  exact h)
theorem g_istore_5 {e0 e1 e2 e3 e4 e5 : Option Value} {x : Int32} {t : List (Option Value)} (C : CX E cc own lev) (d : decode cc pc = .ok (.istore 5, 2)) (hq : pc + 2 = q) (hn : 5 < eN E) (ho : okst (e0 :: e1 :: e2 :: e3 :: e4 :: e5 :: t) 5 = true) (k : G E cl sl ad dm a b r q (e0 :: e1 :: e2 :: e3 :: e4 :: some (.int x) :: t) rest) : G E cl sl ad dm a b r pc (e0 :: e1 :: e2 :: e3 :: e4 :: e5 :: t) (.int x :: rest) := fun H L ls hW hS hl => lv_istore C.1 C.2.1 d hl hn rfl (fun ls' h' => by
  subst hq
  refine k H L ls' hW hS (lh_st h' ho (fun w h => by cases h; rfl) (fun j w hj h => ?_))
  iterate 6 (rcases j with _ | j; (first | exact absurd rfl hj | exact h | exact absurd rfl hj2))
  exact h)
theorem g_astore_5 {e0 e1 e2 e3 e4 e5 : Option Value} {x : Nat} {t : List (Option Value)} (C : CX E cc own lev) (d : decode cc pc = .ok (.astore 5, 2)) (hq : pc + 2 = q) (hn : 5 < eN E) (ho : okst (e0 :: e1 :: e2 :: e3 :: e4 :: e5 :: t) 5 = true) (k : G E cl sl ad dm a b r q (e0 :: e1 :: e2 :: e3 :: e4 :: some (.ref x) :: t) rest) : G E cl sl ad dm a b r pc (e0 :: e1 :: e2 :: e3 :: e4 :: e5 :: t) (.ref x :: rest) := fun H L ls hW hS hl => lv_astore C.1 C.2.1 d hl hn rfl (fun ls' h' => by
  subst hq
  refine k H L ls' hW hS (lh_st h' ho (fun w h => by cases h; rfl) (fun j w hj h => ?_))
  iterate 6 (rcases j with _ | j; (first | exact absurd rfl hj | exact h | exact absurd rfl hj2))
  exact h)
theorem g_lstore_5 {e0 e1 e2 e3 e4 e5 : Option Value} {f : Option Value} {x : Int64} {t : List (Option Value)} (C : CX E cc own lev) (d : decode cc pc = .ok (.lstore 5, 2)) (hq : pc + 2 = q) (hn : 6 < eN E) (ho : okst (e0 :: e1 :: e2 :: e3 :: e4 :: e5 :: f :: t) 5 = true) (k : G E cl sl ad dm a b r q (e0 :: e1 :: e2 :: e3 :: e4 :: some (.long x) :: none :: t) rest) : G E cl sl ad dm a b r pc (e0 :: e1 :: e2 :: e3 :: e4 :: e5 :: f :: t) (.long x :: rest) := fun H L ls hW hS hl => lv_lstore C.1 C.2.1 d hl hn rfl (fun ls' h' => by
  subst hq
  refine k H L ls' hW hS (lh_st2 h' ho (fun w h => by cases h; rfl) (fun w h => by cases h) (fun j w hj hj2 h => ?_))
  iterate 7 (rcases j with _ | j; (first | exact absurd rfl hj | exact h | exact absurd rfl hj2))
  exact h)
theorem g_istore_6 {e0 e1 e2 e3 e4 e5 e6 : Option Value} {x : Int32} {t : List (Option Value)} (C : CX E cc own lev) (d : decode cc pc = .ok (.istore 6, 2)) (hq : pc + 2 = q) (hn : 6 < eN E) (ho : okst (e0 :: e1 :: e2 :: e3 :: e4 :: e5 :: e6 :: t) 6 = true) (k : G E cl sl ad dm a b r q (e0 :: e1 :: e2 :: e3 :: e4 :: e5 :: some (.int x) :: t) rest) : G E cl sl ad dm a b r pc (e0 :: e1 :: e2 :: e3 :: e4 :: e5 :: e6 :: t) (.int x :: rest) := fun H L ls hW hS hl => lv_istore C.1 C.2.1 d hl hn rfl (fun ls' h' => by
  subst hq
  refine k H L ls' hW hS (lh_st h' ho (fun w h => by cases h; rfl) (fun j w hj h => ?_))
  iterate 7 (rcases j with _ | j; (first | exact absurd rfl hj | exact h | exact absurd rfl hj2))
  exact h)
theorem g_astore_6 {e0 e1 e2 e3 e4 e5 e6 : Option Value} {x : Nat} {t : List (Option Value)} (C : CX E cc own lev) (d : decode cc pc = .ok (.astore 6, 2)) (hq : pc + 2 = q) (hn : 6 < eN E) (ho : okst (e0 :: e1 :: e2 :: e3 :: e4 :: e5 :: e6 :: t) 6 = true) (k : G E cl sl ad dm a b r q (e0 :: e1 :: e2 :: e3 :: e4 :: e5 :: some (.ref x) :: t) rest) : G E cl sl ad dm a b r pc (e0 :: e1 :: e2 :: e3 :: e4 :: e5 :: e6 :: t) (.ref x :: rest) := fun H L ls hW hS hl => lv_astore C.1 C.2.1 d hl hn rfl (fun ls' h' => by
  subst hq
  refine k H L ls' hW hS (lh_st h' ho (fun w h => by cases h; rfl) (fun j w hj h => ?_))
  iterate 7 (rcases j with _ | j; (first | exact absurd rfl hj | exact h | exact absurd rfl hj2))
  exact h)
theorem g_lstore_6 {e0 e1 e2 e3 e4 e5 e6 : Option Value} {f : Option Value} {x : Int64} {t : List (Option Value)} (C : CX E cc own lev) (d : decode cc pc = .ok (.lstore 6, 2)) (hq : pc + 2 = q) (hn : 7 < eN E) (ho : okst (e0 :: e1 :: e2 :: e3 :: e4 :: e5 :: e6 :: f :: t) 6 = true) (k : G E cl sl ad dm a b r q (e0 :: e1 :: e2 :: e3 :: e4 :: e5 :: some (.long x) :: none :: t) rest) : G E cl sl ad dm a b r pc (e0 :: e1 :: e2 :: e3 :: e4 :: e5 :: e6 :: f :: t) (.long x :: rest) := fun H L ls hW hS hl => lv_lstore C.1 C.2.1 d hl hn rfl (fun ls' h' => by
  subst hq
  refine k H L ls' hW hS (lh_st2 h' ho (fun w h => by cases h; rfl) (fun w h => by cases h) (fun j w hj hj2 h => ?_))
  iterate 8 (rcases j with _ | j; (first | exact absurd rfl hj | exact h | exact absurd rfl hj2))
  exact h)
theorem g_istore_7 {e0 e1 e2 e3 e4 e5 e6 e7 : Option Value} {x : Int32} {t : List (Option Value)} (C : CX E cc own lev) (d : decode cc pc = .ok (.istore 7, 2)) (hq : pc + 2 = q) (hn : 7 < eN E) (ho : okst (e0 :: e1 :: e2 :: e3 :: e4 :: e5 :: e6 :: e7 :: t) 7 = true) (k : G E cl sl ad dm a b r q (e0 :: e1 :: e2 :: e3 :: e4 :: e5 :: e6 :: some (.int x) :: t) rest) : G E cl sl ad dm a b r pc (e0 :: e1 :: e2 :: e3 :: e4 :: e5 :: e6 :: e7 :: t) (.int x :: rest) := fun H L ls hW hS hl => lv_istore C.1 C.2.1 d hl hn rfl (fun ls' h' => by
  subst hq
  refine k H L ls' hW hS (lh_st h' ho (fun w h => by cases h; rfl) (fun j w hj h => ?_))
  iterate 8 (rcases j with _ | j; (first | exact absurd rfl hj | exact h | exact absurd rfl hj2))
  exact h)
theorem g_astore_7 {e0 e1 e2 e3 e4 e5 e6 e7 : Option Value} {x : Nat} {t : List (Option Value)} (C : CX E cc own lev) (d : decode cc pc = .ok (.astore 7, 2)) (hq : pc + 2 = q) (hn : 7 < eN E) (ho : okst (e0 :: e1 :: e2 :: e3 :: e4 :: e5 :: e6 :: e7 :: t) 7 = true) (k : G E cl sl ad dm a b r q (e0 :: e1 :: e2 :: e3 :: e4 :: e5 :: e6 :: some (.ref x) :: t) rest) : G E cl sl ad dm a b r pc (e0 :: e1 :: e2 :: e3 :: e4 :: e5 :: e6 :: e7 :: t) (.ref x :: rest) := fun H L ls hW hS hl => lv_astore C.1 C.2.1 d hl hn rfl (fun ls' h' => by
  subst hq
  refine k H L ls' hW hS (lh_st h' ho (fun w h => by cases h; rfl) (fun j w hj h => ?_))
  iterate 8 (rcases j with _ | j; (first | exact absurd rfl hj | exact h | exact absurd rfl hj2))
  exact h)
theorem g_lstore_7 {e0 e1 e2 e3 e4 e5 e6 e7 : Option Value} {f : Option Value} {x : Int64} {t : List (Option Value)} (C : CX E cc own lev) (d : decode cc pc = .ok (.lstore 7, 2)) (hq : pc + 2 = q) (hn : 8 < eN E) (ho : okst (e0 :: e1 :: e2 :: e3 :: e4 :: e5 :: e6 :: e7 :: f :: t) 7 = true) (k : G E cl sl ad dm a b r q (e0 :: e1 :: e2 :: e3 :: e4 :: e5 :: e6 :: some (.long x) :: none :: t) rest) : G E cl sl ad dm a b r pc (e0 :: e1 :: e2 :: e3 :: e4 :: e5 :: e6 :: e7 :: f :: t) (.long x :: rest) := fun H L ls hW hS hl => lv_lstore C.1 C.2.1 d hl hn rfl (fun ls' h' => by
  subst hq
  refine k H L ls' hW hS (lh_st2 h' ho (fun w h => by cases h; rfl) (fun w h => by cases h) (fun j w hj hj2 h => ?_))
  iterate 9 (rcases j with _ | j; (first | exact absurd rfl hj | exact h | exact absurd rfl hj2))
  exact h)
theorem g_istore_8 {e0 e1 e2 e3 e4 e5 e6 e7 e8 : Option Value} {x : Int32} {t : List (Option Value)} (C : CX E cc own lev) (d : decode cc pc = .ok (.istore 8, 2)) (hq : pc + 2 = q) (hn : 8 < eN E) (ho : okst (e0 :: e1 :: e2 :: e3 :: e4 :: e5 :: e6 :: e7 :: e8 :: t) 8 = true) (k : G E cl sl ad dm a b r q (e0 :: e1 :: e2 :: e3 :: e4 :: e5 :: e6 :: e7 :: some (.int x) :: t) rest) : G E cl sl ad dm a b r pc (e0 :: e1 :: e2 :: e3 :: e4 :: e5 :: e6 :: e7 :: e8 :: t) (.int x :: rest) := fun H L ls hW hS hl => lv_istore C.1 C.2.1 d hl hn rfl (fun ls' h' => by
  subst hq
  refine k H L ls' hW hS (lh_st h' ho (fun w h => by cases h; rfl) (fun j w hj h => ?_))
  iterate 9 (rcases j with _ | j; (first | exact absurd rfl hj | exact h | exact absurd rfl hj2))
  exact h)
theorem g_astore_8 {e0 e1 e2 e3 e4 e5 e6 e7 e8 : Option Value} {x : Nat} {t : List (Option Value)} (C : CX E cc own lev) (d : decode cc pc = .ok (.astore 8, 2)) (hq : pc + 2 = q) (hn : 8 < eN E) (ho : okst (e0 :: e1 :: e2 :: e3 :: e4 :: e5 :: e6 :: e7 :: e8 :: t) 8 = true) (k : G E cl sl ad dm a b r q (e0 :: e1 :: e2 :: e3 :: e4 :: e5 :: e6 :: e7 :: some (.ref x) :: t) rest) : G E cl sl ad dm a b r pc (e0 :: e1 :: e2 :: e3 :: e4 :: e5 :: e6 :: e7 :: e8 :: t) (.ref x :: rest) := fun H L ls hW hS hl => lv_astore C.1 C.2.1 d hl hn rfl (fun ls' h' => by
  subst hq
  refine k H L ls' hW hS (lh_st h' ho (fun w h => by cases h; rfl) (fun j w hj h => ?_))
  iterate 9 (rcases j with _ | j; (first | exact absurd rfl hj | exact h | exact absurd rfl hj2))
  exact h)
theorem g_lstore_8 {e0 e1 e2 e3 e4 e5 e6 e7 e8 : Option Value} {f : Option Value} {x : Int64} {t : List (Option Value)} (C : CX E cc own lev) (d : decode cc pc = .ok (.lstore 8, 2)) (hq : pc + 2 = q) (hn : 9 < eN E) (ho : okst (e0 :: e1 :: e2 :: e3 :: e4 :: e5 :: e6 :: e7 :: e8 :: f :: t) 8 = true) (k : G E cl sl ad dm a b r q (e0 :: e1 :: e2 :: e3 :: e4 :: e5 :: e6 :: e7 :: some (.long x) :: none :: t) rest) : G E cl sl ad dm a b r pc (e0 :: e1 :: e2 :: e3 :: e4 :: e5 :: e6 :: e7 :: e8 :: f :: t) (.long x :: rest) := fun H L ls hW hS hl => lv_lstore C.1 C.2.1 d hl hn rfl (fun ls' h' => by
  subst hq
  refine k H L ls' hW hS (lh_st2 h' ho (fun w h => by cases h; rfl) (fun w h => by cases h) (fun j w hj hj2 h => ?_))
  iterate 10 (rcases j with _ | j; (first | exact absurd rfl hj | exact h | exact absurd rfl hj2))
  exact h)
theorem g_istore_9 {e0 e1 e2 e3 e4 e5 e6 e7 e8 e9 : Option Value} {x : Int32} {t : List (Option Value)} (C : CX E cc own lev) (d : decode cc pc = .ok (.istore 9, 2)) (hq : pc + 2 = q) (hn : 9 < eN E) (ho : okst (e0 :: e1 :: e2 :: e3 :: e4 :: e5 :: e6 :: e7 :: e8 :: e9 :: t) 9 = true) (k : G E cl sl ad dm a b r q (e0 :: e1 :: e2 :: e3 :: e4 :: e5 :: e6 :: e7 :: e8 :: some (.int x) :: t) rest) : G E cl sl ad dm a b r pc (e0 :: e1 :: e2 :: e3 :: e4 :: e5 :: e6 :: e7 :: e8 :: e9 :: t) (.int x :: rest) := fun H L ls hW hS hl => lv_istore C.1 C.2.1 d hl hn rfl (fun ls' h' => by
  subst hq
  refine k H L ls' hW hS (lh_st h' ho (fun w h => by cases h; rfl) (fun j w hj h => ?_))
  iterate 10 (rcases j with _ | j; (first | exact absurd rfl hj | exact h | exact absurd rfl hj2))
  exact h)
theorem g_astore_9 {e0 e1 e2 e3 e4 e5 e6 e7 e8 e9 : Option Value} {x : Nat} {t : List (Option Value)} (C : CX E cc own lev) (d : decode cc pc = .ok (.astore 9, 2)) (hq : pc + 2 = q) (hn : 9 < eN E) (ho : okst (e0 :: e1 :: e2 :: e3 :: e4 :: e5 :: e6 :: e7 :: e8 :: e9 :: t) 9 = true) (k : G E cl sl ad dm a b r q (e0 :: e1 :: e2 :: e3 :: e4 :: e5 :: e6 :: e7 :: e8 :: some (.ref x) :: t) rest) : G E cl sl ad dm a b r pc (e0 :: e1 :: e2 :: e3 :: e4 :: e5 :: e6 :: e7 :: e8 :: e9 :: t) (.ref x :: rest) := fun H L ls hW hS hl => lv_astore C.1 C.2.1 d hl hn rfl (fun ls' h' => by
  subst hq
  refine k H L ls' hW hS (lh_st h' ho (fun w h => by cases h; rfl) (fun j w hj h => ?_))
  iterate 10 (rcases j with _ | j; (first | exact absurd rfl hj | exact h | exact absurd rfl hj2))
  exact h)
theorem g_lstore_9 {e0 e1 e2 e3 e4 e5 e6 e7 e8 e9 : Option Value} {f : Option Value} {x : Int64} {t : List (Option Value)} (C : CX E cc own lev) (d : decode cc pc = .ok (.lstore 9, 2)) (hq : pc + 2 = q) (hn : 10 < eN E) (ho : okst (e0 :: e1 :: e2 :: e3 :: e4 :: e5 :: e6 :: e7 :: e8 :: e9 :: f :: t) 9 = true) (k : G E cl sl ad dm a b r q (e0 :: e1 :: e2 :: e3 :: e4 :: e5 :: e6 :: e7 :: e8 :: some (.long x) :: none :: t) rest) : G E cl sl ad dm a b r pc (e0 :: e1 :: e2 :: e3 :: e4 :: e5 :: e6 :: e7 :: e8 :: e9 :: f :: t) (.long x :: rest) := fun H L ls hW hS hl => lv_lstore C.1 C.2.1 d hl hn rfl (fun ls' h' => by
  subst hq
  refine k H L ls' hW hS (lh_st2 h' ho (fun w h => by cases h; rfl) (fun w h => by cases h) (fun j w hj hj2 h => ?_))
  iterate 11 (rcases j with _ | j; (first | exact absurd rfl hj | exact h | exact absurd rfl hj2))
  exact h)
theorem g_istore_10 {e0 e1 e2 e3 e4 e5 e6 e7 e8 e9 e10 : Option Value} {x : Int32} {t : List (Option Value)} (C : CX E cc own lev) (d : decode cc pc = .ok (.istore 10, 2)) (hq : pc + 2 = q) (hn : 10 < eN E) (ho : okst (e0 :: e1 :: e2 :: e3 :: e4 :: e5 :: e6 :: e7 :: e8 :: e9 :: e10 :: t) 10 = true) (k : G E cl sl ad dm a b r q (e0 :: e1 :: e2 :: e3 :: e4 :: e5 :: e6 :: e7 :: e8 :: e9 :: some (.int x) :: t) rest) : G E cl sl ad dm a b r pc (e0 :: e1 :: e2 :: e3 :: e4 :: e5 :: e6 :: e7 :: e8 :: e9 :: e10 :: t) (.int x :: rest) := fun H L ls hW hS hl => lv_istore C.1 C.2.1 d hl hn rfl (fun ls' h' => by
  subst hq
  refine k H L ls' hW hS (lh_st h' ho (fun w h => by cases h; rfl) (fun j w hj h => ?_))
  iterate 11 (rcases j with _ | j; (first | exact absurd rfl hj | exact h | exact absurd rfl hj2))
  exact h)
theorem g_astore_10 {e0 e1 e2 e3 e4 e5 e6 e7 e8 e9 e10 : Option Value} {x : Nat} {t : List (Option Value)} (C : CX E cc own lev) (d : decode cc pc = .ok (.astore 10, 2)) (hq : pc + 2 = q) (hn : 10 < eN E) (ho : okst (e0 :: e1 :: e2 :: e3 :: e4 :: e5 :: e6 :: e7 :: e8 :: e9 :: e10 :: t) 10 = true) (k : G E cl sl ad dm a b r q (e0 :: e1 :: e2 :: e3 :: e4 :: e5 :: e6 :: e7 :: e8 :: e9 :: some (.ref x) :: t) rest) : G E cl sl ad dm a b r pc (e0 :: e1 :: e2 :: e3 :: e4 :: e5 :: e6 :: e7 :: e8 :: e9 :: e10 :: t) (.ref x :: rest) := fun H L ls hW hS hl => lv_astore C.1 C.2.1 d hl hn rfl (fun ls' h' => by
  subst hq
  refine k H L ls' hW hS (lh_st h' ho (fun w h => by cases h; rfl) (fun j w hj h => ?_))
  iterate 11 (rcases j with _ | j; (first | exact absurd rfl hj | exact h | exact absurd rfl hj2))
  exact h)
theorem g_lstore_10 {e0 e1 e2 e3 e4 e5 e6 e7 e8 e9 e10 : Option Value} {f : Option Value} {x : Int64} {t : List (Option Value)} (C : CX E cc own lev) (d : decode cc pc = .ok (.lstore 10, 2)) (hq : pc + 2 = q) (hn : 11 < eN E) (ho : okst (e0 :: e1 :: e2 :: e3 :: e4 :: e5 :: e6 :: e7 :: e8 :: e9 :: e10 :: f :: t) 10 = true) (k : G E cl sl ad dm a b r q (e0 :: e1 :: e2 :: e3 :: e4 :: e5 :: e6 :: e7 :: e8 :: e9 :: some (.long x) :: none :: t) rest) : G E cl sl ad dm a b r pc (e0 :: e1 :: e2 :: e3 :: e4 :: e5 :: e6 :: e7 :: e8 :: e9 :: e10 :: f :: t) (.long x :: rest) := fun H L ls hW hS hl => lv_lstore C.1 C.2.1 d hl hn rfl (fun ls' h' => by
  subst hq
  refine k H L ls' hW hS (lh_st2 h' ho (fun w h => by cases h; rfl) (fun w h => by cases h) (fun j w hj hj2 h => ?_))
  iterate 12 (rcases j with _ | j; (first | exact absurd rfl hj | exact h | exact absurd rfl hj2))
  exact h)
theorem g_istore_11 {e0 e1 e2 e3 e4 e5 e6 e7 e8 e9 e10 e11 : Option Value} {x : Int32} {t : List (Option Value)} (C : CX E cc own lev) (d : decode cc pc = .ok (.istore 11, 2)) (hq : pc + 2 = q) (hn : 11 < eN E) (ho : okst (e0 :: e1 :: e2 :: e3 :: e4 :: e5 :: e6 :: e7 :: e8 :: e9 :: e10 :: e11 :: t) 11 = true) (k : G E cl sl ad dm a b r q (e0 :: e1 :: e2 :: e3 :: e4 :: e5 :: e6 :: e7 :: e8 :: e9 :: e10 :: some (.int x) :: t) rest) : G E cl sl ad dm a b r pc (e0 :: e1 :: e2 :: e3 :: e4 :: e5 :: e6 :: e7 :: e8 :: e9 :: e10 :: e11 :: t) (.int x :: rest) := fun H L ls hW hS hl => lv_istore C.1 C.2.1 d hl hn rfl (fun ls' h' => by
  subst hq
  refine k H L ls' hW hS (lh_st h' ho (fun w h => by cases h; rfl) (fun j w hj h => ?_))
  iterate 12 (rcases j with _ | j; (first | exact absurd rfl hj | exact h | exact absurd rfl hj2))
  exact h)
theorem g_astore_11 {e0 e1 e2 e3 e4 e5 e6 e7 e8 e9 e10 e11 : Option Value} {x : Nat} {t : List (Option Value)} (C : CX E cc own lev) (d : decode cc pc = .ok (.astore 11, 2)) (hq : pc + 2 = q) (hn : 11 < eN E) (ho : okst (e0 :: e1 :: e2 :: e3 :: e4 :: e5 :: e6 :: e7 :: e8 :: e9 :: e10 :: e11 :: t) 11 = true) (k : G E cl sl ad dm a b r q (e0 :: e1 :: e2 :: e3 :: e4 :: e5 :: e6 :: e7 :: e8 :: e9 :: e10 :: some (.ref x) :: t) rest) : G E cl sl ad dm a b r pc (e0 :: e1 :: e2 :: e3 :: e4 :: e5 :: e6 :: e7 :: e8 :: e9 :: e10 :: e11 :: t) (.ref x :: rest) := fun H L ls hW hS hl => lv_astore C.1 C.2.1 d hl hn rfl (fun ls' h' => by
  subst hq
  refine k H L ls' hW hS (lh_st h' ho (fun w h => by cases h; rfl) (fun j w hj h => ?_))
  iterate 12 (rcases j with _ | j; (first | exact absurd rfl hj | exact h | exact absurd rfl hj2))
  exact h)
theorem g_lstore_11 {e0 e1 e2 e3 e4 e5 e6 e7 e8 e9 e10 e11 : Option Value} {f : Option Value} {x : Int64} {t : List (Option Value)} (C : CX E cc own lev) (d : decode cc pc = .ok (.lstore 11, 2)) (hq : pc + 2 = q) (hn : 12 < eN E) (ho : okst (e0 :: e1 :: e2 :: e3 :: e4 :: e5 :: e6 :: e7 :: e8 :: e9 :: e10 :: e11 :: f :: t) 11 = true) (k : G E cl sl ad dm a b r q (e0 :: e1 :: e2 :: e3 :: e4 :: e5 :: e6 :: e7 :: e8 :: e9 :: e10 :: some (.long x) :: none :: t) rest) : G E cl sl ad dm a b r pc (e0 :: e1 :: e2 :: e3 :: e4 :: e5 :: e6 :: e7 :: e8 :: e9 :: e10 :: e11 :: f :: t) (.long x :: rest) := fun H L ls hW hS hl => lv_lstore C.1 C.2.1 d hl hn rfl (fun ls' h' => by
  subst hq
  refine k H L ls' hW hS (lh_st2 h' ho (fun w h => by cases h; rfl) (fun w h => by cases h) (fun j w hj hj2 h => ?_))
  iterate 13 (rcases j with _ | j; (first | exact absurd rfl hj | exact h | exact absurd rfl hj2))
  exact h)
theorem g_istore_12 {e0 e1 e2 e3 e4 e5 e6 e7 e8 e9 e10 e11 e12 : Option Value} {x : Int32} {t : List (Option Value)} (C : CX E cc own lev) (d : decode cc pc = .ok (.istore 12, 2)) (hq : pc + 2 = q) (hn : 12 < eN E) (ho : okst (e0 :: e1 :: e2 :: e3 :: e4 :: e5 :: e6 :: e7 :: e8 :: e9 :: e10 :: e11 :: e12 :: t) 12 = true) (k : G E cl sl ad dm a b r q (e0 :: e1 :: e2 :: e3 :: e4 :: e5 :: e6 :: e7 :: e8 :: e9 :: e10 :: e11 :: some (.int x) :: t) rest) : G E cl sl ad dm a b r pc (e0 :: e1 :: e2 :: e3 :: e4 :: e5 :: e6 :: e7 :: e8 :: e9 :: e10 :: e11 :: e12 :: t) (.int x :: rest) := fun H L ls hW hS hl => lv_istore C.1 C.2.1 d hl hn rfl (fun ls' h' => by
  subst hq
  refine k H L ls' hW hS (lh_st h' ho (fun w h => by cases h; rfl) (fun j w hj h => ?_))
  iterate 13 (rcases j with _ | j; (first | exact absurd rfl hj | exact h | exact absurd rfl hj2))
  exact h)
theorem g_astore_12 {e0 e1 e2 e3 e4 e5 e6 e7 e8 e9 e10 e11 e12 : Option Value} {x : Nat} {t : List (Option Value)} (C : CX E cc own lev) (d : decode cc pc = .ok (.astore 12, 2)) (hq : pc + 2 = q) (hn : 12 < eN E) (ho : okst (e0 :: e1 :: e2 :: e3 :: e4 :: e5 :: e6 :: e7 :: e8 :: e9 :: e10 :: e11 :: e12 :: t) 12 = true) (k : G E cl sl ad dm a b r q (e0 :: e1 :: e2 :: e3 :: e4 :: e5 :: e6 :: e7 :: e8 :: e9 :: e10 :: e11 :: some (.ref x) :: t) rest) : G E cl sl ad dm a b r pc (e0 :: e1 :: e2 :: e3 :: e4 :: e5 :: e6 :: e7 :: e8 :: e9 :: e10 :: e11 :: e12 :: t) (.ref x :: rest) := fun H L ls hW hS hl => lv_astore C.1 C.2.1 d hl hn rfl (fun ls' h' => by
  subst hq
  refine k H L ls' hW hS (lh_st h' ho (fun w h => by cases h; rfl) (fun j w hj h => ?_))
  iterate 13 (rcases j with _ | j; (first | exact absurd rfl hj | exact h | exact absurd rfl hj2))
  exact h)
theorem g_lstore_12 {e0 e1 e2 e3 e4 e5 e6 e7 e8 e9 e10 e11 e12 : Option Value} {f : Option Value} {x : Int64} {t : List (Option Value)} (C : CX E cc own lev) (d : decode cc pc = .ok (.lstore 12, 2)) (hq : pc + 2 = q) (hn : 13 < eN E) (ho : okst (e0 :: e1 :: e2 :: e3 :: e4 :: e5 :: e6 :: e7 :: e8 :: e9 :: e10 :: e11 :: e12 :: f :: t) 12 = true) (k : G E cl sl ad dm a b r q (e0 :: e1 :: e2 :: e3 :: e4 :: e5 :: e6 :: e7 :: e8 :: e9 :: e10 :: e11 :: some (.long x) :: none :: t) rest) : G E cl sl ad dm a b r pc (e0 :: e1 :: e2 :: e3 :: e4 :: e5 :: e6 :: e7 :: e8 :: e9 :: e10 :: e11 :: e12 :: f :: t) (.long x :: rest) := fun H L ls hW hS hl => lv_lstore C.1 C.2.1 d hl hn rfl (fun ls' h' => by
  subst hq
  refine k H L ls' hW hS (lh_st2 h' ho (fun w h => by cases h; rfl) (fun w h => by cases h) (fun j w hj hj2 h => ?_))
  iterate 14 (rcases j with _ | j; (first | exact absurd rfl hj | exact h | exact absurd rfl hj2))
  exact h)
theorem g_astore_1N {e0 e1 : Option Value} {t : List (Option Value)} (C : CX E cc own lev) (d : decode cc pc = .ok (.astore_n 1, 1)) (hq : pc + 1 = q) (hn : 1 < eN E) (ho : okst (e0 :: e1 :: t) 1 = true) (k : G E cl sl ad dm a b r q (e0 :: some .null :: t) rest) : G E cl sl ad dm a b r pc (e0 :: e1 :: t) (.null :: rest) := fun H L ls hW hS hl => lv_astore_nN C.1 C.2.1 d rfl hl hn rfl (fun ls' h' => by
  subst hq
  refine k H L ls' hW hS (lh_st h' ho (fun w h => by cases h; rfl) (fun j w hj h => ?_))
  iterate 2 (rcases j with _ | j; (first | exact absurd rfl hj | exact h))
  exact h)
theorem g_astore_2N {e0 e1 e2 : Option Value} {t : List (Option Value)} (C : CX E cc own lev) (d : decode cc pc = .ok (.astore_n 2, 1)) (hq : pc + 1 = q) (hn : 2 < eN E) (ho : okst (e0 :: e1 :: e2 :: t) 2 = true) (k : G E cl sl ad dm a b r q (e0 :: e1 :: some .null :: t) rest) : G E cl sl ad dm a b r pc (e0 :: e1 :: e2 :: t) (.null :: rest) := fun H L ls hW hS hl => lv_astore_nN C.1 C.2.1 d rfl hl hn rfl (fun ls' h' => by
  subst hq
  refine k H L ls' hW hS (lh_st h' ho (fun w h => by cases h; rfl) (fun j w hj h => ?_))
  iterate 3 (rcases j with _ | j; (first | exact absurd rfl hj | exact h))
  exact h)
theorem g_astore_3N {e0 e1 e2 e3 : Option Value} {t : List (Option Value)} (C : CX E cc own lev) (d : decode cc pc = .ok (.astore_n 3, 1)) (hq : pc + 1 = q) (hn : 3 < eN E) (ho : okst (e0 :: e1 :: e2 :: e3 :: t) 3 = true) (k : G E cl sl ad dm a b r q (e0 :: e1 :: e2 :: some .null :: t) rest) : G E cl sl ad dm a b r pc (e0 :: e1 :: e2 :: e3 :: t) (.null :: rest) := fun H L ls hW hS hl => lv_astore_nN C.1 C.2.1 d rfl hl hn rfl (fun ls' h' => by
  subst hq
  refine k H L ls' hW hS (lh_st h' ho (fun w h => by cases h; rfl) (fun j w hj h => ?_))
  iterate 4 (rcases j with _ | j; (first | exact absurd rfl hj | exact h))
  exact h)
theorem g_astore_4N {e0 e1 e2 e3 e4 : Option Value} {t : List (Option Value)} (C : CX E cc own lev) (d : decode cc pc = .ok (.astore 4, 2)) (hq : pc + 2 = q) (hn : 4 < eN E) (ho : okst (e0 :: e1 :: e2 :: e3 :: e4 :: t) 4 = true) (k : G E cl sl ad dm a b r q (e0 :: e1 :: e2 :: e3 :: some .null :: t) rest) : G E cl sl ad dm a b r pc (e0 :: e1 :: e2 :: e3 :: e4 :: t) (.null :: rest) := fun H L ls hW hS hl => lv_astoreN C.1 C.2.1 d hl hn rfl (fun ls' h' => by
  subst hq
  refine k H L ls' hW hS (lh_st h' ho (fun w h => by cases h; rfl) (fun j w hj h => ?_))
  iterate 5 (rcases j with _ | j; (first | exact absurd rfl hj | exact h))
  exact h)
theorem g_astore_5N {e0 e1 e2 e3 e4 e5 : Option Value} {t : List (Option Value)} (C : CX E cc own lev) (d : decode cc pc = .ok (.astore 5, 2)) (hq : pc + 2 = q) (hn : 5 < eN E) (ho : okst (e0 :: e1 :: e2 :: e3 :: e4 :: e5 :: t) 5 = true) (k : G E cl sl ad dm a b r q (e0 :: e1 :: e2 :: e3 :: e4 :: some .null :: t) rest) : G E cl sl ad dm a b r pc (e0 :: e1 :: e2 :: e3 :: e4 :: e5 :: t) (.null :: rest) := fun H L ls hW hS hl => lv_astoreN C.1 C.2.1 d hl hn rfl (fun ls' h' => by
  subst hq
  refine k H L ls' hW hS (lh_st h' ho (fun w h => by cases h; rfl) (fun j w hj h => ?_))
  iterate 6 (rcases j with _ | j; (first | exact absurd rfl hj | exact h))
  exact h)
theorem g_astore_6N {e0 e1 e2 e3 e4 e5 e6 : Option Value} {t : List (Option Value)} (C : CX E cc own lev) (d : decode cc pc = .ok (.astore 6, 2)) (hq : pc + 2 = q) (hn : 6 < eN E) (ho : okst (e0 :: e1 :: e2 :: e3 :: e4 :: e5 :: e6 :: t) 6 = true) (k : G E cl sl ad dm a b r q (e0 :: e1 :: e2 :: e3 :: e4 :: e5 :: some .null :: t) rest) : G E cl sl ad dm a b r pc (e0 :: e1 :: e2 :: e3 :: e4 :: e5 :: e6 :: t) (.null :: rest) := fun H L ls hW hS hl => lv_astoreN C.1 C.2.1 d hl hn rfl (fun ls' h' => by
  subst hq
  refine k H L ls' hW hS (lh_st h' ho (fun w h => by cases h; rfl) (fun j w hj h => ?_))
  iterate 7 (rcases j with _ | j; (first | exact absurd rfl hj | exact h))
  exact h)
theorem g_astore_7N {e0 e1 e2 e3 e4 e5 e6 e7 : Option Value} {t : List (Option Value)} (C : CX E cc own lev) (d : decode cc pc = .ok (.astore 7, 2)) (hq : pc + 2 = q) (hn : 7 < eN E) (ho : okst (e0 :: e1 :: e2 :: e3 :: e4 :: e5 :: e6 :: e7 :: t) 7 = true) (k : G E cl sl ad dm a b r q (e0 :: e1 :: e2 :: e3 :: e4 :: e5 :: e6 :: some .null :: t) rest) : G E cl sl ad dm a b r pc (e0 :: e1 :: e2 :: e3 :: e4 :: e5 :: e6 :: e7 :: t) (.null :: rest) := fun H L ls hW hS hl => lv_astoreN C.1 C.2.1 d hl hn rfl (fun ls' h' => by
  subst hq
  refine k H L ls' hW hS (lh_st h' ho (fun w h => by cases h; rfl) (fun j w hj h => ?_))
  iterate 8 (rcases j with _ | j; (first | exact absurd rfl hj | exact h))
  exact h)
theorem g_astore_8N {e0 e1 e2 e3 e4 e5 e6 e7 e8 : Option Value} {t : List (Option Value)} (C : CX E cc own lev) (d : decode cc pc = .ok (.astore 8, 2)) (hq : pc + 2 = q) (hn : 8 < eN E) (ho : okst (e0 :: e1 :: e2 :: e3 :: e4 :: e5 :: e6 :: e7 :: e8 :: t) 8 = true) (k : G E cl sl ad dm a b r q (e0 :: e1 :: e2 :: e3 :: e4 :: e5 :: e6 :: e7 :: some .null :: t) rest) : G E cl sl ad dm a b r pc (e0 :: e1 :: e2 :: e3 :: e4 :: e5 :: e6 :: e7 :: e8 :: t) (.null :: rest) := fun H L ls hW hS hl => lv_astoreN C.1 C.2.1 d hl hn rfl (fun ls' h' => by
  subst hq
  refine k H L ls' hW hS (lh_st h' ho (fun w h => by cases h; rfl) (fun j w hj h => ?_))
  iterate 9 (rcases j with _ | j; (first | exact absurd rfl hj | exact h))
  exact h)
theorem g_astore_9N {e0 e1 e2 e3 e4 e5 e6 e7 e8 e9 : Option Value} {t : List (Option Value)} (C : CX E cc own lev) (d : decode cc pc = .ok (.astore 9, 2)) (hq : pc + 2 = q) (hn : 9 < eN E) (ho : okst (e0 :: e1 :: e2 :: e3 :: e4 :: e5 :: e6 :: e7 :: e8 :: e9 :: t) 9 = true) (k : G E cl sl ad dm a b r q (e0 :: e1 :: e2 :: e3 :: e4 :: e5 :: e6 :: e7 :: e8 :: some .null :: t) rest) : G E cl sl ad dm a b r pc (e0 :: e1 :: e2 :: e3 :: e4 :: e5 :: e6 :: e7 :: e8 :: e9 :: t) (.null :: rest) := fun H L ls hW hS hl => lv_astoreN C.1 C.2.1 d hl hn rfl (fun ls' h' => by
  subst hq
  refine k H L ls' hW hS (lh_st h' ho (fun w h => by cases h; rfl) (fun j w hj h => ?_))
  iterate 10 (rcases j with _ | j; (first | exact absurd rfl hj | exact h))
  exact h)
theorem g_astore_10N {e0 e1 e2 e3 e4 e5 e6 e7 e8 e9 e10 : Option Value} {t : List (Option Value)} (C : CX E cc own lev) (d : decode cc pc = .ok (.astore 10, 2)) (hq : pc + 2 = q) (hn : 10 < eN E) (ho : okst (e0 :: e1 :: e2 :: e3 :: e4 :: e5 :: e6 :: e7 :: e8 :: e9 :: e10 :: t) 10 = true) (k : G E cl sl ad dm a b r q (e0 :: e1 :: e2 :: e3 :: e4 :: e5 :: e6 :: e7 :: e8 :: e9 :: some .null :: t) rest) : G E cl sl ad dm a b r pc (e0 :: e1 :: e2 :: e3 :: e4 :: e5 :: e6 :: e7 :: e8 :: e9 :: e10 :: t) (.null :: rest) := fun H L ls hW hS hl => lv_astoreN C.1 C.2.1 d hl hn rfl (fun ls' h' => by
  subst hq
  refine k H L ls' hW hS (lh_st h' ho (fun w h => by cases h; rfl) (fun j w hj h => ?_))
  iterate 11 (rcases j with _ | j; (first | exact absurd rfl hj | exact h))
  exact h)
theorem g_astore_11N {e0 e1 e2 e3 e4 e5 e6 e7 e8 e9 e10 e11 : Option Value} {t : List (Option Value)} (C : CX E cc own lev) (d : decode cc pc = .ok (.astore 11, 2)) (hq : pc + 2 = q) (hn : 11 < eN E) (ho : okst (e0 :: e1 :: e2 :: e3 :: e4 :: e5 :: e6 :: e7 :: e8 :: e9 :: e10 :: e11 :: t) 11 = true) (k : G E cl sl ad dm a b r q (e0 :: e1 :: e2 :: e3 :: e4 :: e5 :: e6 :: e7 :: e8 :: e9 :: e10 :: some .null :: t) rest) : G E cl sl ad dm a b r pc (e0 :: e1 :: e2 :: e3 :: e4 :: e5 :: e6 :: e7 :: e8 :: e9 :: e10 :: e11 :: t) (.null :: rest) := fun H L ls hW hS hl => lv_astoreN C.1 C.2.1 d hl hn rfl (fun ls' h' => by
  subst hq
  refine k H L ls' hW hS (lh_st h' ho (fun w h => by cases h; rfl) (fun j w hj h => ?_))
  iterate 12 (rcases j with _ | j; (first | exact absurd rfl hj | exact h))
  exact h)
theorem g_astore_12N {e0 e1 e2 e3 e4 e5 e6 e7 e8 e9 e10 e11 e12 : Option Value} {t : List (Option Value)} (C : CX E cc own lev) (d : decode cc pc = .ok (.astore 12, 2)) (hq : pc + 2 = q) (hn : 12 < eN E) (ho : okst (e0 :: e1 :: e2 :: e3 :: e4 :: e5 :: e6 :: e7 :: e8 :: e9 :: e10 :: e11 :: e12 :: t) 12 = true) (k : G E cl sl ad dm a b r q (e0 :: e1 :: e2 :: e3 :: e4 :: e5 :: e6 :: e7 :: e8 :: e9 :: e10 :: e11 :: some .null :: t) rest) : G E cl sl ad dm a b r pc (e0 :: e1 :: e2 :: e3 :: e4 :: e5 :: e6 :: e7 :: e8 :: e9 :: e10 :: e11 :: e12 :: t) (.null :: rest) := fun H L ls hW hS hl => lv_astoreN C.1 C.2.1 d hl hn rfl (fun ls' h' => by
  subst hq
  refine k H L ls' hW hS (lh_st h' ho (fun w h => by cases h; rfl) (fun j w hj h => ?_))
  iterate 13 (rcases j with _ | j; (first | exact absurd rfl hj | exact h))
  exact h)
theorem g_iinc_1 {e0 : Option Value} {n : Int} {x v : Int32} {t : List (Option Value)} (C : CX E cc own lev) (d : decode cc pc = .ok (.iinc 1 n, 3)) (hq : pc + 3 = q) (hn : 1 < eN E) (hv : x + Int32.ofInt n = v) (k : G E cl sl ad dm a b r q (e0 :: some (.int v) :: t) rest) (ho : okst (e0 :: some (.int x) :: t) 1 = true := by rfl) : G E cl sl ad dm a b r pc (e0 :: some (.int x) :: t) rest := fun H L ls hW hS hl => by
  have hm := las_mem (e0 :: some (.int x) :: t) 0 1 (.int x) rfl
  rw [Nat.zero_add] at hm
  obtain ⟨kk, hkk⟩ := List.getElem?_of_mem hm
  exact lv_iinc C.1 C.2.1 d hl hkk hv hn rfl (fun ls' h' => by
    subst hq
    refine k H L ls' hW hS (lh_st h' ho (fun w h => by cases h; rfl) (fun j w hj h => ?_))
    iterate 2 (rcases j with _ | j; (first | exact absurd rfl hj | exact h))
    exact h)
theorem g_iinc_2 {e0 e1 : Option Value} {n : Int} {x v : Int32} {t : List (Option Value)} (C : CX E cc own lev) (d : decode cc pc = .ok (.iinc 2 n, 3)) (hq : pc + 3 = q) (hn : 2 < eN E) (hv : x + Int32.ofInt n = v) (k : G E cl sl ad dm a b r q (e0 :: e1 :: some (.int v) :: t) rest) (ho : okst (e0 :: e1 :: some (.int x) :: t) 2 = true := by rfl) : G E cl sl ad dm a b r pc (e0 :: e1 :: some (.int x) :: t) rest := fun H L ls hW hS hl => by
  have hm := las_mem (e0 :: e1 :: some (.int x) :: t) 0 2 (.int x) rfl
  rw [Nat.zero_add] at hm
  obtain ⟨kk, hkk⟩ := List.getElem?_of_mem hm
  exact lv_iinc C.1 C.2.1 d hl hkk hv hn rfl (fun ls' h' => by
    subst hq
    refine k H L ls' hW hS (lh_st h' ho (fun w h => by cases h; rfl) (fun j w hj h => ?_))
    iterate 3 (rcases j with _ | j; (first | exact absurd rfl hj | exact h))
    exact h)
theorem g_iinc_3 {e0 e1 e2 : Option Value} {n : Int} {x v : Int32} {t : List (Option Value)} (C : CX E cc own lev) (d : decode cc pc = .ok (.iinc 3 n, 3)) (hq : pc + 3 = q) (hn : 3 < eN E) (hv : x + Int32.ofInt n = v) (k : G E cl sl ad dm a b r q (e0 :: e1 :: e2 :: some (.int v) :: t) rest) (ho : okst (e0 :: e1 :: e2 :: some (.int x) :: t) 3 = true := by rfl) : G E cl sl ad dm a b r pc (e0 :: e1 :: e2 :: some (.int x) :: t) rest := fun H L ls hW hS hl => by
  have hm := las_mem (e0 :: e1 :: e2 :: some (.int x) :: t) 0 3 (.int x) rfl
  rw [Nat.zero_add] at hm
  obtain ⟨kk, hkk⟩ := List.getElem?_of_mem hm
  exact lv_iinc C.1 C.2.1 d hl hkk hv hn rfl (fun ls' h' => by
    subst hq
    refine k H L ls' hW hS (lh_st h' ho (fun w h => by cases h; rfl) (fun j w hj h => ?_))
    iterate 4 (rcases j with _ | j; (first | exact absurd rfl hj | exact h))
    exact h)
theorem g_iinc_4 {e0 e1 e2 e3 : Option Value} {n : Int} {x v : Int32} {t : List (Option Value)} (C : CX E cc own lev) (d : decode cc pc = .ok (.iinc 4 n, 3)) (hq : pc + 3 = q) (hn : 4 < eN E) (hv : x + Int32.ofInt n = v) (k : G E cl sl ad dm a b r q (e0 :: e1 :: e2 :: e3 :: some (.int v) :: t) rest) (ho : okst (e0 :: e1 :: e2 :: e3 :: some (.int x) :: t) 4 = true := by rfl) : G E cl sl ad dm a b r pc (e0 :: e1 :: e2 :: e3 :: some (.int x) :: t) rest := fun H L ls hW hS hl => by
  have hm := las_mem (e0 :: e1 :: e2 :: e3 :: some (.int x) :: t) 0 4 (.int x) rfl
  rw [Nat.zero_add] at hm
  obtain ⟨kk, hkk⟩ := List.getElem?_of_mem hm
  exact lv_iinc C.1 C.2.1 d hl hkk hv hn rfl (fun ls' h' => by
    subst hq
    refine k H L ls' hW hS (lh_st h' ho (fun w h => by cases h; rfl) (fun j w hj h => ?_))
    iterate 5 (rcases j with _ | j; (first | exact absurd rfl hj | exact h))
    exact h)
theorem g_iinc_5 {e0 e1 e2 e3 e4 : Option Value} {n : Int} {x v : Int32} {t : List (Option Value)} (C : CX E cc own lev) (d : decode cc pc = .ok (.iinc 5 n, 3)) (hq : pc + 3 = q) (hn : 5 < eN E) (hv : x + Int32.ofInt n = v) (k : G E cl sl ad dm a b r q (e0 :: e1 :: e2 :: e3 :: e4 :: some (.int v) :: t) rest) (ho : okst (e0 :: e1 :: e2 :: e3 :: e4 :: some (.int x) :: t) 5 = true := by rfl) : G E cl sl ad dm a b r pc (e0 :: e1 :: e2 :: e3 :: e4 :: some (.int x) :: t) rest := fun H L ls hW hS hl => by
  have hm := las_mem (e0 :: e1 :: e2 :: e3 :: e4 :: some (.int x) :: t) 0 5 (.int x) rfl
  rw [Nat.zero_add] at hm
  obtain ⟨kk, hkk⟩ := List.getElem?_of_mem hm
  exact lv_iinc C.1 C.2.1 d hl hkk hv hn rfl (fun ls' h' => by
    subst hq
    refine k H L ls' hW hS (lh_st h' ho (fun w h => by cases h; rfl) (fun j w hj h => ?_))
    iterate 6 (rcases j with _ | j; (first | exact absurd rfl hj | exact h))
    exact h)
theorem g_iinc_6 {e0 e1 e2 e3 e4 e5 : Option Value} {n : Int} {x v : Int32} {t : List (Option Value)} (C : CX E cc own lev) (d : decode cc pc = .ok (.iinc 6 n, 3)) (hq : pc + 3 = q) (hn : 6 < eN E) (hv : x + Int32.ofInt n = v) (k : G E cl sl ad dm a b r q (e0 :: e1 :: e2 :: e3 :: e4 :: e5 :: some (.int v) :: t) rest) (ho : okst (e0 :: e1 :: e2 :: e3 :: e4 :: e5 :: some (.int x) :: t) 6 = true := by rfl) : G E cl sl ad dm a b r pc (e0 :: e1 :: e2 :: e3 :: e4 :: e5 :: some (.int x) :: t) rest := fun H L ls hW hS hl => by
  have hm := las_mem (e0 :: e1 :: e2 :: e3 :: e4 :: e5 :: some (.int x) :: t) 0 6 (.int x) rfl
  rw [Nat.zero_add] at hm
  obtain ⟨kk, hkk⟩ := List.getElem?_of_mem hm
  exact lv_iinc C.1 C.2.1 d hl hkk hv hn rfl (fun ls' h' => by
    subst hq
    refine k H L ls' hW hS (lh_st h' ho (fun w h => by cases h; rfl) (fun j w hj h => ?_))
    iterate 7 (rcases j with _ | j; (first | exact absurd rfl hj | exact h))
    exact h)
theorem g_iinc_7 {e0 e1 e2 e3 e4 e5 e6 : Option Value} {n : Int} {x v : Int32} {t : List (Option Value)} (C : CX E cc own lev) (d : decode cc pc = .ok (.iinc 7 n, 3)) (hq : pc + 3 = q) (hn : 7 < eN E) (hv : x + Int32.ofInt n = v) (k : G E cl sl ad dm a b r q (e0 :: e1 :: e2 :: e3 :: e4 :: e5 :: e6 :: some (.int v) :: t) rest) (ho : okst (e0 :: e1 :: e2 :: e3 :: e4 :: e5 :: e6 :: some (.int x) :: t) 7 = true := by rfl) : G E cl sl ad dm a b r pc (e0 :: e1 :: e2 :: e3 :: e4 :: e5 :: e6 :: some (.int x) :: t) rest := fun H L ls hW hS hl => by
  have hm := las_mem (e0 :: e1 :: e2 :: e3 :: e4 :: e5 :: e6 :: some (.int x) :: t) 0 7 (.int x) rfl
  rw [Nat.zero_add] at hm
  obtain ⟨kk, hkk⟩ := List.getElem?_of_mem hm
  exact lv_iinc C.1 C.2.1 d hl hkk hv hn rfl (fun ls' h' => by
    subst hq
    refine k H L ls' hW hS (lh_st h' ho (fun w h => by cases h; rfl) (fun j w hj h => ?_))
    iterate 8 (rcases j with _ | j; (first | exact absurd rfl hj | exact h))
    exact h)
theorem g_iinc_8 {e0 e1 e2 e3 e4 e5 e6 e7 : Option Value} {n : Int} {x v : Int32} {t : List (Option Value)} (C : CX E cc own lev) (d : decode cc pc = .ok (.iinc 8 n, 3)) (hq : pc + 3 = q) (hn : 8 < eN E) (hv : x + Int32.ofInt n = v) (k : G E cl sl ad dm a b r q (e0 :: e1 :: e2 :: e3 :: e4 :: e5 :: e6 :: e7 :: some (.int v) :: t) rest) (ho : okst (e0 :: e1 :: e2 :: e3 :: e4 :: e5 :: e6 :: e7 :: some (.int x) :: t) 8 = true := by rfl) : G E cl sl ad dm a b r pc (e0 :: e1 :: e2 :: e3 :: e4 :: e5 :: e6 :: e7 :: some (.int x) :: t) rest := fun H L ls hW hS hl => by
  have hm := las_mem (e0 :: e1 :: e2 :: e3 :: e4 :: e5 :: e6 :: e7 :: some (.int x) :: t) 0 8 (.int x) rfl
  rw [Nat.zero_add] at hm
  obtain ⟨kk, hkk⟩ := List.getElem?_of_mem hm
  exact lv_iinc C.1 C.2.1 d hl hkk hv hn rfl (fun ls' h' => by
    subst hq
    refine k H L ls' hW hS (lh_st h' ho (fun w h => by cases h; rfl) (fun j w hj h => ?_))
    iterate 9 (rcases j with _ | j; (first | exact absurd rfl hj | exact h))
    exact h)
theorem g_iinc_9 {e0 e1 e2 e3 e4 e5 e6 e7 e8 : Option Value} {n : Int} {x v : Int32} {t : List (Option Value)} (C : CX E cc own lev) (d : decode cc pc = .ok (.iinc 9 n, 3)) (hq : pc + 3 = q) (hn : 9 < eN E) (hv : x + Int32.ofInt n = v) (k : G E cl sl ad dm a b r q (e0 :: e1 :: e2 :: e3 :: e4 :: e5 :: e6 :: e7 :: e8 :: some (.int v) :: t) rest) (ho : okst (e0 :: e1 :: e2 :: e3 :: e4 :: e5 :: e6 :: e7 :: e8 :: some (.int x) :: t) 9 = true := by rfl) : G E cl sl ad dm a b r pc (e0 :: e1 :: e2 :: e3 :: e4 :: e5 :: e6 :: e7 :: e8 :: some (.int x) :: t) rest := fun H L ls hW hS hl => by
  have hm := las_mem (e0 :: e1 :: e2 :: e3 :: e4 :: e5 :: e6 :: e7 :: e8 :: some (.int x) :: t) 0 9 (.int x) rfl
  rw [Nat.zero_add] at hm
  obtain ⟨kk, hkk⟩ := List.getElem?_of_mem hm
  exact lv_iinc C.1 C.2.1 d hl hkk hv hn rfl (fun ls' h' => by
    subst hq
    refine k H L ls' hW hS (lh_st h' ho (fun w h => by cases h; rfl) (fun j w hj h => ?_))
    iterate 10 (rcases j with _ | j; (first | exact absurd rfl hj | exact h))
    exact h)
theorem g_iinc_10 {e0 e1 e2 e3 e4 e5 e6 e7 e8 e9 : Option Value} {n : Int} {x v : Int32} {t : List (Option Value)} (C : CX E cc own lev) (d : decode cc pc = .ok (.iinc 10 n, 3)) (hq : pc + 3 = q) (hn : 10 < eN E) (hv : x + Int32.ofInt n = v) (k : G E cl sl ad dm a b r q (e0 :: e1 :: e2 :: e3 :: e4 :: e5 :: e6 :: e7 :: e8 :: e9 :: some (.int v) :: t) rest) (ho : okst (e0 :: e1 :: e2 :: e3 :: e4 :: e5 :: e6 :: e7 :: e8 :: e9 :: some (.int x) :: t) 10 = true := by rfl) : G E cl sl ad dm a b r pc (e0 :: e1 :: e2 :: e3 :: e4 :: e5 :: e6 :: e7 :: e8 :: e9 :: some (.int x) :: t) rest := fun H L ls hW hS hl => by
  have hm := las_mem (e0 :: e1 :: e2 :: e3 :: e4 :: e5 :: e6 :: e7 :: e8 :: e9 :: some (.int x) :: t) 0 10 (.int x) rfl
  rw [Nat.zero_add] at hm
  obtain ⟨kk, hkk⟩ := List.getElem?_of_mem hm
  exact lv_iinc C.1 C.2.1 d hl hkk hv hn rfl (fun ls' h' => by
    subst hq
    refine k H L ls' hW hS (lh_st h' ho (fun w h => by cases h; rfl) (fun j w hj h => ?_))
    iterate 11 (rcases j with _ | j; (first | exact absurd rfl hj | exact h))
    exact h)
theorem g_iinc_11 {e0 e1 e2 e3 e4 e5 e6 e7 e8 e9 e10 : Option Value} {n : Int} {x v : Int32} {t : List (Option Value)} (C : CX E cc own lev) (d : decode cc pc = .ok (.iinc 11 n, 3)) (hq : pc + 3 = q) (hn : 11 < eN E) (hv : x + Int32.ofInt n = v) (k : G E cl sl ad dm a b r q (e0 :: e1 :: e2 :: e3 :: e4 :: e5 :: e6 :: e7 :: e8 :: e9 :: e10 :: some (.int v) :: t) rest) (ho : okst (e0 :: e1 :: e2 :: e3 :: e4 :: e5 :: e6 :: e7 :: e8 :: e9 :: e10 :: some (.int x) :: t) 11 = true := by rfl) : G E cl sl ad dm a b r pc (e0 :: e1 :: e2 :: e3 :: e4 :: e5 :: e6 :: e7 :: e8 :: e9 :: e10 :: some (.int x) :: t) rest := fun H L ls hW hS hl => by
  have hm := las_mem (e0 :: e1 :: e2 :: e3 :: e4 :: e5 :: e6 :: e7 :: e8 :: e9 :: e10 :: some (.int x) :: t) 0 11 (.int x) rfl
  rw [Nat.zero_add] at hm
  obtain ⟨kk, hkk⟩ := List.getElem?_of_mem hm
  exact lv_iinc C.1 C.2.1 d hl hkk hv hn rfl (fun ls' h' => by
    subst hq
    refine k H L ls' hW hS (lh_st h' ho (fun w h => by cases h; rfl) (fun j w hj h => ?_))
    iterate 12 (rcases j with _ | j; (first | exact absurd rfl hj | exact h))
    exact h)
theorem g_iinc_12 {e0 e1 e2 e3 e4 e5 e6 e7 e8 e9 e10 e11 : Option Value} {n : Int} {x v : Int32} {t : List (Option Value)} (C : CX E cc own lev) (d : decode cc pc = .ok (.iinc 12 n, 3)) (hq : pc + 3 = q) (hn : 12 < eN E) (hv : x + Int32.ofInt n = v) (k : G E cl sl ad dm a b r q (e0 :: e1 :: e2 :: e3 :: e4 :: e5 :: e6 :: e7 :: e8 :: e9 :: e10 :: e11 :: some (.int v) :: t) rest) (ho : okst (e0 :: e1 :: e2 :: e3 :: e4 :: e5 :: e6 :: e7 :: e8 :: e9 :: e10 :: e11 :: some (.int x) :: t) 12 = true := by rfl) : G E cl sl ad dm a b r pc (e0 :: e1 :: e2 :: e3 :: e4 :: e5 :: e6 :: e7 :: e8 :: e9 :: e10 :: e11 :: some (.int x) :: t) rest := fun H L ls hW hS hl => by
  have hm := las_mem (e0 :: e1 :: e2 :: e3 :: e4 :: e5 :: e6 :: e7 :: e8 :: e9 :: e10 :: e11 :: some (.int x) :: t) 0 12 (.int x) rfl
  rw [Nat.zero_add] at hm
  obtain ⟨kk, hkk⟩ := List.getElem?_of_mem hm
  exact lv_iinc C.1 C.2.1 d hl hkk hv hn rfl (fun ls' h' => by
    subst hq
    refine k H L ls' hW hS (lh_st h' ho (fun w h => by cases h; rfl) (fun j w hj h => ?_))
    iterate 13 (rcases j with _ | j; (first | exact absurd rfl hj | exact h))
    exact h)
theorem g_if_eq {x : Int32} {off : Int} {tgt : Nat} (C : CX E cc own lev) (d : decode cc pc = .ok (.ifCond .eq off, 3)) (hq : pc + 3 = q) (ht : (pc : Int) + off = (tgt : Int)) (kt : x = 0 → G E cl sl ad dm a b r tgt lo rest) (kf : ¬ x = 0 → G E cl sl ad dm a b r q lo rest) : G E cl sl ad dm a b r pc lo (.int x :: rest) := fun H L ls hW hS hl => lv_if_eq C.1 C.2.1 d ht (fun h => kt h H L ls hW hS hl) (fun h => by subst hq; exact kf h H L ls hW hS hl)
theorem g_if_ne {x : Int32} {off : Int} {tgt : Nat} (C : CX E cc own lev) (d : decode cc pc = .ok (.ifCond .ne off, 3)) (hq : pc + 3 = q) (ht : (pc : Int) + off = (tgt : Int)) (kt : ¬ x = 0 → G E cl sl ad dm a b r tgt lo rest) (kf : x = 0 → G E cl sl ad dm a b r q lo rest) : G E cl sl ad dm a b r pc lo (.int x :: rest) := fun H L ls hW hS hl => lv_if_ne C.1 C.2.1 d ht (fun h => kt h H L ls hW hS hl) (fun h => by subst hq; exact kf h H L ls hW hS hl)
theorem g_if_lt {x : Int32} {off : Int} {tgt : Nat} (C : CX E cc own lev) (d : decode cc pc = .ok (.ifCond .lt off, 3)) (hq : pc + 3 = q) (ht : (pc : Int) + off = (tgt : Int)) (kt : x < 0 → G E cl sl ad dm a b r tgt lo rest) (kf : ¬ x < 0 → G E cl sl ad dm a b r q lo rest) : G E cl sl ad dm a b r pc lo (.int x :: rest) := fun H L ls hW hS hl => lv_if_lt C.1 C.2.1 d ht (fun h => kt h H L ls hW hS hl) (fun h => by subst hq; exact kf h H L ls hW hS hl)
theorem g_if_ge {x : Int32} {off : Int} {tgt : Nat} (C : CX E cc own lev) (d : decode cc pc = .ok (.ifCond .ge off, 3)) (hq : pc + 3 = q) (ht : (pc : Int) + off = (tgt : Int)) (kt : 0 ≤ x → G E cl sl ad dm a b r tgt lo rest) (kf : ¬ 0 ≤ x → G E cl sl ad dm a b r q lo rest) : G E cl sl ad dm a b r pc lo (.int x :: rest) := fun H L ls hW hS hl => lv_if_ge C.1 C.2.1 d ht (fun h => kt h H L ls hW hS hl) (fun h => by subst hq; exact kf h H L ls hW hS hl)
theorem g_if_gt {x : Int32} {off : Int} {tgt : Nat} (C : CX E cc own lev) (d : decode cc pc = .ok (.ifCond .gt off, 3)) (hq : pc + 3 = q) (ht : (pc : Int) + off = (tgt : Int)) (kt : 0 < x → G E cl sl ad dm a b r tgt lo rest) (kf : ¬ 0 < x → G E cl sl ad dm a b r q lo rest) : G E cl sl ad dm a b r pc lo (.int x :: rest) := fun H L ls hW hS hl => lv_if_gt C.1 C.2.1 d ht (fun h => kt h H L ls hW hS hl) (fun h => by subst hq; exact kf h H L ls hW hS hl)
theorem g_if_le {x : Int32} {off : Int} {tgt : Nat} (C : CX E cc own lev) (d : decode cc pc = .ok (.ifCond .le off, 3)) (hq : pc + 3 = q) (ht : (pc : Int) + off = (tgt : Int)) (kt : x ≤ 0 → G E cl sl ad dm a b r tgt lo rest) (kf : ¬ x ≤ 0 → G E cl sl ad dm a b r q lo rest) : G E cl sl ad dm a b r pc lo (.int x :: rest) := fun H L ls hW hS hl => lv_if_le C.1 C.2.1 d ht (fun h => kt h H L ls hW hS hl) (fun h => by subst hq; exact kf h H L ls hW hS hl)
theorem g_icmp_eq {x y : Int32} {off : Int} {tgt : Nat} (C : CX E cc own lev) (d : decode cc pc = .ok (.if_icmp .eq off, 3)) (hq : pc + 3 = q) (ht : (pc : Int) + off = (tgt : Int)) (kt : x = y → G E cl sl ad dm a b r tgt lo rest) (kf : ¬ x = y → G E cl sl ad dm a b r q lo rest) : G E cl sl ad dm a b r pc lo (.int y :: .int x :: rest) := fun H L ls hW hS hl => lv_icmp_eq C.1 C.2.1 d ht (fun h => kt h H L ls hW hS hl) (fun h => by subst hq; exact kf h H L ls hW hS hl)
theorem g_icmp_ne {x y : Int32} {off : Int} {tgt : Nat} (C : CX E cc own lev) (d : decode cc pc = .ok (.if_icmp .ne off, 3)) (hq : pc + 3 = q) (ht : (pc : Int) + off = (tgt : Int)) (kt : ¬ x = y → G E cl sl ad dm a b r tgt lo rest) (kf : x = y → G E cl sl ad dm a b r q lo rest) : G E cl sl ad dm a b r pc lo (.int y :: .int x :: rest) := fun H L ls hW hS hl => lv_icmp_ne C.1 C.2.1 d ht (fun h => kt h H L ls hW hS hl) (fun h => by subst hq; exact kf h H L ls hW hS hl)
theorem g_icmp_lt {x y : Int32} {off : Int} {tgt : Nat} (C : CX E cc own lev) (d : decode cc pc = .ok (.if_icmp .lt off, 3)) (hq : pc + 3 = q) (ht : (pc : Int) + off = (tgt : Int)) (kt : x < y → G E cl sl ad dm a b r tgt lo rest) (kf : ¬ x < y → G E cl sl ad dm a b r q lo rest) : G E cl sl ad dm a b r pc lo (.int y :: .int x :: rest) := fun H L ls hW hS hl => lv_icmp_lt C.1 C.2.1 d ht (fun h => kt h H L ls hW hS hl) (fun h => by subst hq; exact kf h H L ls hW hS hl)
theorem g_icmp_ge {x y : Int32} {off : Int} {tgt : Nat} (C : CX E cc own lev) (d : decode cc pc = .ok (.if_icmp .ge off, 3)) (hq : pc + 3 = q) (ht : (pc : Int) + off = (tgt : Int)) (kt : y ≤ x → G E cl sl ad dm a b r tgt lo rest) (kf : ¬ y ≤ x → G E cl sl ad dm a b r q lo rest) : G E cl sl ad dm a b r pc lo (.int y :: .int x :: rest) := fun H L ls hW hS hl => lv_icmp_ge C.1 C.2.1 d ht (fun h => kt h H L ls hW hS hl) (fun h => by subst hq; exact kf h H L ls hW hS hl)
theorem g_icmp_gt {x y : Int32} {off : Int} {tgt : Nat} (C : CX E cc own lev) (d : decode cc pc = .ok (.if_icmp .gt off, 3)) (hq : pc + 3 = q) (ht : (pc : Int) + off = (tgt : Int)) (kt : y < x → G E cl sl ad dm a b r tgt lo rest) (kf : ¬ y < x → G E cl sl ad dm a b r q lo rest) : G E cl sl ad dm a b r pc lo (.int y :: .int x :: rest) := fun H L ls hW hS hl => lv_icmp_gt C.1 C.2.1 d ht (fun h => kt h H L ls hW hS hl) (fun h => by subst hq; exact kf h H L ls hW hS hl)
theorem g_icmp_le {x y : Int32} {off : Int} {tgt : Nat} (C : CX E cc own lev) (d : decode cc pc = .ok (.if_icmp .le off, 3)) (hq : pc + 3 = q) (ht : (pc : Int) + off = (tgt : Int)) (kt : x ≤ y → G E cl sl ad dm a b r tgt lo rest) (kf : ¬ x ≤ y → G E cl sl ad dm a b r q lo rest) : G E cl sl ad dm a b r pc lo (.int y :: .int x :: rest) := fun H L ls hW hS hl => lv_icmp_le C.1 C.2.1 d ht (fun h => kt h H L ls hW hS hl) (fun h => by subst hq; exact kf h H L ls hW hS hl)
theorem g_goto {off : Int} {tgt : Nat} {st : List Value} (C : CX E cc own lev) (d : decode cc pc = .ok (.goto off, 3)) (ht : (pc : Int) + off = (tgt : Int)) (k : G E cl sl ad dm a b r tgt lo st) : G E cl sl ad dm a b r pc lo st := fun H L ls hW hS hl => lv_goto C.1 C.2.1 d ht (k H L ls hW hS hl)
theorem g_ifnonnull {n : Nat} {off : Int} {tgt : Nat} (C : CX E cc own lev) (d : decode cc pc = .ok (.ifnonnull off, 3)) (ht : (pc : Int) + off = (tgt : Int)) (k : G E cl sl ad dm a b r tgt lo rest) : G E cl sl ad dm a b r pc lo (.ref n :: rest) := fun H L ls hW hS hl => lv_ifnonnull C.1 C.2.1 d ht (k H L ls hW hS hl)
theorem g_ifnull {n : Nat} {off : Int} (C : CX E cc own lev) (d : decode cc pc = .ok (.ifnull off, 3)) (hq : pc + 3 = q) (k : G E cl sl ad dm a b r q lo rest) : G E cl sl ad dm a b r pc lo (.ref n :: rest) := fun H L ls hW hS hl => lv_ifnull C.1 C.2.1 d (by subst hq; exact k H L ls hW hS hl)
theorem g_ifnullN {off : Int} {tgt : Nat} (C : CX E cc own lev) (d : decode cc pc = .ok (.ifnull off, 3)) (ht : (pc : Int) + off = (tgt : Int)) (k : G E cl sl ad dm a b r tgt lo rest) : G E cl sl ad dm a b r pc lo (.null :: rest) := fun H L ls hW hS hl => lv_ifnullN C.1 C.2.1 d ht (k H L ls hW hS hl)
theorem g_ifnonnullN {off : Int} (C : CX E cc own lev) (d : decode cc pc = .ok (.ifnonnull off, 3)) (hq : pc + 3 = q) (k : G E cl sl ad dm a b r q lo rest) : G E cl sl ad dm a b r pc lo (.null :: rest) := fun H L ls hW hS hl => lv_ifnonnullN C.1 C.2.1 d (by subst hq; exact k H L ls hW hS hl)
/-- two references, by their names -/
theorem g_acmp_eq {x y : Nat} {off : Int} {tgt : Nat} (C : CX E cc own lev) (d : decode cc pc = .ok (.if_acmp .eq off, 3)) (hq : pc + 3 = q) (ht : (pc : Int) + off = (tgt : Int)) (hx : dm x = true) (hy : dm y = true) (kt : x = y → G E cl sl ad dm a b r tgt lo rest) (kf : ¬ x = y → G E cl sl ad dm a b r q lo rest) : G E cl sl ad dm a b r pc lo (.ref (ad y) :: .ref (ad x) :: rest) := fun H L ls hW hS hl => by
  subst hq
  have e : (some (ad x) = some (ad y)) ↔ x = y := ⟨fun h => hW.2.2 x y hx hy (Option.some.inj h), fun h => by rw [h]⟩
  exact lv_acmp_eq (rx := some (ad x)) (ry := some (ad y)) C.1 C.2.1 d ht (fun h => kt (e.mp h) H L ls hW hS hl) (fun h => kf (fun z => h (e.mpr z)) H L ls hW hS hl)
theorem g_acmp_eqN1 {x : Nat} {off : Int} {tgt : Nat} (C : CX E cc own lev) (d : decode cc pc = .ok (.if_acmp .eq off, 3)) (hq : pc + 3 = q) (ht : (pc : Int) + off = (tgt : Int)) (k : G E cl sl ad dm a b r q lo rest) : G E cl sl ad dm a b r pc lo (.ref x :: .null :: rest) := fun H L ls hW hS hl => by
  subst hq
  exact lv_acmp_eq (rx := none) (ry := some x) C.1 C.2.1 d ht (fun h => by cases h) (fun h => k H L ls hW hS hl)
theorem g_acmp_eqN2 {x : Nat} {off : Int} {tgt : Nat} (C : CX E cc own lev) (d : decode cc pc = .ok (.if_acmp .eq off, 3)) (hq : pc + 3 = q) (ht : (pc : Int) + off = (tgt : Int)) (k : G E cl sl ad dm a b r q lo rest) : G E cl sl ad dm a b r pc lo (.null :: .ref x :: rest) := fun H L ls hW hS hl => by
  subst hq
  exact lv_acmp_eq (rx := some x) (ry := none) C.1 C.2.1 d ht (fun h => by cases h) (fun h => k H L ls hW hS hl)
/-- two references, by their names -/
theorem g_acmp_ne {x y : Nat} {off : Int} {tgt : Nat} (C : CX E cc own lev) (d : decode cc pc = .ok (.if_acmp .ne off, 3)) (hq : pc + 3 = q) (ht : (pc : Int) + off = (tgt : Int)) (hx : dm x = true) (hy : dm y = true) (kt : ¬ x = y → G E cl sl ad dm a b r tgt lo rest) (kf : x = y → G E cl sl ad dm a b r q lo rest) : G E cl sl ad dm a b r pc lo (.ref (ad y) :: .ref (ad x) :: rest) := fun H L ls hW hS hl => by
  subst hq
  have e : (some (ad x) = some (ad y)) ↔ x = y := ⟨fun h => hW.2.2 x y hx hy (Option.some.inj h), fun h => by rw [h]⟩
  exact lv_acmp_ne (rx := some (ad x)) (ry := some (ad y)) C.1 C.2.1 d ht (fun h => kt (fun z => h (e.mpr z)) H L ls hW hS hl) (fun h => kf (e.mp h) H L ls hW hS hl)
theorem g_acmp_neN1 {x : Nat} {off : Int} {tgt : Nat} (C : CX E cc own lev) (d : decode cc pc = .ok (.if_acmp .ne off, 3)) (hq : pc + 3 = q) (ht : (pc : Int) + off = (tgt : Int)) (k : G E cl sl ad dm a b r tgt lo rest) : G E cl sl ad dm a b r pc lo (.ref x :: .null :: rest) := fun H L ls hW hS hl => by
  subst hq
  exact lv_acmp_ne (rx := none) (ry := some x) C.1 C.2.1 d ht (fun h => k H L ls hW hS hl) (fun h => by cases h)
theorem g_acmp_neN2 {x : Nat} {off : Int} {tgt : Nat} (C : CX E cc own lev) (d : decode cc pc = .ok (.if_acmp .ne off, 3)) (hq : pc + 3 = q) (ht : (pc : Int) + off = (tgt : Int)) (k : G E cl sl ad dm a b r tgt lo rest) : G E cl sl ad dm a b r pc lo (.null :: .ref x :: rest) := fun H L ls hW hS hl => by
  subst hq
  exact lv_acmp_ne (rx := some x) (ry := none) C.1 C.2.1 d ht (fun h => k H L ls hW hS hl) (fun h => by cases h)
theorem g_tableOut {dflt lw hi : Int} {offs : Array Int} {len : Nat} {x : Int32} {tgt : Nat} (C : CX E cc own lev) (d : decode cc pc = .ok (.tableswitch dflt lw hi offs, len)) (h : x.toInt < lw ∨ hi < x.toInt) (ht : (pc : Int) + dflt = (tgt : Int)) (k : G E cl sl ad dm a b r tgt lo rest) : G E cl sl ad dm a b r pc lo (.int x :: rest) := fun H L ls hW hS hl => lv_tableOut C.1 C.2.1 d h ht (k H L ls hW hS hl)
theorem g_tableIn {dflt lw hi : Int} {offs : Array Int} {len : Nat} {x : Int32} {off : Int} {tgt : Nat} (C : CX E cc own lev) (d : decode cc pc = .ok (.tableswitch dflt lw hi offs, len)) (h1 : ¬ x.toInt < lw) (h2 : ¬ hi < x.toInt) (ho : offs[(x.toInt - lw).toNat]? = some off) (ht : (pc : Int) + off = (tgt : Int)) (k : G E cl sl ad dm a b r tgt lo rest) : G E cl sl ad dm a b r pc lo (.int x :: rest) := fun H L ls hW hS hl => lv_tableIn C.1 C.2.1 d h1 h2 ho ht (k H L ls hW hS hl)
end GR
