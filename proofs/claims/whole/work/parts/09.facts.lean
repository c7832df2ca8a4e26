/-! small facts; the words of the specification: fl (flights, 7 a flight), pa (parties, 9 a party), nu (numbers), nF, nP -/
theorem nar_bI (c : Bool) : narrow .boolean (.int (bI c)) = .int (bI c) := by cases c <;> rfl
theorem bI_t : bI true = 1 := rfl
theorem bI_f : bI false = 0 := rfl
theorem i_lt (a b : Int32) : a < b ↔ a.toInt < b.toInt := Int32.lt_iff_toInt_lt
theorem i_le (a b : Int32) : a ≤ b ↔ a.toInt ≤ b.toInt := Int32.le_iff_toInt_le
theorem i_eq (a b : Int32) : a = b ↔ a.toInt = b.toInt := Int32.toInt_inj.symm
theorem i_0 : (0 : Int32).toInt = 0 := rfl
def inR (v x y : Int32) : Bool := decide (x ≤ v) && decide (v ≤ y)
theorem in_f1 {v x y : Int32} (h : v < x) : inR v x y = false := by
  unfold inR
  rw [decide_eq_false (by rw [i_le]; rw [i_lt] at h; omega)]
  rfl
theorem in_f2 {v x y : Int32} (h : y < v) : inR v x y = false := by
  unfold inR
  rw [decide_eq_false (p := v ≤ y) (by rw [i_le]; rw [i_lt] at h; omega), Bool.and_false]
theorem in_t {v x y : Int32} (h : ¬ v < x) (h2 : ¬ y < v) : inR v x y = true := by
  unfold inR
  rw [decide_eq_true (by rw [i_le]; rw [i_lt] at h; omega), decide_eq_true (p := v ≤ y) (by rw [i_le]; rw [i_lt] at h2; omega)]
  rfl
theorem inR_t {v x y : Int32} (h : inR v x y = true) : x ≤ v ∧ v ≤ y := by
  unfold inR at h
  simpa using h
theorem inR_f {v x y : Int32} (h : inR v x y = false) : ¬ (x ≤ v ∧ v ≤ y) := by
  unfold inR at h
  simpa using h
/-- a number of 0 .. n - 1 -/
def fok (n : Nat) (v : Int32) : Bool := inR v 0 (nI n - 1)
theorem nm1 {n : Nat} (h : n < 2 ^ 30) : (nI n - 1).toInt = (n : Int) - 1 := by
  have h1 := pk_sub_toInt (a := n) (b := 1) h (by decide)
  exact h1
theorem fok_t {n : Nat} {v : Int32} (h : fok n v = true) (hn : n < 2 ^ 30) : ∃ i, i < n ∧ v = nI i := by
  obtain ⟨h1, h2⟩ := inR_t h
  rw [i_le, i_0] at h1
  rw [i_le, nm1 hn] at h2
  obtain ⟨j, hj, rfl⟩ := nI_of (x := v) (by rw [i_lt, i_0]; omega)
  rw [nI_toInt hj] at h2
  exact ⟨j, by omega, rfl⟩
theorem fok_i {n i : Nat} (h : i < n) (hn : n < 2 ^ 30) : fok n (nI i) = true := by
  refine in_t ?_ ?_
  · rw [i_lt, i_0, nI_toInt (by omega)]
    omega
  · rw [i_lt, nm1 hn, nI_toInt (by omega)]
    omega
theorem fok_f {n : Nat} {v : Int32} (h : fok n v = false) (hn : n < 2 ^ 30) : ∀ i, i < n → v ≠ nI i := fun i hi e => by
  rw [e, fok_i hi hn] at h
  cases h
theorem ix9 (p k : Nat) : (9 : Int32) * nI p + nI k = nI (9 * p + k) := by
  rw [show (9 : Int32) = nI 9 from rfl, pk_mul, nI_add]
theorem ix7 (p k : Nat) : (7 : Int32) * nI p + nI k = nI (7 * p + k) := by
  rw [show (7 : Int32) = nI 7 from rfl, pk_mul, nI_add]
theorem sw_t {x : Int32} {k : Nat} (hk : k < 2 ^ 31) (h : ¬ x = nI k) : x.toInt ≠ k := fun e => h ((i_eq _ _).mpr (by rw [e, nI_toInt hk]))
theorem sw_out5 {x : Int32} (h0 : ¬ x = 0) (h1 : ¬ x = 1) (h2 : ¬ x = 2) (h3 : ¬ x = 3) (h4 : ¬ x = 4) : x.toInt < 0 ∨ 4 < x.toInt := by
  have g0 := sw_t (k := 0) (by decide) h0
  have g1 := sw_t (k := 1) (by decide) h1
  have g2 := sw_t (k := 2) (by decide) h2
  have g3 := sw_t (k := 3) (by decide) h3
  have g4 := sw_t (k := 4) (by decide) h4
  omega
theorem sw_out7 {x : Int32} (h0 : ¬ x = 0) (h1 : ¬ x = 1) (h2 : ¬ x = 2) (h3 : ¬ x = 3) (h4 : ¬ x = 4) (h5 : ¬ x = 5) (h6 : ¬ x = 6) : x.toInt < 0 ∨ 6 < x.toInt := by
  have g0 := sw_out5 h0 h1 h2 h3 h4
  have g5 := sw_t (k := 5) (by decide) h5
  have g6 := sw_t (k := 6) (by decide) h6
  omega
theorem sw_out8 {x : Int32} (h0 : ¬ x = 0) (h1 : ¬ x = 1) (h2 : ¬ x = 2) (h3 : ¬ x = 3) (h4 : ¬ x = 4) (h5 : ¬ x = 5) (h6 : ¬ x = 6) (h7 : ¬ x = 7) : x.toInt < 0 ∨ 7 < x.toInt := by
  have g0 := sw_out7 h0 h1 h2 h3 h4 h5 h6
  have g7 := sw_t (k := 7) (by decide) h7
  omega
/-- the model's cells are there; how many flights, parties -/
def IM (dm : Nat → Bool) (a : Nat → Nat → Int32) (nF nP : Nat) : Prop := (∀ n, 100 ≤ n → n < 115 → dm n = true) ∧ a 100 1 = nI nF ∧ nF ≤ 8 ∧ a 100 3 = nI nP ∧ nP ≤ 20
theorem IM.d {dm : Nat → Bool} {a : Nat → Nat → Int32} {nF nP : Nat} (h : IM dm a nF nP) (n : Nat) (h1 : 100 ≤ n) (h2 : n < 115) : dm n = true := h.1 n h1 h2
theorem IM.nF {dm : Nat → Bool} {a : Nat → Nat → Int32} {nF nP : Nat} (h : IM dm a nF nP) : a 100 1 = nI nF := h.2.1
theorem IM.nP {dm : Nat → Bool} {a : Nat → Nat → Int32} {nF nP : Nat} (h : IM dm a nF nP) : a 100 3 = nI nP := h.2.2.2.1
/-- the parties that take seats of a flight -/
def flyc (pa : Nat → Int32) (f : Int32) (p : Nat) : Bool := if pa (9 * p + 5) = 0 then decide (pa (9 * p) = f) else (decide (pa (9 * p + 7) = f) || decide (pa (9 * p + 8) = f))
def ldS (pa : Nat → Int32) (f : Int32) : Nat → Int32
  | 0 => 0
  | n + 1 => if flyc pa f n = true then ldS pa f n + pa (9 * n + 1) else ldS pa f n
def mx0 (x : Int32) : Int32 := if 0 < x then x else 0
def ovS (fl pa : Nat → Int32) (nP f : Nat) : Int32 := if fl (7 * f + 6) = 1 then ldS pa (nI f) nP else mx0 (ldS pa (nI f) nP - fl (7 * f + 4))
