/-! THE CLASS'S STATE: the same flights, parties and numbers -/
def IX (dm : Nat → Bool) (nF nP : Nat) : Prop := nF ≤ 8 ∧ nP ≤ 20 ∧ (∀ n, n < 17 → dm n = true) ∧ (∀ i, i < nF → dm (20 + i) = true) ∧ ∀ j, j < nP → dm (30 + j) = true
section X14
variable {dm : Nat → Bool} {a : Nat → Nat → Int32} {r : Nat → Nat → Option Nat} {nF nP : Nat} {fl pa nu : Nat → Int32}
theorem IX.d0 (h : IX dm nF nP) (n : Nat) (hn : n < 17) : dm n = true := h.2.2.1 n hn
theorem IX.df (h : IX dm nF nP) {i : Nat} (hi : i < nF) : dm (20 + i) = true := h.2.2.2.1 i hi
theorem IX.dp (h : IX dm nF nP) {j : Nat} (hj : j < nP) : dm (30 + j) = true := h.2.2.2.2 j hj
theorem IX.lf (h : IX dm nF nP) {i : Nat} (hi : i < nF) : ly (20 + i) = .inl 0 := ly_F (Nat.lt_of_lt_of_le hi h.1)
theorem IX.lp (h : IX dm nF nP) {j : Nat} (hj : j < nP) : ly (30 + j) = .inl 2 := ly_P (Nat.lt_of_lt_of_le hj h.2.1)
def wr (o : Option Nat) (nF : Nat) (v : Int32) : Prop := (o = none ∧ v = -1) ∨ ∃ i, i < nF ∧ o = some (20 + i) ∧ v = nI i
def XR (nF nP : Nat) (fl pa nu : Nat → Int32) (dm : Nat → Bool) (a : Nat → Nat → Int32) (r : Nat → Nat → Option Nat) : Prop :=
  IX dm nF nP ∧ a 0 5 = nI nF ∧ a 0 6 = nI nP ∧ a 0 7 = nu 0 ∧ (∀ k, k < 3 → a 3 k = nu (k + 1)) ∧ (∀ i, i < nF → r 1 i = some (20 + i) ∧ a (20 + i) 0 = nI i ∧ ∀ k, k < 7 → a (20 + i) (k + 1) = fl (7 * i + k)) ∧ ∀ j, j < nP → r 2 j = some (30 + j) ∧ (∃ o, o < nF ∧ r (30 + j) 0 = some (20 + o) ∧ pa (9 * j) = nI o) ∧ (∀ k, 1 ≤ k → k ≤ 6 → a (30 + j) k = pa (9 * j + k)) ∧ wr (r (30 + j) 7) nF (pa (9 * j + 7)) ∧ wr (r (30 + j) 8) nF (pa (9 * j + 8))
theorem XR.ch (h : XR nF nP fl pa nu dm a r) : a 0 7 = nu 0 := h.2.2.2.1
theorem XR.fe (h : XR nF nP fl pa nu dm a r) {k : Nat} (hk : k < 3) : a 3 k = nu (k + 1) := h.2.2.2.2.1 k hk
theorem XR.rf (h : XR nF nP fl pa nu dm a r) {i : Nat} (hi : i < nF) : r 1 i = some (20 + i) := (h.2.2.2.2.2.1 i hi).1
theorem XR.rp (h : XR nF nP fl pa nu dm a r) {j : Nat} (hj : j < nP) : r 2 j = some (30 + j) := (h.2.2.2.2.2.2 j hj).1
theorem XR.no (h : XR nF nP fl pa nu dm a r) {i : Nat} (hi : i < nF) : a (20 + i) 0 = nI i := (h.2.2.2.2.2.1 i hi).2.1
theorem XR.fk (h : XR nF nP fl pa nu dm a r) {i : Nat} (hi : i < nF) {k : Nat} (hk : k < 7) : a (20 + i) (k + 1) = fl (7 * i + k) := (h.2.2.2.2.2.1 i hi).2.2 k hk
theorem XR.f0 (h : XR nF nP fl pa nu dm a r) {i : Nat} (hi : i < nF) : a (20 + i) 1 = fl (7 * i) := h.fk hi (k := 0) (by decide)
theorem XR.pt (h : XR nF nP fl pa nu dm a r) {j : Nat} (hj : j < nP) : ∃ o, o < nF ∧ r (30 + j) 0 = some (20 + o) ∧ pa (9 * j) = nI o ∧ pa (9 * j + 1) = a (30 + j) 1 ∧ pa (9 * j + 2) = a (30 + j) 2 ∧ pa (9 * j + 3) = a (30 + j) 3 ∧ pa (9 * j + 4) = a (30 + j) 4 ∧ pa (9 * j + 5) = a (30 + j) 5 ∧ pa (9 * j + 6) = a (30 + j) 6 ∧ wr (r (30 + j) 7) nF (pa (9 * j + 7)) ∧ wr (r (30 + j) 8) nF (pa (9 * j + 8)) := by
  obtain ⟨-, ⟨o, ho, ro, eo⟩, ek, w7, w8⟩ := h.2.2.2.2.2.2 j hj
  exact ⟨o, ho, ro, eo, (ek 1 (by decide) (by decide)).symm, (ek 2 (by decide) (by decide)).symm, (ek 3 (by decide) (by decide)).symm, (ek 4 (by decide) (by decide)).symm, (ek 5 (by decide) (by decide)).symm, (ek 6 (by decide) (by decide)).symm, w7, w8⟩
/-- flies on a flight; is stranded -/
def fyS (pa : Nat → Int32) (f : Int32) (p : Nat) : Bool := decide (pa (9 * p + 5) = 0) && decide (pa (9 * p) = f)
def sdS (pa : Nat → Int32) (p : Nat) : Bool := decide (¬ pa (9 * p + 5) = 0) && decide (pa (9 * p + 7) = -1)
theorem nI_in8 {o i nF : Nat} (ho : o < nF) (hi : i < nF) (hn : nF ≤ 8) : nI o = nI i ↔ o = i := nI_eq (by omega) (by omega)
theorem mg_fy {f : Int32} {p : Nat} : mgS pa f p = (fyS pa f p && decide (pa (9 * p + 3) ≠ -1) && decide (pa (9 * p + 4) = 0)) := by
  unfold mgS fyS
  rw [Bool.and_comm (decide (pa (9 * p) = f))]
end X14
theorem XR.nF {dm : Nat → Bool} {a : Nat → Nat → Int32} {r : Nat → Nat → Option Nat} {nF nP : Nat} {fl pa nu : Nat → Int32} (h : XR nF nP fl pa nu dm a r) : a 0 5 = nI nF := h.2.1
theorem XR.nP {dm : Nat → Bool} {a : Nat → Nat → Int32} {r : Nat → Nat → Option Nat} {nF nP : Nat} {fl pa nu : Nat → Int32} (h : XR nF nP fl pa nu dm a r) : a 0 6 = nI nP := h.2.2.1
