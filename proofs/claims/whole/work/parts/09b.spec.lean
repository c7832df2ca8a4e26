/-! what the methods answer, in the specification's words -/
abbrev cN (x : Int32) : Nat := x.toNatClampNeg
theorem cN_nI {n : Nat} (h : n < 2 ^ 31) : cN (nI n) = n := nI_clamp h
def wv (nF : Nat) (v : Int32) : Prop := v = -1 ∨ ∃ i, i < nF ∧ v = nI i
/-- well-formed parties, flights, numbers -/
def WP (nF nP : Nat) (pa : Nat → Int32) : Prop := ∀ p, p < nP → (∃ o, o < nF ∧ pa (9 * p) = nI o) ∧ (∃ s, 1 ≤ s ∧ s ≤ 6 ∧ pa (9 * p + 1) = nI s) ∧ (∃ k, k ≤ 9 ∧ pa (9 * p + 2) = nI k) ∧ (pa (9 * p + 3) = -1 ∨ ∃ k, k ≤ 999 ∧ pa (9 * p + 3) = nI k) ∧ (pa (9 * p + 4) = 0 ∨ pa (9 * p + 4) = 1) ∧ (pa (9 * p + 5) = 0 ∨ pa (9 * p + 5) = 1 ∨ pa (9 * p + 5) = 2) ∧ (∃ k, k ≤ 999 ∧ pa (9 * p + 6) = nI k) ∧ wv nF (pa (9 * p + 7)) ∧ wv nF (pa (9 * p + 8)) ∧ (pa (9 * p + 5) = 0 → pa (9 * p + 6) = 0 ∧ pa (9 * p + 7) = -1 ∧ pa (9 * p + 8) = -1) ∧ (pa (9 * p + 7) = -1 → pa (9 * p + 8) = -1) ∧ pa (9 * p + 7) ≠ pa (9 * p) ∧ pa (9 * p + 8) ≠ pa (9 * p)
def WF (nF : Nat) (fl : Nat → Int32) : Prop := ∀ i, i < nF → (∃ k, k ≤ 7 ∧ fl (7 * i) = nI k) ∧ (∃ k, k ≤ 7 ∧ fl (7 * i + 1) = nI k) ∧ fl (7 * i) ≠ fl (7 * i + 1) ∧ (∃ d r, d < r ∧ r ≤ 9999 ∧ fl (7 * i + 2) = nI d ∧ fl (7 * i + 3) = nI r) ∧ (∃ s, 1 ≤ s ∧ s ≤ 40 ∧ fl (7 * i + 4) = nI s) ∧ (∃ m, 1 ≤ m ∧ m ≤ 9999 ∧ fl (7 * i + 5) = nI m) ∧ (fl (7 * i + 6) = 0 ∨ fl (7 * i + 6) = 1)
def WN (nu : Nat → Int32) : Prop := (∃ c, c ≤ 300 ∧ nu 0 = nI c) ∧ ∀ k, k < 3 → ∃ f, f ≤ 9999 ∧ nu (k + 1) = nI f
/-- people with MUST that fly -/
def msc (pa : Nat → Int32) (f : Int32) (p : Nat) : Bool := decide (pa (9 * p) = f) && decide (pa (9 * p + 4) = 1) && decide (pa (9 * p + 5) = 0)
def smS (pa : Nat → Int32) (c : Nat → Bool) : Nat → Int32
  | 0 => 0
  | n + 1 => if c n = true then smS pa c n + pa (9 * n + 1) else smS pa c n
def tdS (fl pa : Nat → Int32) (nF nP : Nat) (f what : Int32) : Int32 := if fok nF f = true then (if what = 0 then ldS pa f nP else if what = 1 then ovS fl pa nP (cN f) else if what = 2 then fl (7 * cN f + 4) else if what = 3 then fl (7 * cN f + 6) else if what = 4 then smS pa (msc pa f) nP else -1) else -1
/-- ways -/
def w1 (fl : Nat → Int32) (own i : Nat) : Bool := decide (i ≠ own) && decide (fl (7 * i + 6) ≠ 1) && decide (fl (7 * i) = fl (7 * own)) && decide (¬ fl (7 * i + 2) < fl (7 * own + 2))
def w2 (fl nu : Nat → Int32) (i j : Nat) : Bool := decide (fl (7 * j + 6) ≠ 1) && decide (fl (7 * j) = fl (7 * i + 1)) && decide (¬ fl (7 * j + 2) < fl (7 * i + 3) + nu 0)
def wyS (fl nu : Nat → Int32) (own i : Nat) : Option Nat → Bool
  | none => w1 fl own i && decide (fl (7 * i + 1) = fl (7 * own + 1))
  | some j => w1 fl own i && w2 fl nu i j && decide (fl (7 * j + 1) = fl (7 * own + 1))
def ltS (fl : Nat → Int32) (own z : Nat) : Int32 := mx0 (fl (7 * z + 3) - fl (7 * own + 3))
def lbS (fl nu : Nat → Int32) (own i : Nat) (j : Option Nat) : Int32 := if wyS fl nu own i j = true then ltS fl own (j.getD i) else -1
def lbI (fl nu : Nat → Int32) (nF own : Nat) (x y : Int32) : Int32 := if fok nF x = true then (if y = -1 then lbS fl nu own (cN x) none else if fok nF y = true then lbS fl nu own (cN x) (some (cN y)) else -1) else -1
def loS (fl pa : Nat → Int32) (p : Nat) : Int32 := if pa (9 * p + 7) = -1 then -1 else ltS fl (cN (pa (9 * p))) (cN (if pa (9 * p + 8) = -1 then pa (9 * p + 7) else pa (9 * p + 8)))
def bsS (fl pa nu : Nat → Int32) (p : Nat) : Int32 := if fl (7 * cN (pa (9 * p)) + 5) ≤ 1500 then nu 1 else if fl (7 * cN (pa (9 * p)) + 5) ≤ 3500 then nu 2 else nu 3
def clS (fl pa nu : Nat → Int32) (p : Nat) : Int32 := if pa (9 * p + 5) = 0 then 0 else if pa (9 * p + 5) = 1 then pa (9 * p + 6) * pa (9 * p + 1) else (if loS fl pa p = -1 then bsS fl pa nu p else if loS fl pa p < 120 then 0 else if loS fl pa p < 240 then bsS fl pa nu p / 2 else bsS fl pa nu p) * pa (9 * p + 1)
def ofS (fl pa nu : Nat → Int32) (p : Nat) (what : Int32) : Int32 := if what = 0 then pa (9 * p + 5) else if what = 1 then pa (9 * p) else if what = 2 then pa (9 * p + 1) else if what = 3 then pa (9 * p + 6) else if what = 4 then pa (9 * p + 7) else if what = 5 then pa (9 * p + 8) else if what = 6 then loS fl pa p else clS fl pa nu p
def ofK (nP : Nat) (p what : Int32) : Bool := fok nP p && inR what 0 7
/-- count -/
def cnc (fl pa : Nat → Int32) (what : Int32) (p : Nat) : Bool := if what = 2 then (decide (pa (9 * p + 5) = 0) && decide (fl (7 * cN (pa (9 * p)) + 6) = 0)) else if what = 3 then decide (pa (9 * p + 5) = 1) else if what = 4 then decide (pa (9 * p + 5) = 2) else if what = 5 then (decide (0 < pa (9 * p + 5)) && decide (pa (9 * p + 7) ≠ -1)) else false
def csS (fl pa nu : Nat → Int32) : Nat → Int32
  | 0 => 0
  | n + 1 => csS fl pa nu n + clS fl pa nu n
def cnS (fl pa nu : Nat → Int32) (nF nP : Nat) (what : Int32) : Int32 := if what = 0 then nI nF else if what = 1 then nI nP else if inR what 2 6 = true then (if what = 6 then csS fl pa nu nP else smS pa (cnc fl pa what) nP) else -1
/-- who may give -/
def mgS (pa : Nat → Int32) (f : Int32) (p : Nat) : Bool := decide (pa (9 * p) = f) && decide (pa (9 * p + 5) = 0) && decide (pa (9 * p + 3) ≠ -1) && decide (pa (9 * p + 4) = 0)
/-- stranded -/
def stc (pa : Nat → Int32) (p : Nat) : Bool := decide (0 < pa (9 * p + 5)) && decide (pa (9 * p + 7) = -1)
def ctS (c : Nat → Bool) : Nat → Nat
  | 0 => 0
  | n + 1 => if c n = true then ctS c n + 1 else ctS c n
theorem ctS_le (c : Nat → Bool) : ∀ n, ctS c n ≤ n
  | 0 => Nat.le_refl _
  | n + 1 => by
    have h := ctS_le c n
    unfold ctS
    split <;> omega
/-- set -/
def seK (what v : Int32) : Bool := inR what 0 3 && inR v 0 (if what = 0 then 300 else 9999)
/-- undo -/
def unc (fl pa : Nat → Int32) (p : Nat) : Bool := decide (pa (9 * p + 7) ≠ -1) && !(decide (fl (7 * cN (pa (9 * p + 7)) + 6) = 0) && (decide (pa (9 * p + 8) = -1) || decide (fl (7 * cN (pa (9 * p + 8)) + 6) = 0)))
/-- the parties behind: where c says so, the slots 7 and 8 are NONE -/
def unP (c : Nat → Bool) (pa : Nat → Int32) : Nat → Nat → Int32
  | 0 => pa
  | n + 1 => if c n = true then fun j => if j = 9 * n + 8 then -1 else if j = 9 * n + 7 then -1 else unP c pa n j else unP c pa n
/-- a party gives: state 1, coin, no way -/
def gvP (pa : Nat → Int32) (p : Nat) (st coin : Int32) : Nat → Int32 := fun j => if j = 9 * p + 8 then -1 else if j = 9 * p + 7 then -1 else if j = 9 * p + 6 then coin else if j = 9 * p + 5 then st else pa j
theorem IM.th {dm : Nat → Bool} {a : Nat → Nat → Int32} {nF nP : Nat} (h : IM dm a nF nP) {x : Int32} : IM dm (u2 a 100 5 x) nF nP := h
/-- another row of the model is written -/
theorem IM.u {dm : Nat → Bool} {a : Nat → Nat → Int32} {nF nP n k : Nat} {x : Int32} (h : IM dm a nF nP) (hn : 100 ≠ n) : IM dm (u2 a n k x) nF nP := ⟨h.1, by rw [u2_n hn]; exact h.2.1, h.2.2.1, by rw [u2_n hn]; exact h.2.2.2.1, h.2.2.2.2⟩
