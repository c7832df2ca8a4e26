/-! the class's table: a long for each sum; longs as numbers -/
section D27
variable {nF nP : Nat} {fl pa nu : Nat → Int32}
theorem y_lI {a : Nat} (h : a < 2 ^ 63) : (lN a).toInt = (a : Int) := pk_lT h
theorem y_shr {a d : Nat} {D : Int64} (hD : (D.toBitVec.smod 64).toNat = d) (h : a < 2 ^ 62) : lN a >>> D = lN (a / 2 ^ d) := by
  have hd : a / 2 ^ d ≤ a := Nat.div_le_self _ _
  apply Int64.toInt_inj.mp
  have e : (lN a >>> D).toInt = (lN a).toInt >>> d := by
    rw [← hD]
    exact BitVec.toInt_sshiftRight ..
  rw [e, Int.shiftRight_eq_div_pow, y_lI (by omega), y_lI (by omega)]
  rfl
theorem y_and (a b : Nat) : lN a &&& lN b = lN (a &&& b) := by
  apply Int64.toBitVec_inj.1
  show BitVec.ofNat 64 a &&& BitVec.ofNat 64 b = BitVec.ofNat 64 (a &&& b)
  apply BitVec.eq_of_getLsbD_eq
  intro i hi
  simp [hi]
theorem y_sm : ∀ p, p < 21 → (((nI p).toInt64 &&& 63).toBitVec.smod 64).toNat = p := by decide +kernel
theorem y_bit {n p : Nat} (hn : n < 2 ^ 62) (hp : p < 20) : (lN n >>> ((nI p).toInt64 &&& 63)) &&& 1 = lN (n / 2 ^ p % 2) := by
  rw [y_shr (y_sm p (by omega)) hn, show (1 : Int64) = lN 1 from rfl, y_and, Nat.and_one_is_mod]
theorem y_coin {n : Nat} (hn : n < 2 ^ 62) : (lN n >>> ((20 : Int32).toInt64 &&& 63)).toInt32 = nI (n / 2 ^ 20) := by
  rw [show (20 : Int32) = nI 20 from rfl, y_shr (y_sm 20 (by decide)) hn, lN_i]
theorem lc_lt (x y : Int64) : lg_cmp x y < 0 ↔ x < y := by
  have h := lg_cmp_ge x y
  constructor
  · intro h1
    have h2 : ¬ 0 ≤ lg_cmp x y := Int32.not_le.mpr h1
    rw [h] at h2
    exact Int64.not_le.mp h2
  · intro h1
    refine Int32.not_le.mp (fun h2 => ?_)
    exact Int64.not_le.mpr h1 (h.mp h2)
theorem lc_ge (x y : Int64) : 0 ≤ lg_cmp x y ↔ y ≤ x := lg_cmp_ge x y
theorem lc_eq (x y : Int64) : lg_cmp x y = 0 ↔ x = y := by
  unfold lg_cmp
  constructor
  · intro h
    split at h
    · exact absurd h (by decide)
    · split at h
      · assumption
      · exact absurd h (by decide)
  · intro h
    subst h
    rw [if_neg (by simp only [gt_iff_lt, Int64.lt_iff_toInt_lt]; omega), if_pos rfl]
theorem lN_n0 {n : Nat} (h : n < 2 ^ 62) : ¬ lN n < 0 := by
  rw [show (0 : Int64) = lN 0 from rfl, pk_lLT (by omega) (by decide)]
  omega
theorem lN_0le {n : Nat} (h : n < 2 ^ 62) : 0 ≤ lN n := by
  rw [show (0 : Int64) = lN 0 from rfl, pk_lLE (by decide) (by omega)]
  omega
/-- a set's number -/
def ec (q : Nat × Nat) : Nat := q.1 * 2 ^ 20 + q.2
def rpX (ch : Nat → Int64) (s : Nat) (x : Option (Nat × Nat)) : Prop := match x with
  | none => ch s = -1
  | some q => ch s = lN (ec q)
theorem ec_lt {q w : Nat × Nat} (hq : q.2 < 2 ^ 20) (hw : w.2 < 2 ^ 20) : ec w < ec q ↔ w.1 < q.1 ∨ (w.1 = q.1 ∧ w.2 < q.2) := by
  unfold ec
  have h20 : (2 : Nat) ^ 20 = 1048576 := by decide
  rw [h20] at *
  constructor
  · intro h
    rcases Nat.lt_trichotomy w.1 q.1 with h1 | h1 | h1
    · exact Or.inl h1
    · exact Or.inr ⟨h1, by rw [h1] at h; omega⟩
    · exfalso; omega
  · rintro (h | ⟨h, h2⟩)
    · omega
    · rw [h]; omega
theorem ec_sm {q : Nat × Nat} (h1 : q.1 < 200000) (h2 : q.2 < 2 ^ 20) : ec q < 2 ^ 40 := by
  unfold ec
  have h20 : (2 : Nat) ^ 20 = 1048576 := by decide
  have h40 : (2 : Nat) ^ 40 = 1099511627776 := by decide
  rw [h20] at *
  omega
theorem ec_div {q : Nat × Nat} (h2 : q.2 < 2 ^ 20) : ec q / 2 ^ 20 = q.1 := by
  unfold ec
  have h20 : (2 : Nat) ^ 20 = 1048576 := by decide
  rw [h20] at *
  omega
theorem ec_bit {q : Nat × Nat} {p : Nat} (hp : p < 20) : ec q / 2 ^ p % 2 = q.2 / 2 ^ p % 2 := by
  unfold ec
  have h1 : q.1 * 2 ^ 20 = 2 ^ p * (2 * (q.1 * 2 ^ (19 - p))) := by
    have : 2 ^ 20 = 2 ^ p * (2 * 2 ^ (19 - p)) := by
      rw [← Nat.pow_succ', ← Nat.pow_add]
      congr 1
      omega
    rw [this, Nat.mul_left_comm, Nat.mul_left_comm q.1]
  rw [h1, Nat.mul_add_div (Nat.two_pow_pos p)]
  omega
theorem ec_add {q : Nat × Nat} {v p : Nat} : lN (ec q) + lN (v * 2 ^ 20 + 2 ^ p) = lN (ec (q.1 + v, q.2 + 2 ^ p)) := by
  have e : ec q + (v * 2 ^ 20 + 2 ^ p) = ec (q.1 + v, q.2 + 2 ^ p) := by
    unfold ec
    dsimp only
    generalize 2 ^ p = z
    rw [Nat.add_mul]
    omega
  rw [lN_add, e]
/-- the class's rule is the table's -/
theorem dx_take {ch : Nat → Int64} {k : Nat} {x : Option (Nat × Nat)} {w : Nat × Nat} (h : rpX ch k x) (hb : ∀ q, x = some q → q.1 < 200000 ∧ q.2 < 2 ^ 20) (hw : w.1 < 200000 ∧ w.2 < 2 ^ 20) (c : ch k < 0 ∨ lN (ec w) < ch k) : mnD x (some w) = some w := by
  cases x with
  | none => rfl
  | some q =>
    have hq := hb q rfl
    have s1 := ec_sm hq.1 hq.2
    have s2 := ec_sm hw.1 hw.2
    have h : ch k = lN (ec q) := h
    rw [h] at c
    rcases c with c | c
    · exact absurd c (lN_n0 (by omega))
    · rw [pk_lLT (by omega) (by omega), ec_lt hq.2 hw.2] at c
      unfold mnD
      dsimp only
      rw [if_pos c]
theorem dx_skip {ch : Nat → Int64} {k : Nat} {x : Option (Nat × Nat)} {w : Nat × Nat} (h : rpX ch k x) (hb : ∀ q, x = some q → q.1 < 200000 ∧ q.2 < 2 ^ 20) (hw : w.1 < 200000 ∧ w.2 < 2 ^ 20) (c0 : ¬ ch k < 0) (c : ch k ≤ lN (ec w)) : mnD x (some w) = x := by
  cases x with
  | none =>
    have h : ch k = -1 := h
    rw [h] at c0
    exact absurd (by decide) c0
  | some q =>
    have hq := hb q rfl
    have s1 := ec_sm hq.1 hq.2
    have s2 := ec_sm hw.1 hw.2
    have h : ch k = lN (ec q) := h
    rw [h, pk_lLE (by omega) (by omega)] at c
    unfold mnD
    dsimp only
    rw [if_neg (fun z => by rw [← ec_lt hq.2 hw.2] at z; omega)]
theorem dx_none {ch : Nat → Int64} {k : Nat} {x : Option (Nat × Nat)} (h : rpX ch k x) (hb : ∀ q, x = some q → q.1 < 200000 ∧ q.2 < 2 ^ 20) (c : ch k < 0) : x = none := by
  cases x with
  | none => rfl
  | some q =>
    have hq := hb q rfl
    have s1 := ec_sm hq.1 hq.2
    have h : ch k = lN (ec q) := h
    rw [h] at c
    exact absurd c (lN_n0 (by omega))
theorem dx_some {ch : Nat → Int64} {k : Nat} {x : Option (Nat × Nat)} (h : rpX ch k x) (c : ¬ ch k < 0) : ∃ q, x = some q ∧ ch k = lN (ec q) := by
  cases x with
  | none =>
    have h : ch k = -1 := h
    rw [h] at c
    exact absurd (by decide) c
  | some q => exact ⟨q, rfl, h⟩
theorem DP_far (W : WP nF nP pa) {f : Int32} {p s : Nat} (hp : p ≤ nP) (h : sN pa (mgS pa f) p < s) : DP pa f p s = none := by
  cases h9 : DP pa f p s with
  | none => rfl
  | some q =>
    have := (DP_bd W f hp s q h9).2.2
    omega
theorem y_shl : ∀ p, p < 20 → (1 : Int64) <<< ((nI p).toInt64 &&& 63) = lN (2 ^ p) := by decide +kernel
theorem y_sh20 {n : Nat} : lN n <<< ((20 : Int32).toInt64 &&& 63) = lN (n * 2 ^ 20) := by
  apply Int64.toBitVec_inj.1
  rw [Int64.toBitVec_shiftLeft]
  show BitVec.ofNat 64 n <<< (((20 : Int32).toInt64 &&& 63).toBitVec.smod 64) = BitVec.ofNat 64 (n * 2 ^ 20)
  rw [show (((20 : Int32).toInt64 &&& 63).toBitVec.smod 64) = BitVec.ofNat 64 20 by decide +kernel]
  apply BitVec.eq_of_toNat_eq
  rw [BitVec.shiftLeft_eq', BitVec.toNat_shiftLeft, BitVec.toNat_ofNat, BitVec.toNat_ofNat, BitVec.toNat_ofNat, Nat.shiftLeft_eq, show 20 % 2 ^ 64 = 20 by decide, Nat.mul_mod, Nat.mod_mod, ← Nat.mul_mod]
end D27
