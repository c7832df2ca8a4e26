/-! BOUGHT: the table of cheapest sets, one sum of sizes after another -/
section D24
variable {nF nP : Nat} {fl pa nu : Nat → Int32}
theorem q_or (a b : Nat) : nI a ||| nI b = nI (a ||| b) := by
  apply Int32.toBitVec_inj.1
  show BitVec.ofNat 32 a ||| BitVec.ofNat 32 b = BitVec.ofNat 32 (a ||| b)
  apply BitVec.eq_of_getLsbD_eq
  intro i hi
  simp [hi]
theorem q_sh : ∀ p, p < 20 → (1 : Int32) <<< (nI p &&& 31) = nI (2 ^ p) := by decide +kernel
theorem q_bit {t p : Nat} (h : t < 2 ^ p) : nI t ||| nI (2 ^ p) = nI (t + 2 ^ p) := by
  rw [q_or, Nat.or_comm, Nat.add_comm]
  have h1 := Nat.two_pow_add_eq_or_of_lt h 1
  rw [Nat.mul_one] at h1
  rw [h1]
def mnD (x y : Option (Nat × Nat)) : Option (Nat × Nat) := match y with
  | none => x
  | some w => match x with
    | none => some w
    | some v => if w.1 < v.1 ∨ (w.1 = v.1 ∧ w.2 < v.2) then some w else some v
def adD (v p : Nat) (x : Option (Nat × Nat)) : Option (Nat × Nat) := x.map (fun q => (q.1 + v, q.2 + 2 ^ p))
abbrev szN (pa : Nat → Int32) (p : Nat) : Nat := cN (pa (9 * p + 1))
abbrev bdN (pa : Nat → Int32) (p : Nat) : Nat := cN (pa (9 * p + 3))
def DP (pa : Nat → Int32) (f : Int32) : Nat → Nat → Option (Nat × Nat)
  | 0, s => if s = 0 then some (0, 0) else none
  | p + 1, s => if mgS pa f p = true then (if szN pa p ≤ s then mnD (DP pa f p s) (adD (bdN pa p * szN pa p) p (DP pa f p (s - szN pa p))) else DP pa f p s) else DP pa f p s
theorem DP_n {f : Int32} {p s : Nat} (h : mgS pa f p = false) : DP pa f (p + 1) s = DP pa f p s := by rw [DP, if_neg (by rw [h]; decide)]
theorem DP_l {f : Int32} {p s : Nat} (h : s < szN pa p) : DP pa f (p + 1) s = DP pa f p s := by
  rw [DP]
  split
  · rw [if_neg (by omega)]
  · rfl
theorem DP_y {f : Int32} {p s : Nat} (h : mgS pa f p = true) (hs : szN pa p ≤ s) : DP pa f (p + 1) s = mnD (DP pa f p s) (adD (bdN pa p * szN pa p) p (DP pa f p (s - szN pa p))) := by rw [DP, if_pos h, if_pos hs]
theorem mnD_or {x y : Option (Nat × Nat)} : mnD x y = x ∨ mnD x y = y := by
  unfold mnD
  split
  · exact Or.inl rfl
  · split
    · exact Or.inr rfl
    · split
      · exact Or.inr rfl
      · exact Or.inl rfl
theorem bd_ok (W : WP nF nP pa) {f : Int32} {p : Nat} (hp : p < nP) (h : mgS pa f p = true) : pa (9 * p + 3) = nI (bdN pa p) ∧ bdN pa p ≤ 999 := by
  obtain ⟨-, -, -, h3, -⟩ := W p hp
  simp [mgS] at h
  rcases h3 with h3 | ⟨k, hk, e⟩
  · exact absurd h3 h.1.2
  · unfold bdN
    rw [e, cN_nI (by omega)]
    exact ⟨rfl, hk⟩
/-- what the table's rows hold -/
theorem DP_bd (W : WP nF nP pa) (f : Int32) : ∀ {p : Nat}, p ≤ nP → ∀ s q, DP pa f p s = some q → q.1 ≤ 5994 * p ∧ q.2 < 2 ^ p ∧ s ≤ sN pa (mgS pa f) p
  | 0, _, s, q, h => by
    unfold DP at h
    split at h
    · cases h; exact ⟨by omega, by decide, by omega⟩
    · cases h
  | p + 1, hp, s, q, h => by
    have ih := DP_bd W f (p := p) (by omega)
    have hz := sz_ok W (p := p) (by omega)
    have hpow : 2 ^ (p + 1) = 2 * 2 ^ p := by rw [Nat.pow_succ, Nat.mul_comm]
    have hpos : 0 < 2 ^ p := Nat.two_pow_pos p
    have hsn : sN pa (mgS pa f) p ≤ sN pa (mgS pa f) (p + 1) := by
      show _ ≤ (if mgS pa f p = true then sN pa (mgS pa f) p + cN (pa (9 * p + 1)) else sN pa (mgS pa f) p)
      split <;> omega
    have up : ∀ q, DP pa f p s = some q → q.1 ≤ 5994 * (p + 1) ∧ q.2 < 2 ^ (p + 1) ∧ s ≤ sN pa (mgS pa f) (p + 1) := fun q h => by
      obtain ⟨h1, h2, h3⟩ := ih s q h
      exact ⟨by omega, by omega, by omega⟩
    by_cases hm : mgS pa f p = true
    · by_cases hs : szN pa p ≤ s
      · rw [DP_y hm hs] at h
        rcases mnD_or (x := DP pa f p s) (y := adD (bdN pa p * szN pa p) p (DP pa f p (s - szN pa p))) with e | e
        · rw [e] at h; exact up q h
        · rw [e] at h
          unfold adD at h
          cases h9 : DP pa f p (s - szN pa p) with
          | none => rw [h9] at h; cases h
          | some w =>
            rw [h9] at h
            cases h
            obtain ⟨h1, h2, h3⟩ := ih _ w h9
            have hb := (bd_ok W (by omega) hm).2
            have hmul : bdN pa p * szN pa p ≤ 999 * 6 := Nat.mul_le_mul hb hz.2.2
            have hsn2 : sN pa (mgS pa f) (p + 1) = sN pa (mgS pa f) p + szN pa p := by
              show (if mgS pa f p = true then _ else _) = _
              rw [if_pos hm]
            exact ⟨by dsimp only; omega, by dsimp only; omega, by omega⟩
      · rw [DP_l (by omega)] at h; exact up q h
    · rw [DP_n (by simpa using hm)] at h; exact up q h
/-- the model's rows -/
def rpM (cs bt : Nat → Int32) (s : Nat) (x : Option (Nat × Nat)) : Prop := match x with
  | none => cs s = 268435456 ∧ bt s = 0
  | some q => cs s = nI q.1 ∧ bt s = nI q.2
theorem rpM_c {cs bt cs' bt' : Nat → Int32} {s : Nat} {x : Option (Nat × Nat)} (h : rpM cs bt s x) (h1 : cs' s = cs s) (h2 : bt' s = bt s) : rpM cs' bt' s x := by
  cases x with
  | none => exact ⟨h1.trans h.1, h2.trans h.2⟩
  | some q => exact ⟨h1.trans h.1, h2.trans h.2⟩
theorem nI_far {n : Nat} (h : n < 200000) : ¬ nI n = 268435456 := fun e => by
  have := (nI_eq (a := n) (b := 268435456) (by omega) (by decide)).mp e
  omega
theorem nI_nfar {n : Nat} (h : n < 200000) : ¬ (268435456 : Int32) < nI n := by
  rw [show (268435456 : Int32) = nI 268435456 from rfl, nI_ltI (by decide) (by omega)]
  omega
theorem dp_none {cs bt : Nat → Int32} {k : Nat} {x : Option (Nat × Nat)} (h : rpM cs bt k x) (hb : ∀ q, x = some q → q.1 < 200000 ∧ q.2 < 2 ^ 20) (c : cs k = 268435456) : x = none := by
  cases x with
  | none => rfl
  | some q => exact absurd (h.1.symm.trans c) (nI_far (hb q rfl).1)
theorem dp_some {cs bt : Nat → Int32} {k : Nat} {x : Option (Nat × Nat)} (h : rpM cs bt k x) (c : ¬ cs k = 268435456) : ∃ q, x = some q ∧ cs k = nI q.1 ∧ bt k = nI q.2 := by
  cases x with
  | none => exact absurd h.1 c
  | some q => exact ⟨q, rfl, h.1, h.2⟩
theorem dp_sk1 {cs bt : Nat → Int32} {k : Nat} {x : Option (Nat × Nat)} {w : Nat × Nat} (h : rpM cs bt k x) (hb : ∀ q, x = some q → q.1 < 200000 ∧ q.2 < 2 ^ 20) (hw : w.1 < 200000 ∧ w.2 < 2 ^ 21) (c : cs k < nI w.1) : mnD x (some w) = x := by
  cases x with
  | none => rw [h.1] at c; exact absurd c (nI_nfar hw.1)
  | some q =>
    have hq := hb q rfl
    rw [h.1, nI_ltI (by omega) (by omega)] at c
    unfold mnD
    dsimp only
    rw [if_neg (by omega)]
theorem dp_sk2 {cs bt : Nat → Int32} {k : Nat} {x : Option (Nat × Nat)} {w : Nat × Nat} (h : rpM cs bt k x) (hb : ∀ q, x = some q → q.1 < 200000 ∧ q.2 < 2 ^ 20) (hw : w.1 < 200000 ∧ w.2 < 2 ^ 21) (c : nI w.1 = cs k) (c2 : ¬ nI w.2 < bt k) : mnD x (some w) = x := by
  cases x with
  | none => rw [h.1] at c; exact absurd c (nI_far hw.1)
  | some q =>
    have hq := hb q rfl
    rw [h.1, nI_eq (by omega) (by omega)] at c
    rw [h.2, nI_ltI (by omega) (by omega)] at c2
    unfold mnD
    dsimp only
    rw [if_neg (by omega)]
theorem dp_tk {cs bt : Nat → Int32} {k : Nat} {x : Option (Nat × Nat)} {w : Nat × Nat} (h : rpM cs bt k x) (hb : ∀ q, x = some q → q.1 < 200000 ∧ q.2 < 2 ^ 20) (hw : w.1 < 200000 ∧ w.2 < 2 ^ 21) (c0 : ¬ cs k < nI w.1) (c : ¬ nI w.1 = cs k ∨ nI w.2 < bt k) : mnD x (some w) = some w := by
  cases x with
  | none => rfl
  | some q =>
    have hq := hb q rfl
    rw [h.1, nI_ltI (by omega) (by omega)] at c0
    rw [h.1, h.2, nI_eq (by omega) (by omega), nI_ltI (by omega) (by omega)] at c
    unfold mnD
    dsimp only
    rw [if_pos (by omega)]
theorem DP_ok (W : WP nF nP pa) (hn : nP ≤ 20) (f : Int32) {p : Nat} (hp : p ≤ nP) (s : Nat) : ∀ q, DP pa f p s = some q → q.1 < 200000 ∧ q.2 < 2 ^ 20 := fun q h => by
  obtain ⟨h1, h2, h3⟩ := DP_bd W f hp s q h
  have : 2 ^ p ≤ 2 ^ 20 := Nat.pow_le_pow_right (by decide) (by omega)
  exact ⟨by omega, by omega⟩
/-- the scan for the best -/
def bsD (D : Nat → Option (Nat × Nat)) (ov : Nat) : Nat → Option (Nat × (Nat × Nat))
  | 0 => none
  | k + 1 => match D (ov + k) with
    | none => bsD D ov k
    | some q => match bsD D ov k with
      | none => some (ov + k, q)
      | some w => if q.1 < w.2.1 then some (ov + k, q) else some w
theorem bsD_in {D : Nat → Option (Nat × Nat)} {ov : Nat} : ∀ {k : Nat} {w}, bsD D ov k = some w → D w.1 = some w.2 ∧ ov ≤ w.1 ∧ w.1 < ov + k
  | 0, w, h => by cases h
  | k + 1, w, h => by
    unfold bsD at h
    cases hD : D (ov + k) with
    | none =>
      rw [hD] at h
      obtain ⟨h1, h2, h3⟩ := bsD_in h
      exact ⟨h1, h2, by omega⟩
    | some q =>
      rw [hD] at h
      cases hb : bsD D ov k with
      | none =>
        rw [hb] at h
        cases h
        exact ⟨hD, by dsimp only; omega, by dsimp only; omega⟩
      | some v =>
        rw [hb] at h
        dsimp only at h
        split at h
        · cases h; exact ⟨hD, by dsimp only; omega, by dsimp only; omega⟩
        · cases h
          obtain ⟨h1, h2, h3⟩ := bsD_in hb
          exact ⟨h1, h2, by omega⟩
theorem bsD_none {D : Nat → Option (Nat × Nat)} {ov k : Nat} (h : ∀ s, ov + k ≤ s → D s = none) : ∀ m, bsD D ov (k + m) = bsD D ov k
  | 0 => rfl
  | m + 1 => by
    have e : bsD D ov (k + m + 1) = bsD D ov (k + m) := by rw [bsD, h (ov + (k + m)) (by omega)]
    exact e.trans (bsD_none h m)
end D24
