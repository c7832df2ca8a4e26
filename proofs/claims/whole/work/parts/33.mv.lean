/-! WAYS FOR THE STRANDED: the problem in numbers. MD: sizes, how many ways, their codes, their lateness, turns -/
abbrev MD : Type := (Nat → Nat) × (Nat → Nat) × (Nat → Nat → Nat) × (Nat → Nat → Nat) × (Nat → Nat)
section M33
def sT (F : Nat → Nat) : Nat → Nat
  | 0 => 0
  | n + 1 => sT F n + F n
theorem sT_cong {F H : Nat → Nat} : ∀ {n : Nat}, (∀ k, k < n → F k = H k) → sT F n = sT H n
  | 0, _ => rfl
  | n + 1, h => by
    unfold sT
    rw [h n (by omega), sT_cong (fun k hk => h k (by omega))]
theorem sT_le {F H : Nat → Nat} : ∀ {n : Nat}, (∀ k, k < n → F k ≤ H k) → sT F n ≤ sT H n
  | 0, _ => Nat.le_refl _
  | n + 1, h => by
    have h1 := h n (by omega)
    have h2 := sT_le (F := F) (H := H) (n := n) (fun k hk => h k (by omega))
    unfold sT
    omega
theorem sT_mono {F : Nat → Nat} {k : Nat} : ∀ {n : Nat}, k ≤ n → sT F k ≤ sT F n
  | 0, h => by rw [show k = 0 by omega]; exact Nat.le_refl _
  | n + 1, h => by
    by_cases e : k = n + 1
    · rw [e]; exact Nat.le_refl _
    · have := sT_mono (F := F) (k := k) (n := n) (by omega)
      have e2 : sT F (n + 1) = sT F n + F n := rfl
      omega
theorem sT_add {F H : Nat → Nat} : ∀ {n : Nat}, sT (fun k => F k + H k) n = sT F n + sT H n
  | 0 => rfl
  | n + 1 => by
    unfold sT
    rw [sT_add]
    omega
theorem sT_mul {F : Nat → Nat} {c : Nat} : ∀ {n : Nat}, sT (fun k => F k * c) n = sT F n * c
  | 0 => by simp [sT]
  | n + 1 => by
    unfold sT
    rw [sT_mul, Nat.add_mul]
theorem sT_bd {F : Nat → Nat} {c : Nat} : ∀ {n : Nat}, (∀ k, k < n → F k ≤ c) → sT F n ≤ n * c
  | 0, _ => Nat.zero_le _
  | n + 1, h => by
    have h1 := h n (by omega)
    have h2 := sT_bd (F := F) (c := c) (n := n) (fun k hk => h k (by omega))
    unfold sT
    rw [Nat.add_mul]
    omega
theorem sT_upd {F : Nat → Nat → Nat} {y : Nat → Nat} {k p : Nat} : ∀ {n : Nat}, k < n → sT (fun j => F j (if j = k then p else y j)) n + F k (y k) = sT (fun j => F j (y j)) n + F k p
  | 0, h => by omega
  | n + 1, h => by
    unfold sT
    by_cases e : k = n
    · subst e
      rw [if_pos rfl, sT_cong (F := fun j => F j (if j = k then p else y j)) (H := fun j => F j (y j)) (fun j hj => by rw [if_neg (by omega)])]
      omega
    · have ih := sT_upd (F := F) (y := y) (p := p) (k := k) (n := n) (by omega)
      rw [if_neg (Ne.symm e)]
      omega
variable {D : MD} {n nF : Nat} {cap : Nat → Nat}
/-- gain, digit, worth, seats, people, lateness of a choice -/
def gW (D : MD) (k p : Nat) : Nat := if p < D.2.1 k then D.1 k * (360000 - D.2.2.2.1 k p) else 0
def dW (D : MD) (k p : Nat) : Nat := if p < D.2.1 k then (15 - p) * 16 ^ (5 - D.2.2.2.2 k) else 0
def mW (D : MD) (k p : Nat) : Nat := gW D k p * 16777216 + dW D k p
def uW (D : MD) (f k p : Nat) : Nat := if p < D.2.1 k ∧ (D.2.2.1 k p / 9 = f ∨ D.2.2.1 k p % 9 = f + 1) then D.1 k else 0
def pW (D : MD) (k p : Nat) : Nat := if p < D.2.1 k then D.1 k else 0
def lW (D : MD) (k p : Nat) : Nat := if p < D.2.1 k then D.2.2.2.1 k p * D.1 k else 0
/-- well-formed: a choice, what fits, its sum, the best -/
def Dok (D : MD) (n : Nat) : Prop := n ≤ 6 ∧ ∀ k, k < n → 1 ≤ D.1 k ∧ D.1 k ≤ 6 ∧ D.2.1 k ≤ 12 ∧ D.2.2.2.2 k < 6 ∧ ∀ p, p < D.2.1 k → D.2.2.2.1 k p ≤ 9999
def cn (D : MD) (n : Nat) (y : Nat → Nat) : Prop := ∀ k, k < n → y k < D.2.1 k ∨ y k = 15
def us (D : MD) (f : Nat) (y : Nat → Nat) (n : Nat) : Nat := sT (fun k => uW D f k (y k)) n
def fe (D : MD) (nF : Nat) (cap : Nat → Nat) (n : Nat) (y : Nat → Nat) : Prop := ∀ f, f < nF → us D f y n ≤ cap f
def sm (D : MD) (y : Nat → Nat) (n : Nat) : Nat := sT (fun k => mW D k (y k)) n
def sg (D : MD) (y : Nat → Nat) (n : Nat) : Nat := sT (fun k => gW D k (y k)) n
def sd (D : MD) (y : Nat → Nat) (n : Nat) : Nat := sT (fun k => dW D k (y k)) n
def spp (D : MD) (y : Nat → Nat) (n : Nat) : Nat := sT (fun k => pW D k (y k)) n
def sl (D : MD) (y : Nat → Nat) (n : Nat) : Nat := sT (fun k => lW D k (y k)) n
def Opt (D : MD) (nF : Nat) (cap : Nat → Nat) (n : Nat) (y : Nat → Nat) : Prop := cn D n y ∧ fe D nF cap n y ∧ ∀ z, cn D n z → fe D nF cap n z → sm D z n ≤ sm D y n
theorem sm_gd {y : Nat → Nat} : ∀ {n : Nat}, sm D y n = sg D y n * 16777216 + sd D y n
  | 0 => by unfold sm sg sd sT; omega
  | n + 1 => by
    have ih := sm_gd (y := y) (n := n)
    have e1 : sm D y (n + 1) = sm D y n + mW D n (y n) := rfl
    have e2 : sg D y (n + 1) = sg D y n + gW D n (y n) := rfl
    have e3 : sd D y (n + 1) = sd D y n + dW D n (y n) := rfl
    rw [e1, e2, e3, ih]
    unfold mW
    omega
theorem dW_c {k p : Nat} (h : p < D.2.1 k ∨ p = 15) : dW D k p = (15 - p) * 16 ^ (5 - D.2.2.2.2 k) := by
  unfold dW
  split
  · rfl
  · rcases h with h | h
    · contradiction
    · subst h; simp
theorem mul_l {s x : Nat} (h : x ≤ 360000) : s * (360000 - x) + x * s = s * 360000 := by
  rw [Nat.mul_sub, Nat.mul_comm x s]
  have : s * x ≤ s * 360000 := Nat.mul_le_mul_left s h
  omega
theorem gl_eq (hD : Dok D n) {k : Nat} (hk : k < n) (p : Nat) : gW D k p + lW D k p = pW D k p * 360000 := by
  unfold gW lW pW
  split
  · next h =>
    have := (hD.2 k hk).2.2.2.2 p h
    exact mul_l (by omega)
  · rfl
theorem sg_sl (hD : Dok D n) {y : Nat → Nat} {m : Nat} (hm : m ≤ n) : sg D y m + sl D y m = spp D y m * 360000 := by
  unfold sg sl spp
  rw [← sT_add, ← sT_mul]
  exact sT_cong (fun k hk => gl_eq hD (by omega) _)
theorem pW_le (hD : Dok D n) {k : Nat} (hk : k < n) (p : Nat) : pW D k p ≤ 6 := by
  have := hD.2 k hk
  unfold pW
  split <;> omega
theorem lW_le (hD : Dok D n) {k : Nat} (hk : k < n) (p : Nat) : lW D k p ≤ 59994 := by
  have := hD.2 k hk
  unfold lW
  split
  · next h =>
    have h2 := this.2.2.2.2 p h
    have : D.2.2.2.1 k p * D.1 k ≤ 9999 * 6 := Nat.mul_le_mul h2 this.2.1
    omega
  · omega
theorem spp_le (hD : Dok D n) {y : Nat → Nat} {m : Nat} (hm : m ≤ n) : spp D y m ≤ 36 := by
  have h1 := sT_bd (F := fun k => pW D k (y k)) (c := 6) (n := m) (fun k hk => pW_le hD (by omega) _)
  have := hD.1
  unfold spp
  omega
theorem sl_le (hD : Dok D n) {y : Nat → Nat} {m : Nat} (hm : m ≤ n) : sl D y m ≤ 359964 := by
  have h1 := sT_bd (F := fun k => lW D k (y k)) (c := 59994) (n := m) (fun k hk => lW_le hD (by omega) _)
  have := hD.1
  unfold sl
  omega
theorem uW_le (k p f : Nat) : uW D f k p ≤ D.1 k := by
  unfold uW
  split <;> omega
theorem mW_le (hD : Dok D n) {k : Nat} (hk : k < n) (p : Nat) : mW D k p ≤ 36238803763200 + 15728640 := by
  have h := hD.2 k hk
  have hg : gW D k p ≤ 2160000 := by
    have h1 := gl_eq hD hk p
    have h2 := pW_le hD hk p
    omega
  have hd : dW D k p ≤ 15728640 := by
    unfold dW
    split
    · have h5 : 16 ^ (5 - D.2.2.2.2 k) ≤ 16 ^ 5 := Nat.pow_le_pow_right (by decide) (by omega)
      have : (15 - p) * 16 ^ (5 - D.2.2.2.2 k) ≤ 15 * 16 ^ 5 := Nat.mul_le_mul (by omega) h5
      omega
    · omega
  unfold mW
  omega
theorem sm_le (hD : Dok D n) {y : Nat → Nat} {m : Nat} (hm : m ≤ n) : sm D y m < 2 ^ 50 := by
  have h1 := sT_bd (F := fun k => mW D k (y k)) (c := 36238803763200 + 15728640) (n := m) (fun k hk => mW_le hD (by omega) _)
  have := hD.1
  unfold sm
  omega
/-- turns in order: digits -/
def Did (D : MD) (n : Nat) : Prop := ∀ k, k < n → D.2.2.2.2 k = k
theorem sd_up (hD : Dok D n) (hi : Did D n) {y : Nat → Nat} {k : Nat} : ∀ {m : Nat}, k ≤ m → m ≤ n → sd D y m + 16 ^ (6 - m) ≤ sd D y k + 16 ^ (6 - k)
  | 0, h, _ => by rw [show k = 0 by omega]; exact Nat.le_refl _
  | m + 1, h, hm => by
    by_cases e : k = m + 1
    · rw [e]; exact Nat.le_refl _
    · have ih := sd_up hD hi (y := y) (k := k) (m := m) (by omega) (by omega)
      have hn := hD.1
      have e1 : sd D y (m + 1) = sd D y m + dW D m (y m) := rfl
      have e2 : (16 : Nat) ^ (6 - m) = 16 * 16 ^ (6 - (m + 1)) := by rw [show 6 - m = (6 - (m + 1)) + 1 by omega, Nat.pow_succ]; omega
      have e3 : dW D m (y m) ≤ 15 * 16 ^ (6 - (m + 1)) := by
        unfold dW
        rw [hi m (by omega)]
        split
        · rw [show 5 - m = 6 - (m + 1) by omega]
          exact Nat.mul_le_mul_right _ (by omega)
        · exact Nat.zero_le _
      omega
theorem sd_lt (hD : Dok D n) (hi : Did D n) {y : Nat → Nat} {m : Nat} (hm : m ≤ n) : sd D y m < 16777216 := by
  have h := sd_up hD hi (y := y) (k := 0) (Nat.zero_le m) hm
  have h2 : 0 < 16 ^ (6 - m) := Nat.pow_pos (by decide)
  have h3 : sd D y 0 = 0 := rfl
  have h4 : (16 : Nat) ^ (6 - 0) = 16777216 := by decide
  omega
theorem sd_hn (hD : Dok D n) (hi : Did D n) {y : Nat → Nat} (hc : cn D n y) : ∀ {m : Nat}, m ≤ n → ∃ q, sd D y m = q * 16 ^ (6 - m)
  | 0, _ => ⟨0, by rw [Nat.zero_mul]; rfl⟩
  | m + 1, h => by
    have hn := hD.1
    obtain ⟨q, hq⟩ := sd_hn hD hi hc (m := m) (by omega)
    refine ⟨16 * q + (15 - y m), ?_⟩
    have e1 : sd D y (m + 1) = sd D y m + dW D m (y m) := rfl
    rw [e1, hq, dW_c (hc m (by omega)), hi m (by omega), show 6 - m = (6 - (m + 1)) + 1 by omega, Nat.pow_succ, show 5 - m = 6 - (m + 1) by omega, Nat.add_mul, ← Nat.mul_assoc, Nat.mul_comm 16 q, Nat.mul_assoc q 16, Nat.mul_comm 16, ← Nat.mul_assoc]
theorem sd_inj (hD : Dok D n) (hi : Did D n) {y z : Nat → Nat} (hy : cn D n y) (hz : cn D n z) : ∀ {m : Nat}, m ≤ n → sd D y m = sd D z m → ∀ k, k < m → y k = z k
  | 0, _, _, k, hk => by omega
  | m + 1, hm, h, k, hk => by
    have hn := hD.1
    obtain ⟨q, hq⟩ := sd_hn hD hi hy (m := m) (by omega)
    obtain ⟨q', hq'⟩ := sd_hn hD hi hz (m := m) (by omega)
    have e1 : sd D y (m + 1) = sd D y m + dW D m (y m) := rfl
    have e2 : sd D z (m + 1) = sd D z m + dW D m (z m) := rfl
    have c1 := hy m (by omega)
    have c2 := hz m (by omega)
    have hw := (hD.2 m (by omega)).2.2.1
    rw [e1, e2, hq, hq', dW_c c1, dW_c c2, hi m (by omega), show 6 - m = (5 - m) + 1 by omega, Nat.pow_succ, ← Nat.mul_assoc, ← Nat.mul_assoc, Nat.mul_right_comm q, Nat.mul_right_comm q', ← Nat.add_mul, ← Nat.add_mul] at h
    have h2 := Nat.eq_of_mul_eq_mul_right (Nat.pow_pos (by decide)) h
    have h3 : y m = z m := by omega
    have h4 : q = q' := by omega
    by_cases e : k = m
    · rw [e]; exact h3
    · exact sd_inj hD hi hy hz (m := m) (by omega) (by rw [hq, hq', h4]) k (by omega)
theorem sm_inj (hD : Dok D n) (hi : Did D n) {y z : Nat → Nat} (hy : cn D n y) (hz : cn D n z) (h : sm D y n = sm D z n) : ∀ k, k < n → y k = z k := by
  have h1 := sd_lt hD hi (y := y) (Nat.le_refl n)
  have h2 := sd_lt hD hi (y := z) (Nat.le_refl n)
  rw [sm_gd, sm_gd] at h
  exact sd_inj hD hi hy hz (Nat.le_refl n) (by omega)
/-- the bounds of those that still have no choice -/
def bP (D : MD) (x : Nat → Nat) (k i : Nat) : Nat := if i < k then pW D i (x i) else if D.2.1 i = 0 then 0 else D.1 i
def bL (D : MD) (ll : Nat → Nat) (x : Nat → Nat) (k i : Nat) : Nat := if i < k then lW D i (x i) else if D.2.1 i = 0 then 0 else ll i
theorem bP_k {x : Nat → Nat} {k : Nat} : sT (bP D x k) k = spp D x k := sT_cong (fun i hi => by unfold bP; rw [if_pos hi])
theorem bL_k {ll x : Nat → Nat} {k : Nat} : sT (bL D ll x k) k = sl D x k := sT_cong (fun i hi => by unfold bL; rw [if_pos hi])
theorem bP_le (hD : Dok D n) {x : Nat → Nat} {k m : Nat} (hm : m ≤ n) : sT (bP D x k) m ≤ 36 := by
  have h1 := sT_bd (F := bP D x k) (c := 6) (n := m) (fun i hi => by
    have h := hD.2 i (by omega)
    have h2 := pW_le hD (k := i) (by omega) (x i)
    unfold bP
    split
    · exact h2
    · split <;> omega)
  have := hD.1
  omega
theorem bL_le (hD : Dok D n) {ll x : Nat → Nat} (hl : ∀ i, i < n → ll i ≤ 59994) {k m : Nat} (hm : m ≤ n) : sT (bL D ll x k) m ≤ 359964 := by
  have h1 := sT_bd (F := bL D ll x k) (c := 59994) (n := m) (fun i hi => by
    have h := hl i (by omega)
    have h2 := lW_le hD (k := i) (by omega) (x i)
    unfold bL
    split
    · exact h2
    · split <;> omega)
  have := hD.1
  omega
theorem b_gain (hD : Dok D n) {ll x y : Nat → Nat} (hl : ∀ i, i < n → ll i ≤ 59994) (hl2 : ∀ i, i < n → ∀ p, p < D.2.1 i → ll i ≤ D.2.2.2.1 i p * D.1 i) {k : Nat} (hy : ∀ j, j < k → y j = x j) : sg D y n + sT (bL D ll x k) n ≤ sT (bP D x k) n * 360000 := by
  unfold sg
  rw [← sT_add, ← sT_mul]
  refine sT_le (fun i hi => ?_)
  have h := hD.2 i hi
  unfold bP bL
  by_cases e : i < k
  · rw [if_pos e, if_pos e, hy i e]
    exact Nat.le_of_eq (gl_eq hD hi _)
  · rw [if_neg e, if_neg e]
    by_cases e2 : D.2.1 i = 0
    · rw [if_pos e2, if_pos e2]
      unfold gW
      rw [if_neg (by omega)]
      omega
    · rw [if_neg e2, if_neg e2]
      unfold gW
      split
      · next h9 =>
        have h1 := hl2 i hi _ h9
        have h2 := mul_l (s := D.1 i) (x := D.2.2.2.1 i (y i)) (by have := h.2.2.2.2 _ h9; omega)
        omega
      · have := hl i hi
        have : 1 * 360000 ≤ D.1 i * 360000 := Nat.mul_le_mul_right _ h.1
        omega
/-- cut off: none of these is better -/
theorem b_cut (hD : Dok D n) (hi : Did D n) {ll x y z : Nat → Nat} (hl : ∀ i, i < n → ll i ≤ 59994) (hl2 : ∀ i, i < n → ∀ p, p < D.2.1 i → ll i ≤ D.2.2.2.1 i p * D.1 i) {k : Nat} (hk : k ≤ n) (hy : ∀ j, j < k → y j = x j) (hz : sd D x k + 16 ^ (6 - k) ≤ sd D z n) (hc : sT (bP D x k) n < spp D z n ∨ (sT (bP D x k) n = spp D z n ∧ sl D z n ≤ sT (bL D ll x k) n)) : sm D y n < sm D z n := by
  have h1 := b_gain hD hl hl2 hy
  have h2 := sg_sl hD (y := z) (Nat.le_refl n)
  have h3 := sl_le hD (y := z) (Nat.le_refl n)
  have h4 := sd_up hD hi (y := y) hk (Nat.le_refl n)
  have h5 : sd D y k = sd D x k := sT_cong (fun j hj => by rw [hy j hj])
  have h6 : 0 < 16 ^ (6 - n) := Nat.pow_pos (by decide)
  have h7 : sg D y n ≤ sg D z n := by
    rcases hc with hc | ⟨hc, hc2⟩
    · have : (sT (bP D x k) n + 1) * 360000 ≤ spp D z n * 360000 := Nat.mul_le_mul_right _ hc
      omega
    · rw [hc] at h1
      omega
  rw [sm_gd, sm_gd]
  omega
theorem b_leaf (hD : Dok D n) (hi : Did D n) {x z : Nat → Nat} (hc : spp D z n < spp D x n ∨ (spp D x n = spp D z n ∧ sl D x n < sl D z n)) : sm D z n < sm D x n := by
  have h1 := sg_sl hD (y := x) (Nat.le_refl n)
  have h2 := sg_sl hD (y := z) (Nat.le_refl n)
  have h3 := sl_le hD (y := x) (Nat.le_refl n)
  have h4 := sd_lt hD hi (y := z) (Nat.le_refl n)
  have h7 : sg D z n < sg D x n := by
    rcases hc with hc | ⟨hc, hc2⟩
    · have : (spp D z n + 1) * 360000 ≤ spp D x n * 360000 := Nat.mul_le_mul_right _ hc
      omega
    · rw [hc] at h1
      omega
  rw [sm_gd, sm_gd]
  omega
/-- there is a best one -/
theorem max_ex {α : Type} {P : α → Prop} {F : α → Nat} {B : Nat} (hB : ∀ y, P y → F y ≤ B) : ∀ (m : Nat) (y : α), P y → B ≤ F y + m → ∃ y, P y ∧ ∀ z, P z → F z ≤ F y
  | 0, y, hy, hm => ⟨y, hy, fun z hz => by have := hB z hz; omega⟩
  | m + 1, y, hy, hm => by
    by_cases h : ∀ z, P z → F z ≤ F y
    · exact ⟨y, hy, h⟩
    · obtain ⟨z, h⟩ := Classical.not_forall.mp h
      obtain ⟨hz, h⟩ := Classical.not_imp.mp h
      exact max_ex hB m z hz (by omega)
theorem Opt_ex (hD : Dok D n) : ∃ y, Opt D nF cap n y := by
  have h15 : ∀ k, k < n → ¬ 15 < D.2.1 k := fun k hk => by
    have := (hD.2 k hk).2.2.1
    omega
  obtain ⟨y, hy, hz⟩ := max_ex (P := fun y => cn D n y ∧ fe D nF cap n y) (F := fun y => sm D y n) (B := 2 ^ 50) (fun y _ => Nat.le_of_lt (sm_le hD (Nat.le_refl n))) (2 ^ 50) (fun _ => 15) ⟨fun _ _ => Or.inr rfl, fun f _ => by
    have : us D f (fun _ => 15) n = 0 := by
      have h1 := sT_bd (F := fun k => uW D f k 15) (c := 0) (n := n) (fun k hk => by unfold uW; rw [if_neg (fun h => h15 k hk h.1)]; exact Nat.le_refl _)
      have h2 : us D f (fun _ => 15) n ≤ n * 0 := h1
      omega
    omega⟩ (by omega)
  exact ⟨y, hy.1, hy.2, fun z h1 h2 => hz z ⟨h1, h2⟩⟩
theorem Opt_one (hD : Dok D n) (hi : Did D n) {y z : Nat → Nat} (hy : Opt D nF cap n y) (hz : Opt D nF cap n z) : ∀ k, k < n → y k = z k :=
  sm_inj hD hi hy.1 hz.1 (Nat.le_antisymm (hz.2.2 y hy.1 hy.2.1) (hy.2.2 z hz.1 hz.2.1))
/-- another choice for one -/
def u1 (y : Nat → Nat) (k p : Nat) : Nat → Nat := fun j => if j = k then p else y j
theorem u1_s {y : Nat → Nat} {k p : Nat} : u1 y k p k = p := by simp [u1]
theorem u1_n {y : Nat → Nat} {k p j : Nat} (h : j ≠ k) : u1 y k p j = y j := by simp [u1, h]
theorem u1_cn {y : Nat → Nat} {k p : Nat} (h : cn D n y) (hp : p < D.2.1 k ∨ p = 15) : cn D n (u1 y k p) := fun j hj => by
  by_cases e : j = k
  · subst e; rw [u1_s]; exact hp
  · rw [u1_n e]; exact h j hj
theorem sm_u1 {y : Nat → Nat} {k p : Nat} (hk : k < n) : sm D (u1 y k p) n + mW D k (y k) = sm D y n + mW D k p := sT_upd (F := mW D) hk
theorem us_u1 {y : Nat → Nat} {f k p : Nat} (hk : k < n) : us D f (u1 y k p) n + uW D f k (y k) = us D f y n + uW D f k p := sT_upd (F := uW D f) hk
/-- the best has no better way that surely has room -/
theorem no_better {y : Nat → Nat} (hy : Opt D nF cap n y) {k p : Nat} (hk : k < n) (hp : p < D.2.1 k) (hm : mW D k (y k) < mW D k p) (hr : ∀ f, f < nF → (D.2.2.1 k p / 9 = f ∨ D.2.2.1 k p % 9 = f + 1) → us D f y k + (sT D.1 n - sT D.1 k) ≤ cap f ∨ (y k < D.2.1 k ∧ (D.2.2.1 k (y k) / 9 = f ∨ D.2.2.1 k (y k) % 9 = f + 1))) : False := by
  have h1 := hy.2.2 (u1 y k p) (u1_cn hy.1 (Or.inl hp)) (fun f hf => by
    have h2 := us_u1 (D := D) (y := y) (f := f) (p := p) hk
    have h3 := hy.2.1 f hf
    by_cases hu : D.2.2.1 k p / 9 = f ∨ D.2.2.1 k p % 9 = f + 1
    · have e1 : uW D f k p = D.1 k := by unfold uW; rw [if_pos ⟨hp, hu⟩]
      rcases hr f hf hu with h | ⟨h4, h5⟩
      · have tail : ∀ m, k ≤ m → us D f (u1 y k p) m + sT D.1 k ≤ us D f y k + sT D.1 m := by
          intro m
          induction m with
          | zero => intro h; rw [show k = 0 by omega]; exact Nat.le_refl _
          | succ m ih =>
            intro h
            by_cases e : k = m + 1
            · rw [← e]
              have : us D f (u1 y k p) k = us D f y k := sT_cong (fun j hj => by rw [u1_n (by omega)])
              omega
            · have := ih (by omega)
              have := uW_le (D := D) m (u1 y k p m) f
              have e5 : us D f (u1 y k p) (m + 1) = us D f (u1 y k p) m + uW D f m (u1 y k p m) := rfl
              have e6 : sT D.1 (m + 1) = sT D.1 m + D.1 m := rfl
              omega
        have := tail n (by omega)
        have := sT_mono (F := D.1) (k := k) (n := n) (by omega)
        omega
      · have e2 : uW D f k (y k) = D.1 k := by unfold uW; rw [if_pos ⟨h4, h5⟩]
        omega
    · have e1 : uW D f k p = 0 := by unfold uW; rw [if_neg (fun h => hu h.2)]
      omega)
  have h2 := sm_u1 (D := D) (y := y) (p := p) hk
  omega
/-- twins: the one whose turn comes before has the way that comes before -/
theorem no_swap {y : Nat → Nat} (hD : Dok D n) (hy : Opt D nF cap n y) {s t : Nat} (hs : s < n) (ht : t < n) (hst : D.2.2.2.2 s < D.2.2.2.2 t) (e1 : D.1 s = D.1 t) (e2 : D.2.1 s = D.2.1 t) (e3 : ∀ p, D.2.2.1 s p = D.2.2.1 t p) (e4 : ∀ p, D.2.2.2.1 s p = D.2.2.2.1 t p) : y s ≤ y t := by
  rcases Nat.lt_or_ge (y t) (y s) with h | h
  · exfalso
    have hne : s ≠ t := fun e => by rw [e] at hst; omega
    have cs := hy.1 s hs
    have ct := hy.1 t ht
    have cs' : y t < D.2.1 s ∨ y t = 15 := by rw [e2]; exact ct
    have ct' : y s < D.2.1 t ∨ y s = 15 := by rw [← e2]; exact cs
    have hu : ∀ f p, uW D f s p = uW D f t p := fun f p => by unfold uW; rw [e1, e2, e3]
    have hg : ∀ p, gW D s p = gW D t p := fun p => by unfold gW; rw [e1, e2, e4]
    have h1 := hy.2.2 (u1 (u1 y s (y t)) t (y s)) (u1_cn (u1_cn hy.1 cs') ct') (fun f hf => by
      have h2 := us_u1 (D := D) (y := u1 y s (y t)) (f := f) (p := y s) ht
      have h3 := us_u1 (D := D) (y := y) (f := f) (p := y t) hs
      rw [u1_n (Ne.symm hne)] at h2
      have := hy.2.1 f hf
      have := hu f (y s)
      have := hu f (y t)
      omega)
    have h2 := sm_u1 (D := D) (y := u1 y s (y t)) (p := y s) ht
    have h3 := sm_u1 (D := D) (y := y) (p := y t) hs
    rw [u1_n (Ne.symm hne)] at h2
    have hlt := (hD.2 t ht).2.2.2.1
    have hmw : mW D s (y s) + mW D t (y t) < mW D s (y t) + mW D t (y s) := by
      unfold mW
      rw [hg, hg, dW_c cs, dW_c ct, dW_c cs', dW_c ct']
      have hp : 16 ^ (5 - D.2.2.2.2 t) < 16 ^ (5 - D.2.2.2.2 s) := Nat.pow_lt_pow_right (by decide) (by omega)
      generalize 16 ^ (5 - D.2.2.2.2 t) = A at hp ⊢
      generalize 16 ^ (5 - D.2.2.2.2 s) = B at hp ⊢
      have hys : y s ≤ 15 := by have := (hD.2 s hs).2.2.1; omega
      obtain ⟨d, hd, ed⟩ : ∃ d, 1 ≤ d ∧ 15 - y t = (15 - y s) + d := ⟨y s - y t, by omega, by omega⟩
      rw [ed, Nat.add_mul, Nat.add_mul]
      have : d * A < d * B := Nat.mul_lt_mul_of_pos_left hp (by omega)
      omega
    omega
  · exact h
/-- another order -/
def sF (F : Nat → Nat) (c : Nat → Bool) : Nat → Nat
  | 0 => 0
  | n + 1 => if c n = true then sF F c n + F n else sF F c n
theorem sF_t {F : Nat → Nat} {c : Nat → Bool} : ∀ {n : Nat}, (∀ k, k < n → c k = true) → sF F c n = sT F n
  | 0, _ => rfl
  | n + 1, h => by
    unfold sF sT
    rw [if_pos (h n (by omega)), sF_t (fun k hk => h k (by omega))]
theorem sF_f {F : Nat → Nat} {c : Nat → Bool} : ∀ {n : Nat}, (∀ k, k < n → c k = false) → sF F c n = 0
  | 0, _ => rfl
  | n + 1, h => by
    unfold sF
    rw [if_neg (by rw [h n (by omega)]; decide), sF_f (fun k hk => h k (by omega))]
theorem sF_cong {F : Nat → Nat} {c d : Nat → Bool} : ∀ {n : Nat}, (∀ k, k < n → c k = d k) → sF F c n = sF F d n
  | 0, _ => rfl
  | n + 1, h => by
    unfold sF
    rw [h n (by omega), sF_cong (fun k hk => h k (by omega))]
theorem sF_a {F : Nat → Nat} {c d : Nat → Bool} {q : Nat} (h1 : c q = false) (h2 : d q = true) : ∀ {n : Nat}, q < n → (∀ k, k < n → k ≠ q → c k = d k) → sF F d n = sF F c n + F q
  | 0, h, _ => by omega
  | n + 1, h, hk => by
    unfold sF
    by_cases e : q = n
    · subst e
      rw [if_pos h2, if_neg (by rw [h1]; decide), sF_cong (c := d) (d := c) (fun k hk2 => (hk k (by omega) (by omega)).symm)]
    · have ih := sF_a (F := F) h1 h2 (n := n) (by omega) (fun k hk2 => hk k (by omega))
      rw [hk n (by omega) (Ne.symm e)]
      split <;> omega
def inP (tn : Nat → Nat) : Nat → Nat → Bool
  | 0, _ => false
  | i + 1, k => inP tn i k || decide (tn i = k)
theorem inP_ex {tn : Nat → Nat} {k : Nat} : ∀ {i : Nat}, inP tn i k = true → ∃ j, j < i ∧ tn j = k
  | 0, h => by cases h
  | i + 1, h => by
    unfold inP at h
    simp at h
    rcases h with h | h
    · obtain ⟨j, h1, h2⟩ := inP_ex h
      exact ⟨j, by omega, h2⟩
    · exact ⟨i, by omega, h⟩
theorem inP_y {tn : Nat → Nat} : ∀ {i j : Nat}, j < i → inP tn i (tn j) = true
  | 0, j, h => by omega
  | i + 1, j, h => by
    unfold inP
    by_cases e : j = i
    · subst e; simp
    · rw [inP_y (by omega)]; rfl
def Inj (tn : Nat → Nat) (n : Nat) : Prop := (∀ j, j < n → tn j < n) ∧ ∀ i j, i < n → j < n → tn i = tn j → i = j
theorem inP_f {tn : Nat → Nat} (h : Inj tn n) {i : Nat} (hi : i < n) : inP tn i (tn i) = false := by
  cases h9 : inP tn i (tn i) with
  | false => rfl
  | true =>
    obtain ⟨j, h1, h2⟩ := inP_ex h9
    have := h.2 j i (by omega) hi h2
    omega
theorem inP_sum {tn : Nat → Nat} (h : Inj tn n) {F : Nat → Nat} : ∀ {i : Nat}, i ≤ n → sF F (inP tn i) n = sT (fun j => F (tn j)) i
  | 0, _ => sF_f (fun _ _ => rfl)
  | i + 1, hi => by
    rw [sF_a (F := F) (c := inP tn i) (d := inP tn (i + 1)) (q := tn i) (inP_f h (by omega)) (inP_y (by omega)) (h.1 i (by omega)) (fun k _ hk => by
      rw [show inP tn (i + 1) k = (inP tn i k || decide (tn i = k)) from rfl, decide_eq_false (Ne.symm hk), Bool.or_false]), inP_sum h (by omega)]
    rfl
theorem sF_one : ∀ {n : Nat} {c : Nat → Bool}, sF (fun _ => 1) c n = ctS c n
  | 0, _ => rfl
  | n + 1, c => by unfold sF ctS; rw [sF_one]
theorem inP_all {tn : Nat → Nat} (h : Inj tn n) : ∀ k, k < n → inP tn n k = true := by
  have h1 := inP_sum h (F := fun _ => 1) (Nat.le_refl n)
  rw [sF_one] at h1
  have h2 : ∀ m, sT (fun _ => 1) m = m := fun m => by
    induction m with
    | zero => rfl
    | succ m ih => unfold sT; rw [ih]
  exact ctS_all (by rw [h1, h2])
theorem perm {tn : Nat → Nat} (h : Inj tn n) {F : Nat → Nat} : sT (fun j => F (tn j)) n = sT F n := by
  rw [← inP_sum h (Nat.le_refl n), sF_t (inP_all h)]
/-- the same problem in another order -/
def Dp (D : MD) (tn : Nat → Nat) : MD := (fun j => D.1 (tn j), fun j => D.2.1 (tn j), fun j => D.2.2.1 (tn j), fun j => D.2.2.2.1 (tn j), tn)
theorem mW_p (hi : Did D n) {tn : Nat → Nat} (h : Inj tn n) {j p : Nat} (hj : j < n) : mW (Dp D tn) j p = mW D (tn j) p := by
  unfold mW gW dW Dp
  dsimp only
  rw [hi (tn j) (h.1 j hj)]
theorem uW_p {tn : Nat → Nat} {f j p : Nat} : uW (Dp D tn) f j p = uW D f (tn j) p := rfl
theorem sm_p (hi : Did D n) {tn : Nat → Nat} (h : Inj tn n) {y : Nat → Nat} : sm (Dp D tn) (fun j => y (tn j)) n = sm D y n := by
  unfold sm
  rw [← perm h (F := fun k => mW D k (y k))]
  exact sT_cong (fun j hj => mW_p hi h hj)
theorem us_p {tn : Nat → Nat} (h : Inj tn n) {y : Nat → Nat} {f : Nat} : us (Dp D tn) f (fun j => y (tn j)) n = us D f y n := by
  unfold us
  rw [← perm h (F := fun k => uW D f k (y k))]
  rfl
theorem sm_cong {y z : Nat → Nat} {m : Nat} (h : ∀ k, k < m → y k = z k) : sm D y m = sm D z m := sT_cong (fun k hk => by rw [h k hk])
theorem us_cong {y z : Nat → Nat} {f m : Nat} (h : ∀ k, k < m → y k = z k) : us D f y m = us D f z m := sT_cong (fun k hk => by rw [h k hk])
theorem inv_ex {tn : Nat → Nat} (h : Inj tn n) (z : Nat → Nat) : ∃ y : Nat → Nat, ∀ j, j < n → y (tn j) = z j := by
  refine ⟨fun k => if hk : ∃ j, j < n ∧ tn j = k then z (Classical.choose hk) else 0, fun j hj => ?_⟩
  have hk : ∃ i, i < n ∧ tn i = tn j := ⟨j, hj, rfl⟩
  dsimp only
  rw [dif_pos hk]
  obtain ⟨h1, h2⟩ := Classical.choose_spec hk
  rw [h.2 _ j h1 hj h2]
/-- the best in one order is the best in the other -/
theorem Opt_p (hi : Did D n) {tn : Nat → Nat} (h : Inj tn n) {y : Nat → Nat} (hy : Opt D nF cap n y) : Opt (Dp D tn) nF cap n (fun j => y (tn j)) := by
  refine ⟨fun j hj => hy.1 (tn j) (h.1 j hj), fun f hf => by rw [us_p h]; exact hy.2.1 f hf, fun z h1 h2 => ?_⟩
  obtain ⟨w, hw⟩ := inv_ex h z
  have e1 : sm (Dp D tn) z n = sm D w n := by
    rw [← sm_p hi h]
    exact sm_cong (fun j hj => (hw j hj).symm)
  rw [e1, sm_p hi h]
  refine hy.2.2 w (fun k hk => ?_) (fun f hf => ?_)
  · obtain ⟨j, hj, rfl⟩ := inP_ex (inP_all h k hk)
    rw [hw j hj]
    exact h1 j hj
  · have e2 : us D f w n = us (Dp D tn) f z n := by
      rw [← us_p h]
      exact us_cong (fun j hj => hw j hj)
    rw [e2]
    exact h2 f hf
/-- the best of the other order, found by its sum -/
theorem Opt_q (hD : Dok D n) (hi : Did D n) {tn : Nat → Nat} (h : Inj tn n) {y z : Nat → Nat} (hy : Opt D nF cap n y) (hz : cn (Dp D tn) n z) (he : sm (Dp D tn) z n = sm (Dp D tn) (fun j => y (tn j)) n) : ∀ j, j < n → z j = y (tn j) := by
  obtain ⟨w, hw⟩ := inv_ex h z
  have e1 : sm (Dp D tn) z n = sm D w n := by
    rw [← sm_p hi h]
    exact sm_cong (fun j hj => (hw j hj).symm)
  have hc : cn D n w := fun k hk => by
    obtain ⟨j, hj, rfl⟩ := inP_ex (inP_all h k hk)
    rw [hw j hj]
    exact hz j hj
  have := sm_inj hD hi hc hy.1 (by rw [← e1, he, sm_p hi h])
  intro j hj
  rw [← hw j hj]
  exact this (tn j) (h.1 j hj)
end M33
