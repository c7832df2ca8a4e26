/-! the problem that a state poses -/
section M34
variable {nF nP : Nat} {fl pa nu : Nat → Int32}
/-- the p-th number below m that c names -/
def nthS (c : Nat → Bool) : Nat → Nat → Nat
  | 0, _ => 0
  | m + 1, p => if c m = true ∧ ctS c m = p then m else nthS c m p
theorem nth_ok {c : Nat → Bool} {p : Nat} : ∀ {m : Nat}, p < ctS c m → nthS c m p < m ∧ c (nthS c m p) = true ∧ ctS c (nthS c m p) = p
  | 0, h => by unfold ctS at h; omega
  | m + 1, h => by
    unfold nthS
    by_cases e : c m = true ∧ ctS c m = p
    · rw [if_pos e]
      exact ⟨by omega, e.1, e.2⟩
    · rw [if_neg e]
      have h2 : p < ctS c m := by
        unfold ctS at h
        by_cases hc : c m = true
        · rw [if_pos hc] at h
          have : ¬ ctS c m = p := fun z => e ⟨hc, z⟩
          omega
        · rw [if_neg hc] at h; exact h
      obtain ⟨h3, h4, h5⟩ := nth_ok h2
      exact ⟨by omega, h4, h5⟩
theorem ctS_mono {c : Nat → Bool} {k : Nat} : ∀ {m : Nat}, k ≤ m → ctS c k ≤ ctS c m
  | 0, h => by rw [show k = 0 by omega]; exact Nat.le_refl _
  | m + 1, h => by
    by_cases e : k = m + 1
    · rw [e]; exact Nat.le_refl _
    · have := ctS_mono (c := c) (k := k) (m := m) (by omega)
      have e2 : ctS c (m + 1) = if c m = true then ctS c m + 1 else ctS c m := rfl
      rw [e2]
      split <;> omega
theorem ctS_lt {c : Nat → Bool} {k m : Nat} (h : k < m) (hc : c k = true) : ctS c k < ctS c m := by
  have h1 := ctS_mono (c := c) (k := k + 1) (m := m) h
  have e2 : ctS c (k + 1) = if c k = true then ctS c k + 1 else ctS c k := rfl
  rw [e2, if_pos hc] at h1
  omega
theorem ctS_inj {c : Nat → Bool} {k j : Nat} (hk : c k = true) (hj : c j = true) (h : ctS c k = ctS c j) : k = j := by
  rcases Nat.lt_trichotomy k j with g | g | g
  · have := ctS_lt g hk; omega
  · exact g
  · have := ctS_lt g hj; omega
theorem nth_of {c : Nat → Bool} {k m : Nat} (hk : k < m) (hc : c k = true) : nthS c m (ctS c k) = k := by
  obtain ⟨h1, h2, h3⟩ := nth_ok (c := c) (p := ctS c k) (m := m) (ctS_lt hk hc)
  exact ctS_inj h2 hc h3
theorem ctS_skip {c : Nat → Bool} {k : Nat} : ∀ {m : Nat}, k ≤ m → (∀ j, k ≤ j → j < m → c j = false) → ctS c m = ctS c k
  | 0, h, _ => by rw [show k = 0 by omega]
  | m + 1, h, hc => by
    by_cases e : k = m + 1
    · rw [e]
    · have e2 : ctS c (m + 1) = if c m = true then ctS c m + 1 else ctS c m := rfl
      rw [e2, if_neg (by rw [hc m (by omega) (by omega)]; decide)]
      exact ctS_skip (by omega) (fun j h1 h2 => hc j h1 (by omega))
/-- ways as codes: 9 a + b + 1 -/
def cB (c : Nat) : Option Nat := if c % 9 = 0 then none else some (c % 9 - 1)
def okW (fl nu : Nat → Int32) (nF own c : Nat) : Bool := decide (c / 9 < nF) && decide (c % 9 ≤ nF) && wyS fl nu own (c / 9) (cB c)
def lastW (c : Nat) : Nat := (cB c).getD (c / 9)
def lateN (fl : Nat → Int32) (own c : Nat) : Nat := cN (ltS fl own (lastW c))
theorem okW_t {own c : Nat} (h : okW fl nu nF own c = true) : c / 9 < nF ∧ c % 9 ≤ nF ∧ wyS fl nu own (c / 9) (cB c) = true := by
  simp [okW] at h
  exact ⟨h.1.1, h.1.2, h.2⟩
theorem cB_0 (a : Nat) : cB (9 * a) = none := by unfold cB; rw [if_pos (by omega)]
theorem cB_s {a b : Nat} (hb : b < 8) : cB (9 * a + (b + 1)) = some b := by
  unfold cB
  rw [if_neg (by omega), show (9 * a + (b + 1)) % 9 - 1 = b by omega]
theorem okW_0 {own a : Nat} (ha : a < nF) : okW fl nu nF own (9 * a) = wyS fl nu own a none := by
  unfold okW
  rw [cB_0, show 9 * a / 9 = a by omega, decide_eq_true ha, decide_eq_true (show 9 * a % 9 ≤ nF by omega)]
  rfl
theorem okW_s {own a b : Nat} (hn : nF ≤ 8) (ha : a < nF) (hb : b < nF) : okW fl nu nF own (9 * a + (b + 1)) = wyS fl nu own a (some b) := by
  unfold okW
  rw [cB_s (by omega), show (9 * a + (b + 1)) / 9 = a by omega, decide_eq_true ha, decide_eq_true (show (9 * a + (b + 1)) % 9 ≤ nF by omega)]
  rfl
theorem okW_g {own a b : Nat} (hb : nF < b) (hb2 : b < 9) : okW fl nu nF own (9 * a + b) = false := by
  unfold okW
  rw [decide_eq_false (p := (9 * a + b) % 9 ≤ nF) (by omega)]
  simp
theorem lastW_lt {own c : Nat} (h : okW fl nu nF own c = true) : lastW c < nF := by
  obtain ⟨h1, h2, -⟩ := okW_t h
  unfold lastW cB
  split
  · exact h1
  · show c % 9 - 1 < nF
    omega
theorem lt_ok (F : WF nF fl) {own z : Nat} (ho : own < nF) (hz : z < nF) : ltS fl own z = nI (cN (ltS fl own z)) ∧ cN (ltS fl own z) ≤ 9999 := by
  obtain ⟨d, r, h1, h2, -, e⟩ := (F z hz).2.2.2.1
  obtain ⟨d', r', h1', h2', -, e'⟩ := (F own ho).2.2.2.1
  unfold ltS
  rw [e, e', mx0_N (by omega) (by omega), cN_nI (by omega)]
  exact ⟨rfl, by omega⟩
/-- twelve ways are the most -/
def fDir (fl : Nat → Int32) (own a : Nat) : Bool := decide (a ≠ own) && decide (fl (7 * a) = fl (7 * own)) && decide (fl (7 * a + 1) = fl (7 * own + 1))
def fFst (fl : Nat → Int32) (own a : Nat) : Bool := decide (a ≠ own) && decide (fl (7 * a) = fl (7 * own)) && decide (¬ fl (7 * a + 1) = fl (7 * own + 1))
def fSnd (fl : Nat → Int32) (own a : Nat) : Bool := decide (¬ fl (7 * a) = fl (7 * own)) && decide (fl (7 * a + 1) = fl (7 * own + 1))
theorem way_n {own a : Nat} (h : wyS fl nu own a none = true) : fDir fl own a = true := by
  simp [wyS, w1] at h
  simp [fDir, h]
theorem way_s (F : WF nF fl) {own a b : Nat} (ha : a < nF) (hb : b < nF) (h : wyS fl nu own a (some b) = true) : fFst fl own a = true ∧ fSnd fl own b = true := by
  simp [wyS, w1, w2] at h
  obtain ⟨⟨⟨⟨⟨h1, h2⟩, h3⟩, h4⟩, ⟨⟨h5, h6⟩, h7⟩⟩, h8⟩ := h
  have ea := (F a ha).2.2.1
  have eb := (F b hb).2.2.1
  simp only [fFst, fSnd, Bool.and_eq_true, decide_eq_true_eq]
  refine ⟨⟨⟨h1, h3⟩, fun z => eb ?_⟩, fun z => ea ?_, h8⟩
  · rw [h6, h8, z]
  · rw [← h6, z, h3]
theorem kinds {own : Nat} : ∀ {m : Nat}, ctS (fDir fl own) m + ctS (fFst fl own) m + ctS (fSnd fl own) m + (if own < m then 1 else 0) ≤ m
  | 0 => by simp [ctS]
  | m + 1 => by
    have ih := kinds (own := own) (m := m)
    have e1 : ctS (fDir fl own) (m + 1) = if fDir fl own m = true then ctS (fDir fl own) m + 1 else ctS (fDir fl own) m := rfl
    have e2 : ctS (fFst fl own) (m + 1) = if fFst fl own m = true then ctS (fFst fl own) m + 1 else ctS (fFst fl own) m := rfl
    have e3 : ctS (fSnd fl own) (m + 1) = if fSnd fl own m = true then ctS (fSnd fl own) m + 1 else ctS (fSnd fl own) m := rfl
    rw [e1, e2, e3]
    by_cases ho : m = own
    · subst ho
      have d1 : fDir fl m m = false := by simp [fDir]
      have d2 : fFst fl m m = false := by simp [fFst]
      have d3 : fSnd fl m m = false := by simp [fSnd]
      rw [d1, d2, d3, if_pos (show m < m + 1 by omega)]
      rw [if_neg (show ¬ m < m by omega)] at ih
      simp only [Bool.false_eq_true, if_false]
      omega
    · have hx : (if own < m + 1 then 1 else 0) = (if own < m then 1 else 0) := by
        by_cases h : own < m
        · rw [if_pos h, if_pos (by omega)]
        · rw [if_neg h, if_neg (by omega)]
      rw [hx]
      by_cases hf : fl (7 * m) = fl (7 * own)
      · have d3 : fSnd fl own m = false := by simp [fSnd, hf]
        by_cases ht : fl (7 * m + 1) = fl (7 * own + 1)
        · have d2 : fFst fl own m = false := by simp [fFst, ht]
          rw [d2, d3]
          simp only [Bool.false_eq_true, if_false]
          split <;> omega
        · have d1 : fDir fl own m = false := by simp [fDir, ht]
          rw [d1, d3]
          simp only [Bool.false_eq_true, if_false]
          split <;> omega
      · have d1 : fDir fl own m = false := by simp [fDir, hf]
        have d2 : fFst fl own m = false := by simp [fFst, hf]
        rw [d1, d2]
        simp only [Bool.false_eq_true, if_false]
        split <;> omega
theorem ct_row (F : WF nF fl) (hn : nF ≤ 8) {own a : Nat} : ∀ {j : Nat}, j ≤ 8 → ctS (okW fl nu nF own) (9 * a + 1 + j) ≤ ctS (okW fl nu nF own) (9 * a) + (if fDir fl own a = true then 1 else 0) + (if fFst fl own a = true then ctS (fSnd fl own) j else 0)
  | 0, _ => by
    have e1 : ctS (okW fl nu nF own) (9 * a + 1) = if okW fl nu nF own (9 * a) = true then ctS (okW fl nu nF own) (9 * a) + 1 else ctS (okW fl nu nF own) (9 * a) := rfl
    rw [Nat.add_zero, e1]
    by_cases h : okW fl nu nF own (9 * a) = true
    · have h2 := (okW_t h).2.2
      rw [cB_0, show 9 * a / 9 = a by omega] at h2
      rw [if_pos h, if_pos (way_n h2)]
      omega
    · rw [if_neg h]; omega
  | j + 1, hj => by
    have ih := ct_row F hn (own := own) (a := a) (j := j) (by omega)
    have e1 : ctS (okW fl nu nF own) (9 * a + 1 + (j + 1)) = if okW fl nu nF own (9 * a + 1 + j) = true then ctS (okW fl nu nF own) (9 * a + 1 + j) + 1 else ctS (okW fl nu nF own) (9 * a + 1 + j) := rfl
    have e3 : ctS (fSnd fl own) (j + 1) = if fSnd fl own j = true then ctS (fSnd fl own) j + 1 else ctS (fSnd fl own) j := rfl
    rw [e1, e3]
    by_cases h : okW fl nu nF own (9 * a + 1 + j) = true
    · obtain ⟨k1, k2, h2⟩ := okW_t h
      rw [show 9 * a + 1 + j = 9 * a + (j + 1) by omega] at k1 k2 h2
      rw [cB_s (by omega), show (9 * a + (j + 1)) / 9 = a by omega] at h2
      obtain ⟨g1, g2⟩ := way_s F (by omega) (by omega) h2
      rw [if_pos h, if_pos g1, if_pos g2]
      rw [if_pos g1] at ih
      omega
    · rw [if_neg h]
      by_cases g1 : fFst fl own a = true
      · rw [if_pos g1] at ih ⊢
        by_cases g2 : fSnd fl own j = true
        · rw [if_pos g2]; omega
        · rw [if_neg g2]; omega
      · rw [if_neg g1] at ih ⊢
        omega
theorem ct_all (F : WF nF fl) (hn : nF ≤ 8) {own : Nat} : ∀ {m : Nat}, ctS (okW fl nu nF own) (9 * m) ≤ ctS (fDir fl own) m + ctS (fFst fl own) m * ctS (fSnd fl own) 8
  | 0 => by simp [ctS]
  | m + 1 => by
    have ih := ct_all F hn (own := own) (m := m)
    have hr := ct_row (nu := nu) F hn (own := own) (a := m) (j := 8) (by omega)
    rw [show 9 * m + 1 + 8 = 9 * (m + 1) by omega] at hr
    have e1 : ctS (fDir fl own) (m + 1) = if fDir fl own m = true then ctS (fDir fl own) m + 1 else ctS (fDir fl own) m := rfl
    have e2 : ctS (fFst fl own) (m + 1) = if fFst fl own m = true then ctS (fFst fl own) m + 1 else ctS (fFst fl own) m := rfl
    rw [e1, e2]
    by_cases g2 : fFst fl own m = true
    · rw [if_pos g2, Nat.add_mul]
      rw [if_pos g2] at hr
      split <;> (rename_i h; simp only [h] at hr; simp at hr; omega)
    · rw [if_neg g2]
      rw [if_neg g2] at hr
      split <;> (rename_i h; simp only [h] at hr; simp at hr; omega)
theorem twelve : ∀ d p q : Nat, d + p + q ≤ 7 → d + p * q ≤ 12 := by
  intro d p q h
  have hp : p ≤ 7 := by omega
  rcases (show p = 0 ∨ p = 1 ∨ p = 2 ∨ p = 3 ∨ p = 4 ∨ p = 5 ∨ p = 6 ∨ p = 7 by omega) with e | e | e | e | e | e | e | e <;> subst e <;> omega
theorem nw_le (F : WF nF fl) (hn : nF ≤ 8) {own : Nat} (ho : own < nF) : ctS (okW fl nu nF own) 72 ≤ 12 := by
  have h1 : ctS (okW fl nu nF own) 72 ≤ _ := ct_all (nu := nu) F hn (own := own) (m := 8)
  have h2 := kinds (fl := fl) (own := own) (m := 8)
  rw [if_pos (by omega)] at h2
  have h3 := twelve (ctS (fDir fl own) 8) (ctS (fFst fl own) 8) (ctS (fSnd fl own) 8) (by omega)
  omega
/-- the problem -/
def lfS (pa : Nat → Int32) (nP k : Nat) : Nat := nthS (stc pa) nP k
def owS (pa : Nat → Int32) (nP k : Nat) : Nat := cN (pa (9 * lfS pa nP k))
def stN (pa : Nat → Int32) (nP : Nat) : Nat := ctS (stc pa) nP
def mD (fl pa nu : Nat → Int32) (nF nP : Nat) : MD := (fun k => szN pa (lfS pa nP k), fun k => ctS (okW fl nu nF (owS pa nP k)) 72, fun k p => nthS (okW fl nu nF (owS pa nP k)) 72 p, fun k p => lateN fl (owS pa nP k) (nthS (okW fl nu nF (owS pa nP k)) 72 p), fun k => k)
def capS (fl pa : Nat → Int32) (nP f : Nat) : Nat := cN (fl (7 * f + 4)) - sN pa (flyc pa (nI f)) nP
theorem lf_ok {k : Nat} (hk : k < stN pa nP) : lfS pa nP k < nP ∧ stc pa (lfS pa nP k) = true ∧ ctS (stc pa) (lfS pa nP k) = k := nth_ok hk
theorem ow_ok (W : WP nF nP pa) (hn : nF ≤ 8) {k : Nat} (hk : k < stN pa nP) : pa (9 * lfS pa nP k) = nI (owS pa nP k) ∧ owS pa nP k < nF := by
  obtain ⟨⟨o, ho, eo⟩, -⟩ := W _ (lf_ok hk).1
  unfold owS
  rw [eo, cN_nI (by omega)]
  exact ⟨rfl, ho⟩
theorem mD_i {n : Nat} : Did (mD fl pa nu nF nP) n := fun _ _ => rfl
theorem mD_ok (W : WP nF nP pa) (F : WF nF fl) (hn : nF ≤ 8) (h6 : stN pa nP ≤ 6) : Dok (mD fl pa nu nF nP) (stN pa nP) := by
  refine ⟨h6, fun k hk => ?_⟩
  have hz := sz_ok W (lf_ok hk).1
  obtain ⟨-, ho⟩ := ow_ok W hn hk
  refine ⟨hz.2.1, hz.2.2, nw_le F hn ho, show k < 6 by omega, fun p hp => ?_⟩
  obtain ⟨-, h2, -⟩ := nth_ok (c := okW fl nu nF (owS pa nP k)) (m := 72) hp
  exact (lt_ok F ho (lastW_lt h2)).2
noncomputable def mvY (fl pa nu : Nat → Int32) (nF nP : Nat) : Nat → Nat := Classical.epsilon (fun y => Opt (mD fl pa nu nF nP) nF (capS fl pa nP) (stN pa nP) y)
theorem mvY_ok (W : WP nF nP pa) (F : WF nF fl) (hn : nF ≤ 8) (h6 : stN pa nP ≤ 6) : Opt (mD fl pa nu nF nP) nF (capS fl pa nP) (stN pa nP) (mvY fl pa nu nF nP) := by
  exact Classical.epsilon_spec (Opt_ex (nF := nF) (cap := capS fl pa nP) (mD_ok (nu := nu) W F hn h6))
/-- the parties behind: those that c names have their ways -/
def mvF (D : MD) (pa : Nat → Int32) (nP : Nat) (y : Nat → Nat) (c : Nat → Bool) (j : Nat) : Int32 := if (decide (j / 9 < nP) && stc pa (j / 9) && c (ctS (stc pa) (j / 9)) && decide (y (ctS (stc pa) (j / 9)) < D.2.1 (ctS (stc pa) (j / 9)))) = true then (if j % 9 = 8 then nI (D.2.2.1 (ctS (stc pa) (j / 9)) (y (ctS (stc pa) (j / 9))) % 9) - 1 else if j % 9 = 7 then nI (D.2.2.1 (ctS (stc pa) (j / 9)) (y (ctS (stc pa) (j / 9))) / 9) else pa j) else pa j
theorem mvF_0 {D : MD} {y : Nat → Nat} : mvF D pa nP y (fun _ => false) = pa := by
  funext j
  unfold mvF
  rw [if_neg (by simp)]
theorem mvF_n {D : MD} {y : Nat → Nat} {c d : Nat → Bool} {k : Nat} (h : ∀ i, i ≠ k → c i = d i) (hy : ¬ y k < D.2.1 k) : mvF D pa nP y d = mvF D pa nP y c := by
  funext j
  unfold mvF
  by_cases e : ctS (stc pa) (j / 9) = k
  · rw [e, decide_eq_false hy]; simp
  · rw [h _ e]
theorem mvF_y {D : MD} {y : Nat → Nat} {c d : Nat → Bool} {k : Nat} (hk : k < stN pa nP) (h : ∀ i, i ≠ k → c i = d i) (hc : c k = false) (hd : d k = true) (hy : y k < D.2.1 k) : mvF D pa nP y d = fun j => if j = 9 * lfS pa nP k + 8 then nI (D.2.2.1 k (y k) % 9) - 1 else if j = 9 * lfS pa nP k + 7 then nI (D.2.2.1 k (y k) / 9) else mvF D pa nP y c j := by
  obtain ⟨l1, l2, l3⟩ := lf_ok hk
  funext j
  by_cases e : j / 9 = lfS pa nP k
  · unfold mvF
    rw [e, l3, l2, decide_eq_true l1, decide_eq_true hy, hc, hd]
    simp only [Bool.and_self, Bool.and_true, Bool.and_false, Bool.false_and, if_true, Bool.false_eq_true, if_false]
    by_cases e8 : j % 9 = 8
    · rw [if_pos e8, if_pos (show j = 9 * lfS pa nP k + 8 by omega)]
    · rw [if_neg e8, if_neg (show ¬ j = 9 * lfS pa nP k + 8 by omega)]
      by_cases e7 : j % 9 = 7
      · rw [if_pos e7, if_pos (show j = 9 * lfS pa nP k + 7 by omega)]
      · rw [if_neg e7, if_neg (show ¬ j = 9 * lfS pa nP k + 7 by omega)]
  · rw [if_neg (by omega), if_neg (by omega)]
    unfold mvF
    by_cases e2 : ctS (stc pa) (j / 9) = k
    · by_cases e3 : stc pa (j / 9) = true
      · exact absurd (ctS_inj e3 l2 (by rw [e2, l3])) e
      · rw [show stc pa (j / 9) = false by simpa using e3]; simp
    · rw [h _ e2]
theorem mvF_cong {D : MD} {y z : Nat → Nat} {c d : Nat → Bool} (h : ∀ k, k < stN pa nP → c k = d k) (hy : ∀ k, k < stN pa nP → y k = z k) : mvF D pa nP y c = mvF D pa nP z d := by
  funext j
  unfold mvF
  by_cases e : j / 9 < nP
  · by_cases e3 : stc pa (j / 9) = true
    · have := ctS_lt e e3
      rw [h _ this, hy _ this]
    · rw [show stc pa (j / 9) = false by simpa using e3]; simp
  · rw [decide_eq_false e]; simp
noncomputable def mvP (fl pa nu : Nat → Int32) (nF nP : Nat) : Nat → Int32 := if 6 < stN pa nP then pa else mvF (mD fl pa nu nF nP) pa nP (mvY fl pa nu nF nP) (fun _ => true)
noncomputable def mvV (fl pa nu : Nat → Int32) (nF nP : Nat) : Int32 := if 6 < stN pa nP then -1 else nI (spp (mD fl pa nu nF nP) (mvY fl pa nu nF nP) (stN pa nP))
theorem mvF_o {D : MD} {y : Nat → Nat} {c : Nat → Bool} {p k : Nat} (hk : k < 7) : mvF D pa nP y c (9 * p + k) = pa (9 * p + k) := by
  unfold mvF
  rw [if_neg (show ¬ (9 * p + k) % 9 = 8 by omega), if_neg (show ¬ (9 * p + k) % 9 = 7 by omega)]
  split <;> rfl
theorem WP_mv (W : WP nF nP pa) (F : WF nF fl) (hn : nF ≤ 8) : WP nF nP (mvP fl pa nu nF nP) := by
  unfold mvP
  split
  · exact W
  · next h6 =>
    intro p hp
    obtain ⟨h1, h2, h3, h4, h5, h6', h7, h8, h9, h10, h11, h12, h13⟩ := W p hp
    have e0 : mvF (mD fl pa nu nF nP) pa nP (mvY fl pa nu nF nP) (fun _ => true) (9 * p) = pa (9 * p) := mvF_o (k := 0) (by decide)
    rw [e0, mvF_o (k := 1) (by decide), mvF_o (k := 2) (by decide), mvF_o (k := 3) (by decide), mvF_o (k := 4) (by decide), mvF_o (k := 5) (by decide), mvF_o (k := 6) (by decide)]
    by_cases hs : stc pa p = true ∧ mvY fl pa nu nF nP (ctS (stc pa) p) < (mD fl pa nu nF nP).2.1 (ctS (stc pa) p)
    · obtain ⟨s1, s2⟩ := hs
      have hk := ctS_lt hp s1
      have hl : lfS pa nP (ctS (stc pa) p) = p := nth_of hp s1
      obtain ⟨o1, o2⟩ := ow_ok W hn hk
      rw [hl] at o1
      obtain ⟨n1, n2, -⟩ := nth_ok (c := okW fl nu nF (owS pa nP (ctS (stc pa) p))) (m := 72) s2
      obtain ⟨c1, c2, c3⟩ := okW_t n2
      have e8 : mvF (mD fl pa nu nF nP) pa nP (mvY fl pa nu nF nP) (fun _ => true) (9 * p + 8) = nI ((mD fl pa nu nF nP).2.2.1 (ctS (stc pa) p) (mvY fl pa nu nF nP (ctS (stc pa) p)) % 9) - 1 := by
        unfold mvF
        rw [show (9 * p + 8) / 9 = p by omega, show (9 * p + 8) % 9 = 8 by omega, s1, decide_eq_true hp, decide_eq_true s2]
        rfl
      have e7 : mvF (mD fl pa nu nF nP) pa nP (mvY fl pa nu nF nP) (fun _ => true) (9 * p + 7) = nI ((mD fl pa nu nF nP).2.2.1 (ctS (stc pa) p) (mvY fl pa nu nF nP (ctS (stc pa) p)) / 9) := by
        unfold mvF
        rw [show (9 * p + 7) / 9 = p by omega, show (9 * p + 7) % 9 = 7 by omega, s1, decide_eq_true hp, decide_eq_true s2]
        rfl
      have hst : ¬ pa (9 * p + 5) = 0 := fun z => by
        simp [stc, z] at s1
      rw [e7, e8]
      generalize hcc : (mD fl pa nu nF nP).2.2.1 (ctS (stc pa) p) (mvY fl pa nu nF nP (ctS (stc pa) p)) = cc
      have hcc' : nthS (okW fl nu nF (owS pa nP (ctS (stc pa) p))) 72 (mvY fl pa nu nF nP (ctS (stc pa) p)) = cc := hcc
      rw [hcc'] at c1 c2 c3 n2
      have ha : cc / 9 ≠ owS pa nP (ctS (stc pa) p) := by
        rcases hb : cB cc with _ | b
        · rw [hb] at c3; have := way_n c3; simp [fDir] at this; exact this.1.1
        · rw [hb] at c3
          simp [wyS, w1] at c3
          exact c3.1.1.1.1.1
      have hm : ¬ nI (cc / 9) = -1 := nI_m1 (by omega)
      refine ⟨h1, h2, h3, h4, h5, h6', h7, Or.inr ⟨cc / 9, c1, rfl⟩, ?_, fun z => absurd z hst, fun z => absurd z hm, fun z => ?_, fun z => ?_⟩
      · by_cases e : cc % 9 = 0
        · left; rw [e]; rfl
        · right; exact ⟨cc % 9 - 1, by omega, by rw [show cc % 9 = (cc % 9 - 1) + 1 by omega, nI_pred]; rfl⟩
      · rw [o1, nI_eq (by omega) (by omega)] at z
        exact ha z
      · by_cases e : cc % 9 = 0
        · rw [e, o1] at z
          exact nI_m1 (j := owS pa nP (ctS (stc pa) p)) (by omega) (by rw [← z]; rfl)
        · have hb : cB cc = some (cc % 9 - 1) := by unfold cB; rw [if_neg e]
          rw [hb] at c3
          have hs2 := (way_s F c1 (by omega) c3).2
          rw [show cc % 9 = (cc % 9 - 1) + 1 by omega, nI_pred, o1, nI_eq (by omega) (by omega)] at z
          rw [z] at hs2
          simp [fSnd] at hs2
    · have ek : ∀ k, k < 9 → mvF (mD fl pa nu nF nP) pa nP (mvY fl pa nu nF nP) (fun _ => true) (9 * p + k) = pa (9 * p + k) := fun k hk => by
        unfold mvF
        rw [show (9 * p + k) / 9 = p by omega, if_neg ?_]
        intro z
        simp only [Bool.and_eq_true, decide_eq_true_eq] at z
        exact hs ⟨z.1.1.2, z.2⟩
      rw [ek 7 (by decide), ek 8 (by decide)]
      exact ⟨h1, h2, h3, h4, h5, h6', h7, h8, h9, h10, h11, h12, h13⟩
end M34
