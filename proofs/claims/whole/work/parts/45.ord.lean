/-! the class's order of the stranded: the larger parties first, then by number -/
section O45
variable {pa fl nu : Nat → Int32} {nF nP : Nat}
theorem ctS_add {c d e : Nat → Bool} : ∀ {n : Nat}, (∀ p, p < n → e p = (c p || d p) ∧ (c p && d p) = false) → ctS e n = ctS c n + ctS d n
  | 0, _ => rfl
  | n + 1, h => by
    have ih := ctS_add (c := c) (d := d) (e := e) (n := n) (fun p hp => h p (by omega))
    obtain ⟨h1, h2⟩ := h n (by omega)
    have e1 : ctS e (n + 1) = if e n = true then ctS e n + 1 else ctS e n := rfl
    have e2 : ctS c (n + 1) = if c n = true then ctS c n + 1 else ctS c n := rfl
    have e3 : ctS d (n + 1) = if d n = true then ctS d n + 1 else ctS d n := rfl
    rw [e1, e2, e3, h1, ih]
    cases hc : c n <;> cases hd : d n
    · rfl
    · simp; omega
    · simp; omega
    · rw [hc, hd] at h2; cases h2
theorem ctS_no {c : Nat → Bool} : ∀ {n : Nat}, (∀ p, p < n → c p = false) → ctS c n = 0
  | 0, _ => rfl
  | n + 1, h => by
    have e1 : ctS c (n + 1) = if c n = true then ctS c n + 1 else ctS c n := rfl
    rw [e1, if_neg (by rw [h n (by omega)]; decide), ctS_no (fun p hp => h p (by omega))]
theorem ctS_sh {c d : Nat → Bool} {k : Nat} : ∀ {m : Nat}, (∀ p, p < m → c (k + p) = d p) → ctS c (k + m) = ctS c k + ctS d m
  | 0, _ => rfl
  | m + 1, h => by
    have ih := ctS_sh (c := c) (d := d) (k := k) (m := m) (fun p hp => h p (by omega))
    have e1 : ctS c (k + (m + 1)) = if c (k + m) = true then ctS c (k + m) + 1 else ctS c (k + m) := rfl
    have e2 : ctS d (m + 1) = if d m = true then ctS d m + 1 else ctS d m := rfl
    rw [e1, e2, h m (by omega), ih]
    split <;> omega
def cK (pa : Nat → Int32) (nP k : Nat) : Bool := decide (k % 20 < nP) && stc pa (k % 20) && decide (szN pa (k % 20) + k / 20 = 6)
def kK (pa : Nat → Int32) (nP i : Nat) : Nat := nthS (cK pa nP) 120 i
def qK (pa : Nat → Int32) (nP i : Nat) : Nat := kK pa nP i % 20
def tK (pa : Nat → Int32) (nP i : Nat) : Nat := ctS (stc pa) (qK pa nP i)
def wK (pa : Nat → Int32) (nP i : Nat) : Option Nat := lastT (fun t => decide (cN (pa (9 * qK pa nP t)) = cN (pa (9 * qK pa nP i))) && decide (szN pa (qK pa nP t) = szN pa (qK pa nP i))) i
theorem cK_t {k : Nat} (h : cK pa nP k = true) : k % 20 < nP ∧ stc pa (k % 20) = true ∧ szN pa (k % 20) + k / 20 = 6 := by
  simp [cK] at h
  exact ⟨h.1.1, h.1.2, h.2⟩
theorem cK_n {s j : Nat} (hj : j < 20) (hs : s ≤ 6) : cK pa nP (20 * (6 - s) + j) = (decide (j < nP) && stc pa j && decide (szN pa j = s)) := by
  unfold cK
  rw [show (20 * (6 - s) + j) % 20 = j by omega, show (20 * (6 - s) + j) / 20 = 6 - s by omega]
  have : decide (szN pa j + (6 - s) = 6) = decide (szN pa j = s) := by
    by_cases e : szN pa j = s
    · rw [decide_eq_true e, decide_eq_true (by omega)]
    · rw [decide_eq_false e, decide_eq_false (by omega)]
  rw [this]
theorem nK_b (W : WP nF nP pa) (hP : nP ≤ 20) : ∀ {k : Nat}, k ≤ 6 → ctS (cK pa nP) (20 * k) = ctS (fun p => stc pa p && decide (6 < szN pa p + k)) nP
  | 0, _ => by
    rw [ctS_no (n := nP) (fun p hp => ?_)]
    · rfl
    · have := (sz_ok W hp).2.2
      rw [decide_eq_false (by unfold szN; omega), Bool.and_false]
  | k + 1, h => by
    have ih := nK_b W hP (k := k) (by omega)
    rw [show 20 * (k + 1) = 20 * k + 20 by omega, ctS_sh (d := fun p => decide (p < nP) && stc pa p && decide (szN pa p = 6 - k)) (fun p hp => ?_), ih, ctS_skip (k := nP) (m := 20) hP (fun j h1 h2 => ?_)]
    · refine (ctS_add (fun p hp => ?_)).symm
      rw [decide_eq_true hp]
      have := (sz_ok W hp).2.2
      cases stc pa p
      · simp
      · simp only [Bool.true_and]
        by_cases e1 : 6 < szN pa p + k
        · rw [decide_eq_true e1, decide_eq_true (show 6 < szN pa p + (k + 1) by omega), decide_eq_false (by omega)]
          exact ⟨rfl, rfl⟩
        · rw [decide_eq_false e1]
          by_cases e2 : szN pa p = 6 - k
          · rw [decide_eq_true e2, decide_eq_true (by omega)]
            exact ⟨rfl, rfl⟩
          · rw [decide_eq_false e2, decide_eq_false (by omega)]
            exact ⟨rfl, rfl⟩
    · rw [decide_eq_false (by omega)]
      rfl
    · have h9 := cK_n (pa := pa) (nP := nP) (s := 6 - k) hp (by omega)
      rw [show 6 - (6 - k) = k by omega] at h9
      exact h9
theorem nK (W : WP nF nP pa) (hP : nP ≤ 20) : ctS (cK pa nP) 120 = stN pa nP := by
  have h := nK_b W hP (k := 6) (by decide)
  rw [show 20 * 6 = 120 by decide] at h
  rw [h]
  refine ctS_cong (fun p hp => ?_)
  have := (sz_ok W hp).2.1
  rw [decide_eq_true (show 6 < szN pa p + 6 by unfold szN; omega), Bool.and_true]
theorem kK_ok (W : WP nF nP pa) (hP : nP ≤ 20) {i : Nat} (hi : i < stN pa nP) : kK pa nP i < 120 ∧ cK pa nP (kK pa nP i) = true ∧ ctS (cK pa nP) (kK pa nP i) = i := nth_ok (by rw [nK W hP]; exact hi)
theorem qK_ok (W : WP nF nP pa) (hP : nP ≤ 20) {i : Nat} (hi : i < stN pa nP) : qK pa nP i < nP ∧ stc pa (qK pa nP i) = true ∧ szN pa (qK pa nP i) + kK pa nP i / 20 = 6 := cK_t (kK_ok W hP hi).2.1
theorem tK_lt (W : WP nF nP pa) (hP : nP ≤ 20) {i : Nat} (hi : i < stN pa nP) : tK pa nP i < stN pa nP := ctS_lt (qK_ok W hP hi).1 (qK_ok W hP hi).2.1
theorem lf_tK (W : WP nF nP pa) (hP : nP ≤ 20) {i : Nat} (hi : i < stN pa nP) : lfS pa nP (tK pa nP i) = qK pa nP i := nth_of (qK_ok W hP hi).1 (qK_ok W hP hi).2.1
theorem tK_inj (W : WP nF nP pa) (hP : nP ≤ 20) : Inj (tK pa nP) (stN pa nP) := by
  refine ⟨fun j hj => tK_lt W hP hj, fun i j hi hj h => ?_⟩
  have h1 := ctS_inj (qK_ok W hP hi).2.1 (qK_ok W hP hj).2.1 h
  have h2 := (qK_ok W hP hi).2.2
  have h3 := (qK_ok W hP hj).2.2
  have e : kK pa nP i = kK pa nP j := by
    have h4 : kK pa nP i % 20 = kK pa nP j % 20 := h1
    rw [h1] at h2
    omega
  rw [← (kK_ok W hP hi).2.2, e, (kK_ok W hP hj).2.2]
/-- the party found at a place of the order -/
theorem kK_at (W : WP nF nP pa) (hP : nP ≤ 20) {s j : Nat} (hj : j < nP) (hs : s ≤ 6) (h1 : stc pa j = true) (h2 : szN pa j = s) : ctS (cK pa nP) (20 * (6 - s) + j) < stN pa nP ∧ qK pa nP (ctS (cK pa nP) (20 * (6 - s) + j)) = j := by
  have hc : cK pa nP (20 * (6 - s) + j) = true := by
    rw [cK_n (by omega) hs, h1, decide_eq_true hj, decide_eq_true h2]
    rfl
  have hs1 : 1 ≤ s := by
    have := (sz_ok W hj).2.1
    unfold szN at h2
    omega
  refine ⟨by rw [← nK W hP]; exact ctS_lt (by omega) hc, ?_⟩
  unfold qK kK
  rw [nth_of (by omega) hc]
  omega
/-- the problem in the class's order -/
def xD (fl pa nu : Nat → Int32) (nF nP : Nat) : MD := Dp (mD fl pa nu nF nP) (tK pa nP)
theorem xD_s (W : WP nF nP pa) (hP : nP ≤ 20) {i : Nat} (hi : i < stN pa nP) : (xD fl pa nu nF nP).1 i = szN pa (qK pa nP i) := by
  show szN pa (lfS pa nP (tK pa nP i)) = _
  rw [lf_tK W hP hi]
theorem xD_o (W : WP nF nP pa) (hP : nP ≤ 20) {i : Nat} (hi : i < stN pa nP) : owS pa nP (tK pa nP i) = cN (pa (9 * qK pa nP i)) := by
  unfold owS
  rw [lf_tK W hP hi]
theorem xD_w (W : WP nF nP pa) (hP : nP ≤ 20) {i : Nat} (hi : i < stN pa nP) : (xD fl pa nu nF nP).2.1 i = ctS (okW fl nu nF (cN (pa (9 * qK pa nP i)))) 72 := by
  show ctS (okW fl nu nF (owS pa nP (tK pa nP i))) 72 = _
  rw [xD_o W hP hi]
theorem xD_c (W : WP nF nP pa) (hP : nP ≤ 20) {i : Nat} (hi : i < stN pa nP) (p : Nat) : (xD fl pa nu nF nP).2.2.1 i p = nthS (okW fl nu nF (cN (pa (9 * qK pa nP i)))) 72 p := by
  show nthS (okW fl nu nF (owS pa nP (tK pa nP i))) 72 p = _
  rw [xD_o W hP hi]
theorem xD_l (W : WP nF nP pa) (hP : nP ≤ 20) {i : Nat} (hi : i < stN pa nP) (p : Nat) : (xD fl pa nu nF nP).2.2.2.1 i p = lateN fl (cN (pa (9 * qK pa nP i))) (nthS (okW fl nu nF (cN (pa (9 * qK pa nP i)))) 72 p) := by
  show lateN fl (owS pa nP (tK pa nP i)) (nthS (okW fl nu nF (owS pa nP (tK pa nP i))) 72 p) = _
  rw [xD_o W hP hi]
theorem xD_t {i : Nat} : (xD fl pa nu nF nP).2.2.2.2 i = tK pa nP i := rfl
theorem xD_ok (W : WP nF nP pa) (F : WF nF fl) (hF : nF ≤ 8) (hP : nP ≤ 20) (h6 : stN pa nP ≤ 6) : Dok (xD fl pa nu nF nP) (stN pa nP) := by
  have h := mD_ok (nu := nu) W F hF h6
  refine ⟨h6, fun k hk => ?_⟩
  obtain ⟨h1, h2, h3, h4, h5⟩ := h.2 (tK pa nP k) (tK_lt W hP hk)
  exact ⟨h1, h2, h3, h4, h5⟩
theorem xD_co (W : WP nF nP pa) (F : WF nF fl) (hF : nF ≤ 8) (hP : nP ≤ 20) : CO (xD fl pa nu nF nP) (stN pa nP) nF := fun k hk p hp => mD_co W F hF (tK pa nP k) (tK_lt W hP hk) p hp
theorem wK_ok (W : WP nF nP pa) (hP : nP ≤ 20) : TWok (xD fl pa nu nF nP) (stN pa nP) (wK pa nP) := fun i hi t h => by
  obtain ⟨h1, h2⟩ := lastT_s h
  rw [Bool.and_eq_true, decide_eq_true_eq, decide_eq_true_eq] at h2
  obtain ⟨h3, h4⟩ := h2
  have ht : t < stN pa nP := by omega
  have k1 := kK_ok W hP hi
  have k2 := kK_ok W hP ht
  have q1 := qK_ok W hP hi
  have q2 := qK_ok W hP ht
  have lt : kK pa nP t < kK pa nP i := by
    rcases Nat.lt_or_ge (kK pa nP t) (kK pa nP i) with z | z
    · exact z
    · have := ctS_mono (c := cK pa nP) z
      omega
  have lq : qK pa nP t < qK pa nP i := by
    have e1 : qK pa nP t = kK pa nP t % 20 := rfl
    have e2 : qK pa nP i = kK pa nP i % 20 := rfl
    omega
  refine ⟨h1, ctS_lt lq q2.2.1, by rw [xD_s W hP ht, xD_s W hP hi]; exact h4, by rw [xD_w W hP ht, xD_w W hP hi, h3], fun p => by rw [xD_c W hP ht, xD_c W hP hi, h3], fun p => by rw [xD_l W hP ht, xD_l W hP hi, h3]⟩
end O45
