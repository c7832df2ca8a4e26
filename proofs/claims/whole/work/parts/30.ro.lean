/-! ROUNDS, in numbers -/
section R30
variable {nF nP : Nat} {fl pa nu : Nat → Int32}
/-- the least bid, then the least number, of those that c names -/
def rnS (pa : Nat → Int32) (c : Nat → Bool) : Nat → Option Nat
  | 0 => none
  | n + 1 => if c n = true then (match rnS pa c n with
    | none => some n
    | some q => if pa (9 * n + 3) < pa (9 * q + 3) then some n else some q) else rnS pa c n
def rnB (pa : Nat → Int32) (c : Nat → Bool) (hi : Nat) : Option Nat → Prop
  | none => ∀ p, p < hi → c p = false
  | some q => q < hi ∧ c q = true ∧ ∀ p, p < hi → c p = true → pa (9 * q + 3) < pa (9 * p + 3) ∨ (pa (9 * q + 3) = pa (9 * p + 3) ∧ q ≤ p)
theorem rnB_one {c : Nat → Bool} {hi : Nat} : ∀ {x y : Option Nat}, rnB pa c hi x → rnB pa c hi y → x = y
  | none, none, _, _ => rfl
  | none, some q, h1, h2 => by
    have := h1 q h2.1
    rw [h2.2.1] at this
    cases this
  | some q, none, h1, h2 => by
    have := h2 q h1.1
    rw [h1.2.1] at this
    cases this
  | some q, some p, h1, h2 => by
    have a1 := h1.2.2 p h2.1 h2.2.1
    have a2 := h2.2.2 q h1.1 h1.2.1
    simp only [i_lt, i_eq] at a1 a2
    have : q = p := by omega
    rw [this]
theorem rnS_B {c : Nat → Bool} : ∀ {n : Nat}, rnB pa c n (rnS pa c n)
  | 0 => fun p h => by omega
  | n + 1 => by
    have ih := rnS_B (c := c) (n := n)
    unfold rnS
    by_cases he : c n = true
    · rw [if_pos he]
      cases hq : rnS pa c n with
      | none =>
        rw [hq] at ih
        refine ⟨by omega, he, fun p h2 h3 => ?_⟩
        by_cases e : p = n
        · subst e; exact Or.inr ⟨rfl, Nat.le_refl _⟩
        · have := ih p (by omega)
          rw [h3] at this; cases this
      | some q =>
        rw [hq] at ih
        obtain ⟨b2, b3, b4⟩ := ih
        dsimp only
        by_cases hr : pa (9 * n + 3) < pa (9 * q + 3)
        · rw [if_pos hr]
          refine ⟨by omega, he, fun p h2 h3 => ?_⟩
          by_cases e : p = n
          · subst e; exact Or.inr ⟨rfl, Nat.le_refl _⟩
          · have b5 := b4 p (by omega) h3
            rw [i_lt] at hr
            simp only [i_lt, i_eq] at b5 ⊢
            omega
        · rw [if_neg hr]
          refine ⟨by omega, b3, fun p h2 h3 => ?_⟩
          by_cases e : p = n
          · subst e
            rw [i_lt] at hr
            simp only [i_lt, i_eq]
            omega
          · exact b4 p (by omega) h3
    · rw [if_neg he]
      have he : c n = false := by simpa using he
      cases hq : rnS pa c n with
      | none =>
        rw [hq] at ih
        intro p h2
        by_cases e : p = n
        · subst e; exact he
        · exact ih p (by omega)
      | some q =>
        rw [hq] at ih
        obtain ⟨b2, b3, b4⟩ := ih
        refine ⟨by omega, b3, fun p h2 h3 => ?_⟩
        by_cases e : p = n
        · subst e; rw [he] at h3; cases h3
        · exact b4 p (by omega) h3
/-- may give and isn't taken; may give for the offer -/
def rnC (pa : Nat → Int32) (f : Int32) (t p : Nat) : Bool := mgS pa f p && !t.testBit p
def rnO (pa : Nat → Int32) (f o : Int32) (p : Nat) : Bool := mgS pa f p && decide (pa (9 * p + 3) ≤ o)
def rnL (pa : Nat → Int32) (nP : Nat) (f : Int32) (ov : Nat) : Nat → Nat → Nat → Option Nat
  | 0, t, pe => if pe < ov then none else some t
  | n + 1, t, pe => if pe < ov then (match rnS pa (rnC pa f t) nP with
    | none => none
    | some q => rnL pa nP f ov n (t ||| 2 ^ q) (pe + szN pa q)) else some t
def rnJ (pa : Nat → Int32) (nP : Nat) (f : Int32) (n t pe : Nat) : Prop := (∀ p, t.testBit p = true → p < nP ∧ mgS pa f p = true) ∧ pe = sN pa t.testBit nP ∧ ctS t.testBit nP + n = nP
theorem tb_or (t q p : Nat) : (t ||| 2 ^ q).testBit p = (t.testBit p || decide (q = p)) := by rw [Nat.testBit_or, Nat.testBit_two_pow]
theorem sN_mono {c d : Nat → Bool} : ∀ {n : Nat}, (∀ p, p < n → c p = true → d p = true) → sN pa c n ≤ sN pa d n
  | 0, _ => Nat.le_refl _
  | n + 1, h => by
    have ih := sN_mono (c := c) (d := d) (n := n) (fun p hp => h p (by omega))
    unfold sN
    by_cases hc : c n = true
    · rw [if_pos hc, if_pos (h n (by omega) hc)]; omega
    · rw [if_neg hc]
      split <;> omega
theorem ctS_all {c : Nat → Bool} : ∀ {n : Nat}, ctS c n = n → ∀ p, p < n → c p = true
  | 0, _, p, hp => by omega
  | n + 1, h, p, hp => by
    have hl := ctS_le c n
    unfold ctS at h
    by_cases hc : c n = true
    · rw [if_pos hc] at h
      by_cases e : p = n
      · subst e; exact hc
      · exact ctS_all (c := c) (n := n) (by omega) p (by omega)
    · rw [if_neg hc] at h; omega
theorem rnC_t {f : Int32} {t p : Nat} (h : rnC pa f t p = true) : mgS pa f p = true ∧ t.testBit p = false := by
  simpa [rnC] using h
theorem rnJ_0 {f : Int32} : rnJ pa nP f nP 0 0 := by
  refine ⟨fun p h => by simp at h, ?_, ?_⟩
  · exact (sN_zero (fun p _ => by simp)).symm
  · have : ∀ n, ctS (Nat.testBit 0) n = 0 := fun n => by
      induction n with
      | zero => rfl
      | succ n ih => unfold ctS; rw [if_neg (by simp), ih]
    rw [this]; omega
theorem rnJ_s {f : Int32} {n t pe q : Nat} (h : rnJ pa nP f (n + 1) t pe) (hq : q < nP) (hc : rnC pa f t q = true) : rnJ pa nP f n (t ||| 2 ^ q) (pe + szN pa q) := by
  obtain ⟨h1, h2, h3⟩ := h
  obtain ⟨c1, c2⟩ := rnC_t hc
  have hd : (t ||| 2 ^ q).testBit q = true := by rw [tb_or]; simp
  have ho : ∀ p, p < nP → p ≠ q → t.testBit p = (t ||| 2 ^ q).testBit p := fun p _ hp => by rw [tb_or]; simp [Ne.symm hp]
  refine ⟨fun p hp => ?_, ?_, ?_⟩
  · rw [tb_or] at hp
    simp at hp
    rcases hp with hp | hp
    · exact h1 p hp
    · subst hp; exact ⟨hq, c1⟩
  · have := sN_rm (pa := pa) (pb := pa) (c := t.testBit) (d := (t ||| 2 ^ q).testBit) hd c2 hq ho (fun _ _ => rfl)
    unfold szN
    omega
  · have := ctS_rm (c := t.testBit) (d := (t ||| 2 ^ q).testBit) hd c2 hq ho
    omega
theorem rnL_none {f : Int32} {ov : Nat} : ∀ {n t pe : Nat}, rnJ pa nP f n t pe → rnL pa nP f ov n t pe = none → sN pa (mgS pa f) nP < ov
  | 0, t, pe, J, h => by
    unfold rnL at h
    by_cases hp : pe < ov
    · have ha := ctS_all (c := t.testBit) (n := nP) (by have := J.2.2; omega)
      have := sN_mono (pa := pa) (c := mgS pa f) (d := t.testBit) (n := nP) (fun p hp _ => ha p hp)
      have := J.2.1
      omega
    · rw [if_neg hp] at h; cases h
  | n + 1, t, pe, J, h => by
    unfold rnL at h
    by_cases hp : pe < ov
    · rw [if_pos hp] at h
      have hb := rnS_B (pa := pa) (c := rnC pa f t) (n := nP)
      cases hq : rnS pa (rnC pa f t) nP with
      | none =>
        rw [hq] at hb
        have := sN_mono (pa := pa) (c := mgS pa f) (d := t.testBit) (n := nP) (fun p hp hm => by
          have h9 := hb p hp
          rw [rnC, hm] at h9
          simpa using h9)
        have := J.2.1
        omega
      | some q =>
        rw [hq] at hb h
        exact rnL_none (rnJ_s J hb.1 hb.2.1) h
    · rw [if_neg hp] at h; cases h
theorem rnL_some (W : WP nF nP pa) {f : Int32} {ov : Nat} : ∀ {n t pe u : Nat}, rnJ pa nP f n t pe → rnL pa nP f ov n t pe = some u → (∀ p, u.testBit p = true → p < nP ∧ mgS pa f p = true) ∧ ov ≤ sN pa u.testBit nP ∧ (∀ p, t.testBit p = true → u.testBit p = true) ∧ ∀ r, u.testBit r = true → t.testBit r = false → ∀ o, o < bdN pa r → sN pa (rnO pa f (nI o)) nP < ov := by
  intro n
  have base : ∀ {n t pe : Nat}, rnJ pa nP f n t pe → ¬ pe < ov → (∀ p, t.testBit p = true → p < nP ∧ mgS pa f p = true) ∧ ov ≤ sN pa t.testBit nP ∧ (∀ p, t.testBit p = true → t.testBit p = true) ∧ ∀ r, t.testBit r = true → t.testBit r = false → ∀ o, o < bdN pa r → sN pa (rnO pa f (nI o)) nP < ov := fun J hp => ⟨J.1, by have := J.2.1; omega, fun _ h => h, fun r h1 h2 => by rw [h1] at h2; cases h2⟩
  induction n with
  | zero =>
    intro t pe u J h
    unfold rnL at h
    by_cases hp : pe < ov
    · rw [if_pos hp] at h; cases h
    · rw [if_neg hp] at h
      cases h
      exact base J hp
  | succ n ih =>
    intro t pe u J h
    unfold rnL at h
    by_cases hp : pe < ov
    · rw [if_pos hp] at h
      have hb := rnS_B (pa := pa) (c := rnC pa f t) (n := nP)
      cases hq : rnS pa (rnC pa f t) nP with
      | none => rw [hq] at h; cases h
      | some q =>
        rw [hq] at hb h
        obtain ⟨b1, b2, b3⟩ := hb
        obtain ⟨i1, i2, i3, i4⟩ := ih (rnJ_s J b1 b2) h
        refine ⟨i1, i2, fun p hp => i3 p (by rw [tb_or, hp]; rfl), fun r h1 h2 o ho => ?_⟩
        by_cases e : r = q
        · subst e
          have hm := sN_mono (pa := pa) (c := rnO pa f (nI o)) (d := t.testBit) (n := nP) (fun p hp hc => by
            simp only [rnO, Bool.and_eq_true, decide_eq_true_eq] at hc
            obtain ⟨g1, g2⟩ := hc
            cases ht : t.testBit p with
            | true => rfl
            | false =>
              exfalso
              have g3 := b3 p hp (by rw [rnC, g1, ht]; rfl)
              obtain ⟨e1, l1⟩ := bd_ok W hp g1
              obtain ⟨e2, l2⟩ := bd_ok W b1 (rnC_t b2).1
              rw [e1, nI_leI (by omega) (by omega)] at g2
              rw [e1, e2, nI_ltI (by omega) (by omega), nI_eq (by omega) (by omega)] at g3
              omega)
          have := J.2.1
          omega
        · exact i4 r h1 (by rw [tb_or, h2]; simp [Ne.symm e]) o ho
    · rw [if_neg hp] at h
      cases h
      exact base J hp
/-- the highest bid -/
def hbN (pa : Nat → Int32) (u : Nat) : Nat → Nat
  | 0 => 0
  | n + 1 => if u.testBit n = true then max (hbN pa u n) (bdN pa n) else hbN pa u n
theorem hbN_ge {u : Nat} : ∀ {n p : Nat}, p < n → u.testBit p = true → bdN pa p ≤ hbN pa u n
  | 0, p, h, _ => by omega
  | n + 1, p, h, hb => by
    unfold hbN
    by_cases e : p = n
    · subst e; rw [if_pos hb]; exact Nat.le_max_right _ _
    · have := hbN_ge (n := n) (p := p) (by omega) hb
      split
      · exact Nat.le_trans this (Nat.le_max_left _ _)
      · exact this
theorem hbN_at {u : Nat} : ∀ {n : Nat}, 0 < hbN pa u n → ∃ r, r < n ∧ u.testBit r = true ∧ bdN pa r = hbN pa u n
  | 0, h => by unfold hbN at h; omega
  | n + 1, h => by
    unfold hbN at h ⊢
    by_cases hb : u.testBit n = true
    · rw [if_pos hb] at h ⊢
      rcases Nat.lt_or_ge (bdN pa n) (hbN pa u n) with g | g
      · obtain ⟨r, r1, r2, r3⟩ := hbN_at (u := u) (n := n) (by omega)
        exact ⟨r, by omega, r2, by rw [r3, Nat.max_eq_left (by omega)]⟩
      · exact ⟨n, by omega, hb, by rw [Nat.max_eq_right g]⟩
    · rw [if_neg hb] at h ⊢
      obtain ⟨r, r1, r2, r3⟩ := hbN_at (u := u) (n := n) h
      exact ⟨r, by omega, r2, r3⟩
theorem hbN_le (W : WP nF nP pa) {f : Int32} {u : Nat} (h : ∀ p, u.testBit p = true → p < nP ∧ mgS pa f p = true) (n : Nat) : hbN pa u n ≤ 999 := by
  rcases Nat.eq_zero_or_pos (hbN pa u n) with g | g
  · omega
  · obtain ⟨r, r1, r2, r3⟩ := hbN_at g
    have := (bd_ok W (h r r2).1 (h r r2).2).2
    omega
theorem rn_ok (W : WP nF nP pa) {f : Int32} {ov u o : Nat} (ho : o < 2 ^ 20) (h : rnL pa nP f ov nP 0 0 = some u) : ov ≤ sN pa (rnO pa f (nI o)) nP ↔ hbN pa u nP ≤ o := by
  obtain ⟨h1, h2, -, h4⟩ := rnL_some W rnJ_0 h
  constructor
  · intro g
    rcases Nat.lt_or_ge o (hbN pa u nP) with l | l
    · exfalso
      obtain ⟨r, r1, r2, r3⟩ := hbN_at (pa := pa) (u := u) (n := nP) (by omega)
      have := h4 r r2 (by simp) o (by omega)
      omega
    · exact l
  · intro g
    refine Nat.le_trans h2 (sN_mono (fun p hp hb => ?_))
    obtain ⟨m1, m2⟩ := h1 p hb
    obtain ⟨e1, l1⟩ := bd_ok W m1 m2
    have := hbN_ge (pa := pa) m1 hb
    rw [rnO, m2, e1]
    simp only [Bool.true_and, decide_eq_true_eq]
    rw [nI_leI (by omega) (by omega)]
    omega
/-- the first offer -/
def foN (hb v s : Nat) : Nat := if hb ≤ v then v else v + (hb - v + s - 1) / s * s
theorem foN_K (hb v s : Nat) (hs : 1 ≤ s) : ∃ K, foN hb v s = v + K * s ∧ hb ≤ v + K * s ∧ ∀ k, k < K → v + k * s < hb := by
  unfold foN
  by_cases h : hb ≤ v
  · exact ⟨0, by rw [if_pos h]; omega, by omega, fun k hk => by omega⟩
  · refine ⟨(hb - v + s - 1) / s, by rw [if_neg h], ?_, fun k hk => ?_⟩
    · have h1 := Nat.div_add_mod (hb - v + s - 1) s
      have h2 := Nat.mod_lt (hb - v + s - 1) (y := s) (by omega)
      rw [Nat.mul_comm] at h1
      omega
    · have h1 := Nat.div_mul_le_self (hb - v + s - 1) s
      have h2 : (k + 1) * s ≤ (hb - v + s - 1) / s * s := Nat.mul_le_mul_right s (by omega)
      rw [Nat.add_mul] at h2
      omega
def rnF (ok : Nat → Bool) (s : Nat) : Nat → Nat → Option Nat
  | 0, _ => none
  | n + 1, o => if o ≤ 999 then (if ok o = true then some o else rnF ok s n (o + s)) else none
def roK (pa : Nat → Int32) (nP : Nat) (f : Int32) (ov v s : Nat) : Option (Nat × Nat) := match rnL pa nP f ov nP 0 0 with
  | none => none
  | some u => if foN (hbN pa u nP) v s ≤ 999 then some (u, foN (hbN pa u nP) v s) else none
theorem rnF_none {ok : Nat → Bool} {s : Nat} (h : ∀ o, ok o = false) : ∀ n o, rnF ok s n o = none
  | 0, _ => rfl
  | n + 1, o => by
    unfold rnF
    split
    · rw [if_neg (by rw [h]; decide)]; exact rnF_none h n _
    · rfl
theorem rnF_eq (W : WP nF nP pa) {f : Int32} {ov v s : Nat} (hs : 1 ≤ s) (hv : v ≤ 999) : rnF (fun o => decide (ov ≤ sN pa (rnO pa f (nI o)) nP)) s 1000 v = (roK pa nP f ov v s).map (·.2) := by
  unfold roK
  cases hu : rnL pa nP f ov nP 0 0 with
  | none =>
    refine rnF_none (fun o => ?_) _ _
    have h1 := rnL_none rnJ_0 hu
    have h2 := sN_mono (pa := pa) (c := rnO pa f (nI o)) (d := mgS pa f) (n := nP) (fun p _ h => by
      simp only [rnO, Bool.and_eq_true] at h
      exact h.1)
    exact decide_eq_false (by omega)
  | some u =>
    dsimp only
    obtain ⟨K, e, h1, h2⟩ := foN_K (hbN pa u nP) v s hs
    rw [e]
    have key : ∀ n k, k ≤ K → 1000 ≤ n + (v + k * s) → rnF (fun o => decide (ov ≤ sN pa (rnO pa f (nI o)) nP)) s n (v + k * s) = (if v + K * s ≤ 999 then some (u, v + K * s) else none).map (·.2) := by
      intro n
      induction n with
      | zero =>
        intro k hk hn
        have : k * s ≤ K * s := Nat.mul_le_mul_right s hk
        rw [if_neg (by omega)]
        rfl
      | succ n ih =>
        intro k hk hn
        have hks : k * s ≤ K * s := Nat.mul_le_mul_right s hk
        unfold rnF
        by_cases hl : v + k * s ≤ 999
        · rw [if_pos hl]
          have ok := rn_ok W (o := v + k * s) (by omega) hu
          by_cases e2 : k = K
          · subst e2
            rw [if_pos (decide_eq_true (ok.mpr h1)), if_pos hl]
            rfl
          · rw [if_neg (by rw [decide_eq_true_eq, ok]; have := h2 k (by omega); omega), Nat.add_assoc, show k * s + s = (k + 1) * s by rw [Nat.add_mul]; omega]
            exact ih (k + 1) (by omega) (by rw [Nat.add_mul]; omega)
        · rw [if_neg hl, if_neg (by omega)]
          rfl
    have := key 1000 0 (by omega) (by omega)
    rw [Nat.zero_mul, Nat.add_zero] at this
    exact this
def roV (fl pa : Nat → Int32) (nF nP : Nat) (f v s : Int32) : Int32 := if (fok nF f && inR v 0 999 && inR s 1 999) = true then (if ovS fl pa nP (cN f) = 0 then v else match roK pa nP f (ovN fl pa nP (cN f)) (cN v) (cN s) with
  | none => -2
  | some w => nI w.2) else -1
def roP (fl pa : Nat → Int32) (nF nP : Nat) (f v s : Int32) : Nat → Int32 := if (fok nF f && inR v 0 999 && inR s 1 999) = true then (if ovS fl pa nP (cN f) = 0 then pa else match roK pa nP f (ovN fl pa nP (cN f)) (cN v) (cN s) with
  | none => pa
  | some w => byP w.1 (fun _ => nI w.2) pa nP) else pa
/-- those taken, given up -/
theorem gv_c {pb : Nat → Int32} {q j : Nat} {x y : Int32} (h : pa j = pb j) : gvP pa q x y j = gvP pb q x y j := by
  rw [gv_paU, gv_paU]
  unfold paU
  rw [h]
theorem byP_at {t : Nat} {c : Nat → Int32} {p k : Nat} (hk : k < 9) : ∀ {n : Nat}, p < n → byP t c pa n (9 * p + k) = if t.testBit p = true then gvP pa p 1 (c p) (9 * p + k) else pa (9 * p + k)
  | 0, h => by omega
  | n + 1, h => by
    unfold byP
    by_cases e : p = n
    · subst e
      by_cases hb : t.testBit p = true
      · rw [if_pos hb, if_pos hb]
        exact gv_c (byP_ge (by omega))
      · rw [if_neg hb, if_neg hb]
        exact byP_ge (by omega)
    · have ih := byP_at (t := t) (c := c) (p := p) (k := k) hk (n := n) (by omega)
      split
      · rw [gv_o hk e]; exact ih
      · exact ih
theorem byP_lo {t : Nat} {c : Nat → Int32} {p k : Nat} (hk : k < 5) : ∀ {n : Nat}, byP t c pa n (9 * p + k) = pa (9 * p + k)
  | 0 => rfl
  | n + 1 => by
    unfold byP
    split
    · rw [gv_lo hk]; exact byP_lo hk
    · exact byP_lo hk
theorem byP_or {t : Nat} {c : Nat → Int32} {q : Nat} (hq : q < nP) : gvP (byP t c pa nP) q 1 (c q) = byP (t ||| 2 ^ q) c pa nP := by
  funext j
  obtain ⟨p, k, hk, rfl⟩ : ∃ p k, k < 9 ∧ j = 9 * p + k := ⟨j / 9, j % 9, by omega, by omega⟩
  rcases Nat.lt_or_ge p nP with hp | hp
  · by_cases e : p = q
    · subst e
      rw [byP_at hk hp, if_pos (by rw [tb_or]; simp)]
      by_cases h5 : k < 5
      · rw [gv_lo h5, gv_lo h5, byP_lo h5]
      · rw [gv_paU, gv_paU]
        unfold paU
        by_cases k8 : k = 8
        · subst k8; rw [if_pos rfl, if_pos rfl]
        · by_cases k7 : k = 7
          · subst k7; rw [if_neg (by omega), if_pos rfl, if_neg (by omega), if_pos rfl]
          · by_cases k6 : k = 6
            · subst k6; rw [if_neg (by omega), if_neg (by omega), if_pos rfl, if_neg (by omega), if_neg (by omega), if_pos rfl]
            · have k5 : k = 5 := by omega
              subst k5
              rw [if_neg (by omega), if_neg (by omega), if_neg (by omega), if_pos rfl, if_neg (by omega), if_neg (by omega), if_neg (by omega), if_pos rfl]
    · rw [gv_o hk e, byP_at hk hp, byP_at hk hp, tb_or]
      simp [Ne.symm e]
  · rw [gv_o hk (by omega), byP_ge (by omega), byP_ge (by omega)]
theorem mg_by {t : Nat} {c : Nat → Int32} {f : Int32} {p : Nat} (hp : p < nP) : mgS (byP t c pa nP) f p = rnC pa f t p := by
  have h0 := byP_lo (pa := pa) (t := t) (c := c) (p := p) (k := 0) (by decide) (n := nP)
  rw [Nat.add_zero] at h0
  unfold rnC mgS
  rw [h0, byP_lo (k := 3) (by decide), byP_lo (k := 4) (by decide), byP_at (k := 5) (by decide) hp]
  by_cases hb : t.testBit p = true
  · rw [if_pos hb, gv_paU, paU_5, hb]
    simp
  · rw [if_neg hb]
    simp [hb]
theorem by_0 {c : Nat → Int32} : ∀ {n : Nat}, byP 0 c pa n = pa
  | 0 => rfl
  | n + 1 => by unfold byP; rw [if_neg (by simp)]; exact by_0
theorem rnS_cong {pb : Nat → Int32} {c d : Nat → Bool} : ∀ {n : Nat}, (∀ p, p < n → c p = d p) → (∀ p, pb (9 * p + 3) = pa (9 * p + 3)) → rnS pb c n = rnS pa d n
  | 0, _, _ => rfl
  | n + 1, h1, h2 => by
    unfold rnS
    rw [h1 n (by omega), rnS_cong (c := c) (d := d) (n := n) (fun p hp => h1 p (by omega)) h2, h2]
    simp only [h2]
/-- the model's scan finds the next of the chain -/
theorem rn_scan (W : WP nF nP pa) {f : Int32} {t o q : Nat} {c : Nat → Int32} (ho : o < 2 ^ 20) (h : rnS pa (rnC pa f t) nP = some q) (hq : bdN pa q ≤ o) : rnS (byP t c pa nP) (rnO (byP t c pa nP) f (nI o)) nP = some q := by
  have hb := rnS_B (pa := pa) (c := rnC pa f t) (n := nP)
  rw [h] at hb
  obtain ⟨b1, b2, b3⟩ := hb
  have e3 : ∀ p, byP t c pa nP (9 * p + 3) = pa (9 * p + 3) := fun p => byP_lo (by decide)
  refine rnB_one rnS_B ⟨b1, ?_, fun p hp hc => ?_⟩
  · rw [rnO, mg_by b1, b2, e3, (bd_ok W b1 (rnC_t b2).1).1]
    simp only [Bool.true_and, decide_eq_true_eq]
    have := (bd_ok W b1 (rnC_t b2).1).2
    rw [nI_leI (by omega) (by omega)]
    omega
  · simp only [rnO, Bool.and_eq_true] at hc
    rw [mg_by hp] at hc
    rw [e3, e3]
    exact b3 p hp hc.1
theorem WP_ro (W : WP nF nP pa) (hnF : nF ≤ 8) {f v s : Int32} : WP nF nP (roP fl pa nF nP f v s) := by
  unfold roP
  split
  · split
    · exact W
    · split
      · exact W
      · next w ew =>
        unfold roK at ew
        split at ew
        · cases ew
        · split at ew
          · cases ew
            exact WP_by W hnF (fun n _ _ => ⟨_, by assumption, rfl⟩) (Nat.le_refl _)
          · cases ew
  · exact W
end R30
