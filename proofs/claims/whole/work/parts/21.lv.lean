/-! LEFT, in numbers -/
section L21
variable {nF nP : Nat} {fl pa nu : Nat → Int32}
def sN (pa : Nat → Int32) (c : Nat → Bool) : Nat → Nat
  | 0 => 0
  | n + 1 => if c n = true then sN pa c n + cN (pa (9 * n + 1)) else sN pa c n
theorem sz_ok (W : WP nF nP pa) {p : Nat} (hp : p < nP) : pa (9 * p + 1) = nI (cN (pa (9 * p + 1))) ∧ 1 ≤ cN (pa (9 * p + 1)) ∧ cN (pa (9 * p + 1)) ≤ 6 := by
  obtain ⟨-, ⟨s, h1, h2, e⟩, -⟩ := W p hp
  rw [e, cN_nI (by omega)]
  exact ⟨rfl, h1, h2⟩
theorem sN_le (W : WP nF nP pa) (c : Nat → Bool) : ∀ {n : Nat}, n ≤ nP → sN pa c n ≤ 6 * n
  | 0, _ => Nat.le_refl _
  | n + 1, h => by
    have h1 := sN_le W c (n := n) (by omega)
    have h2 := sz_ok W (p := n) (by omega)
    unfold sN
    split <;> omega
theorem smS_N (W : WP nF nP pa) (c : Nat → Bool) : ∀ {n : Nat}, n ≤ nP → smS pa c n = nI (sN pa c n)
  | 0, _ => rfl
  | n + 1, h => by
    have h1 := smS_N W c (n := n) (by omega)
    have h2 := (sz_ok W (p := n) (by omega)).1
    unfold smS sN
    split
    · rw [h1, h2, nI_add, ← h2]
    · exact h1
theorem ldS_sm {f : Int32} : ∀ {n : Nat}, ldS pa f n = smS pa (flyc pa f) n
  | 0 => rfl
  | n + 1 => by
    unfold ldS smS
    rw [ldS_sm]
theorem ldS_N (W : WP nF nP pa) (f : Int32) : ldS pa f nP = nI (sN pa (flyc pa f) nP) := by
  rw [ldS_sm, smS_N W _ (Nat.le_refl _)]
def ovN (fl pa : Nat → Int32) (nP f : Nat) : Nat := if fl (7 * f + 6) = 1 then sN pa (flyc pa (nI f)) nP else sN pa (flyc pa (nI f)) nP - cN (fl (7 * f + 4))
theorem mx0_N {x y : Nat} (hx : x < 2 ^ 30) (hy : y < 2 ^ 30) : mx0 (nI x - nI y) = nI (x - y) := by
  unfold mx0
  by_cases h : y < x
  · rw [pk_sub (by omega), if_pos (by rw [i_lt, i_0, nI_toInt (by omega)]; omega)]
  · rw [if_neg (by rw [i_lt, i_0, pk_sub_toInt hx hy]; omega), show x - y = 0 by omega]
    rfl
theorem ovS_N (W : WP nF nP pa) (F : WF nF fl) (hn : nP ≤ 20) {f : Nat} (hf : f < nF) : ovS fl pa nP f = nI (ovN fl pa nP f) := by
  have hl := sN_le W (flyc pa (nI f)) (Nat.le_refl nP)
  obtain ⟨s, h1, h2, e⟩ := (F f hf).2.2.2.2.1
  unfold ovS ovN
  rw [ldS_N W]
  split
  · rfl
  · rw [e, cN_nI (by omega), mx0_N (by omega) (by omega)]
theorem ovN_le (W : WP nF nP pa) {f : Nat} : ovN fl pa nP f ≤ 6 * nP := by
  have hl := sN_le W (flyc pa (nI f)) (Nat.le_refl nP)
  unfold ovN
  split <;> omega
/-- one party less -/
theorem sN_cong {pb : Nat → Int32} {c d : Nat → Bool} : ∀ {n : Nat}, (∀ p, p < n → c p = d p ∧ pb (9 * p + 1) = pa (9 * p + 1)) → sN pb c n = sN pa d n
  | 0, _ => rfl
  | n + 1, h => by
    unfold sN
    rw [(h n (by omega)).1, (h n (by omega)).2, sN_cong (fun p hp => h p (by omega))]
theorem sN_rm {pb : Nat → Int32} {c d : Nat → Bool} {q : Nat} (hq : d q = true) (hq' : c q = false) : ∀ {n : Nat}, q < n → (∀ p, p < n → p ≠ q → c p = d p) → (∀ p, p < n → pb (9 * p + 1) = pa (9 * p + 1)) → sN pb c n + cN (pa (9 * q + 1)) = sN pa d n
  | 0, h, _, _ => by omega
  | n + 1, h, h1, h2 => by
    unfold sN
    by_cases e : q = n
    · subst e
      rw [if_neg (by rw [hq']; decide), if_pos hq, sN_cong (pa := pa) (pb := pb) (c := c) (d := d) (fun p hp => ⟨h1 p (by omega) (by omega), h2 p (by omega)⟩)]
    · have ih := sN_rm (pb := pb) hq hq' (n := n) (by omega) (fun p hp => h1 p (by omega)) (fun p hp => h2 p (by omega))
      rw [h1 n (by omega) (Ne.symm e), h2 n (by omega)]
      split <;> omega
theorem ctS_rm {c d : Nat → Bool} {q : Nat} (hq : d q = true) (hq' : c q = false) : ∀ {n : Nat}, q < n → (∀ p, p < n → p ≠ q → c p = d p) → ctS c n + 1 = ctS d n
  | 0, h, _ => by omega
  | n + 1, h, h1 => by
    unfold ctS
    by_cases e : q = n
    · subst e
      rw [if_neg (by rw [hq']; decide), if_pos hq, ctS_cong (c := c) (d := d) (fun p hp => h1 p (by omega) (by omega))]
    · have ih := ctS_rm hq hq' (n := n) (by omega) (fun p hp => h1 p (by omega))
      rw [h1 n (by omega) (Ne.symm e)]
      split <;> omega
theorem gv_o {p q k : Nat} {x y : Int32} (hk : k < 9) (h : p ≠ q) : gvP pa q x y (9 * p + k) = pa (9 * p + k) := by
  rw [gv_paU, paU_o (by omega)]
theorem gv_lo {p q k : Nat} {x y : Int32} (hk : k < 5) : gvP pa q x y (9 * p + k) = pa (9 * p + k) := by
  rw [gv_paU, paU_o (by omega)]
theorem gv_0 {p q : Nat} {x y : Int32} : gvP pa q x y (9 * p) = pa (9 * p) := gv_lo (k := 0) (by decide)
theorem gv_fc {p q : Nat} {f x y : Int32} (h : p ≠ q) : flyc (gvP pa q x y) f p = flyc pa f p := by
  unfold flyc
  rw [gv_o (by decide) h, gv_0, gv_o (by decide) h, gv_o (by decide) h]
theorem gv_fq {q f : Nat} {x y : Int32} (hx : ¬ x = 0) (hf : f < 8) : flyc (gvP pa q x y) (nI f) q = false := by
  unfold flyc
  rw [gv_paU, paU_5, paU_7, paU_8, if_neg hx]
  have hm : ¬ (-1 : Int32) = nI f := fun e => nI_m1 (by omega) e.symm
  simp [hm]
/-- who may be left -/
def elS (pa : Nat → Int32) (f : Int32) (p : Nat) : Bool := decide (pa (9 * p) = f) && decide (pa (9 * p + 5) = 0) && decide (pa (9 * p + 4) = 0)
theorem el_fc {f : Int32} {p : Nat} (h : elS pa f p = true) : flyc pa f p = true := by
  simp [elS] at h
  simp [flyc, h]
theorem gv_el {p q : Nat} {f x y : Int32} (h : p ≠ q) : elS (gvP pa q x y) f p = elS pa f p := by
  unfold elS
  rw [gv_o (by decide) h, gv_0, gv_lo (by decide)]
theorem gv_eq {q : Nat} {f x y : Int32} (hx : ¬ x = 0) : elS (gvP pa q x y) f q = false := by
  unfold elS
  rw [gv_paU, paU_5]
  simp [hx]
theorem ov_rm (W : WP nF nP pa) {q f : Nat} {x y : Int32} (hq : q < nP) (hf : f < 8) (hx : ¬ x = 0) (h : flyc pa (nI f) q = true) : ovN fl (gvP pa q x y) nP f = ovN fl pa nP f - cN (pa (9 * q + 1)) := by
  have h1 := sN_rm (pa := pa) (pb := gvP pa q x y) (c := flyc (gvP pa q x y) (nI f)) (d := flyc pa (nI f)) h (gv_fq hx hf) hq (fun p _ hp => gv_fc hp) (fun p _ => gv_lo (by decide))
  unfold ovN
  split <;> omega
theorem el_rm {q f : Nat} {x y : Int32} (hq : q < nP) (hx : ¬ x = 0) (h : elS pa (nI f) q = true) : sN (gvP pa q x y) (elS (gvP pa q x y) (nI f)) nP + cN (pa (9 * q + 1)) = sN pa (elS pa (nI f)) nP ∧ ctS (elS (gvP pa q x y) (nI f)) nP + 1 = ctS (elS pa (nI f)) nP :=
  ⟨sN_rm (pa := pa) (pb := gvP pa q x y) h (gv_eq hx) hq (fun p _ hp => gv_el hp) (fun p _ => gv_lo (by decide)), ctS_rm h (gv_eq hx) hq (fun p _ hp => gv_el hp)⟩
theorem gv_WP (W : WP nF nP pa) (hnF : nF ≤ 8) {q : Nat} {x y : Int32} {k : Nat} (hq : q < nP) (hx : x = 1 ∨ x = 2) (hk : k ≤ 999) (hy : y = nI k) : WP nF nP (gvP pa q x y) := by
  intro p hp
  obtain ⟨h1, h2, h3, h4, h5, h6, h7, h8, h9, h10, h11, h12, h13⟩ := W p hp
  by_cases e : p = q
  · subst e
    obtain ⟨o, ho, eo⟩ := h1
    rw [gv_0, gv_lo (by decide), gv_lo (by decide), gv_lo (by decide), gv_lo (by decide), gv_paU, paU_5, paU_6, paU_7, paU_8]
    have hm : ¬ (-1 : Int32) = nI o := fun z => nI_m1 (by omega) z.symm
    refine ⟨⟨o, ho, eo⟩, h2, h3, h4, h5, Or.inr hx, ⟨k, hk, hy⟩, Or.inl rfl, Or.inl rfl, fun z => ?_, fun _ => rfl, by rw [eo]; exact hm, by rw [eo]; exact hm⟩
    rcases hx with h | h <;> rw [h] at z <;> exact absurd z (by decide)
  · rw [gv_0, gv_lo (by decide), gv_lo (by decide), gv_lo (by decide), gv_lo (by decide), gv_o (by decide) e, gv_o (by decide) e, gv_o (by decide) e, gv_o (by decide) e]
    exact ⟨h1, h2, h3, h4, h5, h6, h7, h8, h9, h10, h11, h12, h13⟩
/-- the next one: least rank, then the greatest number -/
def nlS (pa : Nat → Int32) (f : Int32) : Nat → Option Nat
  | 0 => none
  | n + 1 => if elS pa f n = true then (match nlS pa f n with
    | none => some n
    | some q => if pa (9 * n + 2) ≤ pa (9 * q + 2) then some n else some q) else nlS pa f n
/-- the best of lo .. hi - 1 -/
def isB (pa : Nat → Int32) (f : Int32) (lo hi : Nat) : Option Nat → Prop
  | none => ∀ p, lo ≤ p → p < hi → elS pa f p = false
  | some q => lo ≤ q ∧ q < hi ∧ elS pa f q = true ∧ ∀ p, lo ≤ p → p < hi → elS pa f p = true → pa (9 * q + 2) < pa (9 * p + 2) ∨ (pa (9 * q + 2) = pa (9 * p + 2) ∧ p ≤ q)
theorem isB_one {f : Int32} {lo hi : Nat} : ∀ {x y : Option Nat}, isB pa f lo hi x → isB pa f lo hi y → x = y
  | none, none, _, _ => rfl
  | none, some q, h1, h2 => by
    have := h1 q h2.1 h2.2.1
    rw [h2.2.2.1] at this
    cases this
  | some q, none, h1, h2 => by
    have := h2 q h1.1 h1.2.1
    rw [h1.2.2.1] at this
    cases this
  | some q, some p, h1, h2 => by
    have a1 := h1.2.2.2 p h2.1 h2.2.1 h2.2.2.1
    have a2 := h2.2.2.2 q h1.1 h1.2.1 h1.2.2.1
    simp only [i_lt, i_eq] at a1 a2
    have : q = p := by omega
    rw [this]
theorem nlS_B {f : Int32} : ∀ {n : Nat}, isB pa f 0 n (nlS pa f n)
  | 0 => fun p _ h => by omega
  | n + 1 => by
    have ih := nlS_B (f := f) (n := n)
    unfold nlS
    by_cases he : elS pa f n = true
    · rw [if_pos he]
      cases hq : nlS pa f n with
      | none =>
        rw [hq] at ih
        refine ⟨by omega, by omega, he, fun p h1 h2 h3 => ?_⟩
        by_cases e : p = n
        · subst e; exact Or.inr ⟨rfl, Nat.le_refl _⟩
        · have := ih p h1 (by omega)
          rw [h3] at this; cases this
      | some q =>
        rw [hq] at ih
        obtain ⟨b1, b2, b3, b4⟩ := ih
        dsimp only
        by_cases hr : pa (9 * n + 2) ≤ pa (9 * q + 2)
        · rw [if_pos hr]
          refine ⟨by omega, by omega, he, fun p h1 h2 h3 => ?_⟩
          by_cases e : p = n
          · subst e; exact Or.inr ⟨rfl, Nat.le_refl _⟩
          · have b5 := b4 p h1 (by omega) h3
            rw [i_le] at hr
            simp only [i_lt, i_eq] at b5 ⊢
            omega
        · rw [if_neg hr]
          refine ⟨by omega, by omega, b3, fun p h1 h2 h3 => ?_⟩
          by_cases e : p = n
          · subst e; exact Or.inl (Int32.not_le.mp hr)
          · exact b4 p h1 (by omega) h3
    · rw [if_neg he]
      have he : elS pa f n = false := by simpa using he
      cases hq : nlS pa f n with
      | none =>
        rw [hq] at ih
        intro p h1 h2
        by_cases e : p = n
        · subst e; exact he
        · exact ih p h1 (by omega)
      | some q =>
        rw [hq] at ih
        obtain ⟨b1, b2, b3, b4⟩ := ih
        refine ⟨by omega, by omega, b3, fun p h1 h2 h3 => ?_⟩
        by_cases e : p = n
        · subst e; rw [he] at h3; cases h3
        · exact b4 p h1 (by omega) h3
theorem sN_zero {c : Nat → Bool} : ∀ {n : Nat}, (∀ p, p < n → c p = false) → sN pa c n = 0
  | 0, _ => rfl
  | n + 1, h => by
    unfold sN
    rw [if_neg (by rw [h n (by omega)]; decide), sN_zero (fun p hp => h p (by omega))]
theorem ctS_zero {c : Nat → Bool} : ∀ {n : Nat}, ctS c n = 0 → ∀ p, p < n → c p = false
  | 0, _, p, hp => by omega
  | n + 1, h, p, hp => by
    unfold ctS at h
    by_cases hc : c n = true
    · rw [if_pos hc] at h; omega
    · rw [if_neg hc] at h
      by_cases e : p = n
      · subst e; simpa using hc
      · exact ctS_zero h p (by omega)
def lvN (fl : Nat → Int32) (nP f : Nat) : Nat → (Nat → Int32) → Int32 → (Nat → Int32) × Int32
  | 0, pa, pe => (pa, pe)
  | n + 1, pa, pe => if 0 < ovS fl pa nP f then (match nlS pa (nI f) nP with
    | none => (pa, pe)
    | some q => lvN fl nP f n (gvP pa q 2 0) (pe + pa (9 * q + 1))) else (pa, pe)
theorem nI_0lt {n : Nat} (h : n < 2 ^ 31) : (0 : Int32) < nI n ↔ 0 < n := by
  rw [i_lt, i_0, nI_toInt h]
  omega
theorem lv_some (W : WP nF nP pa) (F : WF nF fl) (hn : nP ≤ 20) {f : Nat} (hf : f < nF) (h0 : ovN fl pa nP f ≤ sN pa (elS pa (nI f)) nP) (h : 0 < ovS fl pa nP f) : ∃ q, nlS pa (nI f) nP = some q ∧ q < nP ∧ elS pa (nI f) q = true := by
  have ho := ovN_le (fl := fl) W (f := f)
  rw [ovS_N W F hn hf, nI_0lt (by omega)] at h
  have hb := nlS_B (pa := pa) (f := nI f) (n := nP)
  cases hq : nlS pa (nI f) nP with
  | none =>
    rw [hq] at hb
    have := sN_zero (pa := pa) (c := elS pa (nI f)) (n := nP) (fun p hp => hb p (by omega) hp)
    omega
  | some q =>
    rw [hq] at hb
    exact ⟨q, rfl, hb.2.1, hb.2.2.1⟩
theorem lvN_0 {f n : Nat} {pe : Int32} (h : ¬ 0 < ovS fl pa nP f) : lvN fl nP f n pa pe = (pa, pe) := by
  cases n with
  | zero => rfl
  | succ n => rw [lvN, if_neg h]
theorem lvN_s {f n q : Nat} {pe : Int32} (h : 0 < ovS fl pa nP f) (hq : nlS pa (nI f) nP = some q) : lvN fl nP f (n + 1) pa pe = lvN fl nP f n (gvP pa q 2 0) (pe + pa (9 * q + 1)) := by
  rw [lvN, if_pos h, hq]
end L21
