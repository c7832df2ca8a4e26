/-! what every call keeps -/
section V51
variable {dm : Nat → Bool} {a : Nat → Nat → Int32} {b : Nat → Nat → Int64} {r : Nat → Nat → Option Nat} {nF nP : Nat} {fl pa nu : Nat → Int32}
theorem inN {v : Int32} {m : Nat} (hm : m < 2 ^ 31) (h : inR v 0 (nI m) = true) : ∃ k, k ≤ m ∧ v = nI k := by
  obtain ⟨h1, h2⟩ := inR_t h
  rw [i_le] at h1 h2
  rw [nI_toInt hm] at h2
  have h0 : (0 : Int32).toInt = 0 := rfl
  rw [h0] at h1
  refine ⟨v.toInt.toNat, by omega, ?_⟩
  rw [i_eq, nI_toInt (by omega)]
  omega
theorem WP_lv0 (hn : nF ≤ 8) {f : Nat} : ∀ {n : Nat} {pa : Nat → Int32} {pe : Int32}, WP nF nP pa → WP nF nP (lvN fl nP f n pa pe).1
  | 0, _, _, W => W
  | n + 1, pa, pe, W => by
    unfold lvN
    split
    · have hb := nlS_B (pa := pa) (f := nI f) (n := nP)
      cases hq : nlS pa (nI f) nP with
      | none => exact W
      | some q =>
        rw [hq] at hb
        exact WP_lv0 hn (gv_WP W hn hb.2.1 (Or.inr rfl) (show 0 ≤ 999 by decide) rfl)
    · exact W
theorem WP_lv (W : WP nF nP pa) (hn : nF ≤ 8) {f1 : Int32} : WP nF nP (lvP fl pa nF nP f1) := by
  unfold lvP
  split
  · exact WP_lv0 hn W
  · exact W
theorem WP_un (W : WP nF nP pa) (hn : nF ≤ 8) {c : Nat → Bool} : ∀ {n : Nat}, n ≤ nP → WP nF nP (unP c pa n)
  | 0, _ => W
  | n + 1, h => by
    have ih := WP_un W hn (c := c) (n := n) (by omega)
    unfold unP
    split
    · intro p hp
      obtain ⟨h1, h2, h3, h4, h5, h6, h7, h8, h9, h10, h11, h12, h13⟩ := ih p hp
      obtain ⟨o, ho, eo⟩ := h1
      have hm : ¬ (-1 : Int32) = nI o := fun z => nI_m1 (by omega) z.symm
      dsimp only
      by_cases e : p = n
      · subst e
        simp only [show ∀ k, (9 * p + k = 9 * p + 8) = (k = 8) from fun k => by simp, show ∀ k, (9 * p + k = 9 * p + 7) = (k = 7) from fun k => by simp]
        rw [if_neg (show ¬ 9 * p = 9 * p + 8 by omega), if_neg (show ¬ 9 * p = 9 * p + 7 by omega)]
        exact ⟨⟨o, ho, eo⟩, h2, h3, h4, h5, h6, h7, Or.inl rfl, Or.inl rfl, fun z => ⟨(h10 z).1, rfl, rfl⟩, fun _ => rfl, by rw [eo]; exact hm, by rw [eo]; exact hm⟩
      · have k0 : ∀ k, k < 9 → ¬ 9 * p + k = 9 * n + 8 := fun k hk z => by omega
        have k1 : ∀ k, k < 9 → ¬ 9 * p + k = 9 * n + 7 := fun k hk z => by omega
        rw [if_neg (show ¬ 9 * p = 9 * n + 8 from k0 0 (by decide)), if_neg (show ¬ 9 * p = 9 * n + 7 from k1 0 (by decide)), if_neg (k0 1 (by decide)), if_neg (k1 1 (by decide)), if_neg (k0 2 (by decide)), if_neg (k1 2 (by decide)), if_neg (k0 3 (by decide)), if_neg (k1 3 (by decide)), if_neg (k0 4 (by decide)), if_neg (k1 4 (by decide)), if_neg (k0 5 (by decide)), if_neg (k1 5 (by decide)), if_neg (k0 6 (by decide)), if_neg (k1 6 (by decide)), if_neg (k0 7 (by decide)), if_neg (k1 7 (by decide)), if_neg (k0 8 (by decide)), if_neg (k1 8 (by decide))]
        exact ⟨⟨o, ho, eo⟩, h2, h3, h4, h5, h6, h7, h8, h9, h10, h11, h12, h13⟩
    · exact ih
theorem wv_up {v : Int32} (h : wv nF v) : wv (nF + 1) v := by
  rcases h with h | ⟨i, hi, h⟩
  · exact Or.inl h
  · exact Or.inr ⟨i, by omega, h⟩
theorem WP_up (W : WP nF nP pa) : WP (nF + 1) nP pa := fun p hp => by
  obtain ⟨⟨o, ho, eo⟩, h2, h3, h4, h5, h6, h7, h8, h9, h10, h11, h12, h13⟩ := W p hp
  exact ⟨⟨o, by omega, eo⟩, h2, h3, h4, h5, h6, h7, wv_up h8, wv_up h9, h10, h11, h12, h13⟩
theorem rwN_o {f v : Nat → Int32} {w k j : Nat} (h : j < w ∨ w + k ≤ j) : rwN f w v k j = f j := by
  unfold rwN
  rw [if_neg (by omega)]
theorem rwN_i {f v : Nat → Int32} {w k j : Nat} (h : j < k) : rwN f w v k (w + j) = v j := by
  unfold rwN
  rw [if_pos (by omega), show w + j - w = j by omega]
theorem WP_py (W : WP nF nP pa) (hn : nF ≤ 8) {x1 x2 x3 x4 z : Int32} (hk : pyK nF nP x1 x2 x3 x4 = true) (hz : z = 0 ∨ z = 1) : WP nF (nP + 1) (rwN pa (9 * nP) (v9 x1 x2 x3 x4 z) 9) := by
  unfold pyK at hk
  simp only [Bool.and_eq_true] at hk
  obtain ⟨⟨⟨⟨k1, k2⟩, k3⟩, k4⟩, -⟩ := hk
  intro p hp
  by_cases e : p = nP
  · subst e
    have e0 : rwN pa (9 * p) (v9 x1 x2 x3 x4 z) 9 (9 * p) = v9 x1 x2 x3 x4 z 0 := rwN_i (j := 0) (by decide)
    rw [e0, rwN_i (by decide), rwN_i (by decide), rwN_i (by decide), rwN_i (by decide), rwN_i (by decide), rwN_i (by decide), rwN_i (by decide), rwN_i (by decide)]
    obtain ⟨o, ho, eo⟩ := fok_t k1 (by omega)
    have hm : ¬ (-1 : Int32) = nI o := fun z => nI_m1 (by omega) z.symm
    refine ⟨⟨o, ho, eo⟩, ?_, ?_, ?_, hz, Or.inl rfl, ⟨0, by decide, rfl⟩, Or.inl rfl, Or.inl rfl, fun _ => ⟨rfl, rfl, rfl⟩, fun _ => rfl, ?_, ?_⟩
    · show ∃ s, 1 ≤ s ∧ s ≤ 6 ∧ x2 = nI s
      obtain ⟨h1, h2⟩ := inR_t k2
      obtain ⟨s, s1, s2⟩ := inN (m := 6) (v := x2) (by decide) (by
        unfold inR
        rw [decide_eq_true (show x2 ≤ nI 6 from h2), decide_eq_true (show (0 : Int32) ≤ x2 from Int32.le_trans (by decide) h1)]; rfl)
      refine ⟨s, ?_, s1, s2⟩
      rw [s2, show (1 : Int32) = nI 1 from rfl, nI_leI (by decide) (by omega)] at h1
      exact h1
    · show ∃ k, k ≤ 9 ∧ x3 = nI k
      exact inN (by decide) k3
    · show x4 = -1 ∨ ∃ k, k ≤ 999 ∧ x4 = nI k
      by_cases h : x4 = -1
      · exact Or.inl h
      · obtain ⟨h1, h2⟩ := inR_t k4
        refine Or.inr (inN (by decide) ?_)
        unfold inR
        rw [decide_eq_true (show x4 ≤ nI 999 from h2), decide_eq_true (show (0 : Int32) ≤ x4 from ?_)]
        · rfl
        · rw [i_le] at h1 ⊢
          rw [i_eq] at h
          have e1 : (-1 : Int32).toInt = -1 := rfl
          have e2 : (0 : Int32).toInt = 0 := rfl
          rw [e1] at h1 h
          rw [e2]
          omega
    · show (-1 : Int32) ≠ x1
      rw [eo]; exact hm
    · show (-1 : Int32) ≠ x1
      rw [eo]; exact hm
  · have e0 : rwN pa (9 * nP) (v9 x1 x2 x3 x4 z) 9 (9 * p) = pa (9 * p) := rwN_o (by omega)
    rw [e0, rwN_o (by omega), rwN_o (by omega), rwN_o (by omega), rwN_o (by omega), rwN_o (by omega), rwN_o (by omega), rwN_o (by omega), rwN_o (by omega)]
    exact W p (by omega)
theorem WF_fl (F : WF nF fl) {x1 x2 x3 x4 x5 x6 : Int32} (hk : flK nF x1 x2 x3 x4 x5 x6 = true) : WF (nF + 1) (rwN fl (7 * nF) (v7 x1 x2 x3 x4 x5 x6) 7) := by
  unfold flK at hk
  simp only [Bool.and_eq_true] at hk
  obtain ⟨⟨⟨⟨⟨⟨⟨⟨k1, k2⟩, k3⟩, k4⟩, k5⟩, k6⟩, k7⟩, k8⟩, -⟩ := hk
  intro i hi
  by_cases e : i = nF
  · subst e
    have e0 : rwN fl (7 * i) (v7 x1 x2 x3 x4 x5 x6) 7 (7 * i) = v7 x1 x2 x3 x4 x5 x6 0 := rwN_i (j := 0) (by decide)
    rw [e0, rwN_i (by decide), rwN_i (by decide), rwN_i (by decide), rwN_i (by decide), rwN_i (by decide), rwN_i (by decide)]
    refine ⟨inN (m := 7) (by decide) k1, inN (m := 7) (by decide) k2, of_decide_eq_true k3, ?_, ?_, ?_, Or.inl rfl⟩
    · obtain ⟨d, d1, d2⟩ := inN (m := 9999) (by decide) k4
      obtain ⟨t, t1, t2⟩ := inN (m := 9999) (by decide) k5
      have h6 := of_decide_eq_true k6
      rw [d2, t2, nI_ltI (by omega) (by omega)] at h6
      exact ⟨d, t, h6, t1, d2, t2⟩
    · show ∃ s, 1 ≤ s ∧ s ≤ 40 ∧ x5 = nI s
      obtain ⟨h1, h2⟩ := inR_t k7
      obtain ⟨s, s1, s2⟩ := inN (m := 40) (v := x5) (by decide) (by
        unfold inR
        rw [decide_eq_true (show x5 ≤ nI 40 from h2), decide_eq_true (show (0 : Int32) ≤ x5 from Int32.le_trans (by decide) h1)]; rfl)
      refine ⟨s, ?_, s1, s2⟩
      rw [s2, show (1 : Int32) = nI 1 from rfl, nI_leI (by decide) (by omega)] at h1
      exact h1
    · show ∃ s, 1 ≤ s ∧ s ≤ 9999 ∧ x6 = nI s
      obtain ⟨h1, h2⟩ := inR_t k8
      obtain ⟨s, s1, s2⟩ := inN (m := 9999) (v := x6) (by decide) (by
        unfold inR
        rw [decide_eq_true (show x6 ≤ nI 9999 from h2), decide_eq_true (show (0 : Int32) ≤ x6 from Int32.le_trans (by decide) h1)]; rfl)
      refine ⟨s, ?_, s1, s2⟩
      rw [s2, show (1 : Int32) = nI 1 from rfl, nI_leI (by decide) (by omega)] at h1
      exact h1
  · have e0 : rwN fl (7 * nF) (v7 x1 x2 x3 x4 x5 x6) 7 (7 * i) = fl (7 * i) := rwN_o (by omega)
    rw [e0, rwN_o (by omega), rwN_o (by omega), rwN_o (by omega), rwN_o (by omega), rwN_o (by omega), rwN_o (by omega)]
    exact F i (by omega)
/-- one number of a row -/
def ud (f : Nat → Int32) (k : Nat) (v : Int32) : Nat → Int32 := fun j => if j = k then v else f j
theorem ud_s {f : Nat → Int32} {k : Nat} {v : Int32} : ud f k v k = v := by simp [ud]
theorem ud_n {f : Nat → Int32} {k j : Nat} {v : Int32} (h : j ≠ k) : ud f k v j = f j := by simp [ud, h]
theorem u2_ud {n k : Nat} {v : Int32} : u2 a n k v n = ud (a n) k v := by
  funext j
  simp [u2, ud]
theorem WF_off (F : WF nF fl) {f : Nat} {z : Int32} (hz : z = 0 ∨ z = 1) : WF nF (ud fl (7 * f + 6) z) := fun i hi => by
  obtain ⟨h1, h2, h3, h4, h5, h6, h7⟩ := F i hi
  rw [ud_n (show 7 * i ≠ 7 * f + 6 by omega), ud_n (show 7 * i + 1 ≠ 7 * f + 6 by omega), ud_n (show 7 * i + 2 ≠ 7 * f + 6 by omega), ud_n (show 7 * i + 3 ≠ 7 * f + 6 by omega), ud_n (show 7 * i + 4 ≠ 7 * f + 6 by omega), ud_n (show 7 * i + 5 ≠ 7 * f + 6 by omega)]
  refine ⟨h1, h2, h3, h4, h5, h6, ?_⟩
  by_cases e : i = f
  · subst e; rw [ud_s]; exact hz
  · rw [ud_n (by omega)]; exact h7
theorem XR_off (X : XR nF nP fl pa nu dm a r) {f : Nat} (hf : f < nF) {z : Int32} : XR nF nP (ud fl (7 * f + 6) z) pa nu dm (u2 a (20 + f) 7 z) r := by
  obtain ⟨x1, x2, x3, x4, x5, x6, x7⟩ := X
  have hn := x1.1
  refine ⟨x1, by rw [u2_n (by omega)]; exact x2, by rw [u2_n (by omega)]; exact x3, by rw [u2_n (by omega)]; exact x4, fun k hk => by rw [u2_n (by omega)]; exact x5 k hk, fun i hi => ?_, fun j hj => by rw [u2_n (by omega)]; exact x7 j hj⟩
  refine ⟨(x6 i hi).1, by rw [u2_k (by decide)]; exact (x6 i hi).2.1, fun k hk => ?_⟩
  by_cases e : i = f
  · subst e
    by_cases e2 : k = 6
    · subst e2; rw [u2_s, ud_s]
    · rw [u2_k (by omega), ud_n (by omega)]; exact (x6 i hi).2.2 k hk
  · rw [u2_n (by omega), ud_n (by omega)]; exact (x6 i hi).2.2 k hk
theorem XR_s0 (X : XR nF nP fl pa nu dm a r) {z : Int32} : XR nF nP fl pa (ud nu 0 z) dm (u2 a 0 7 z) r := by
  obtain ⟨x1, x2, x3, x4, x5, x6, x7⟩ := X
  refine ⟨x1, by rw [u2_k (by decide)]; exact x2, by rw [u2_k (by decide)]; exact x3, by rw [u2_s, ud_s], fun k hk => by rw [u2_n (by decide), ud_n (by omega)]; exact x5 k hk, fun i hi => by rw [u2_n (by omega)]; exact x6 i hi, fun j hj => by rw [u2_n (by omega)]; exact x7 j hj⟩
theorem XR_s3 (X : XR nF nP fl pa nu dm a r) {k : Nat} (hk : k < 3) {z : Int32} : XR nF nP fl pa (ud nu (k + 1) z) dm (u2 a 3 k z) r := by
  obtain ⟨x1, x2, x3, x4, x5, x6, x7⟩ := X
  have hn := x1.1
  refine ⟨x1, by rw [u2_n (by decide)]; exact x2, by rw [u2_n (by decide)]; exact x3, by rw [u2_n (by decide), ud_n (by omega)]; exact x4, fun j hj => ?_, fun i hi => by rw [u2_n (by omega)]; exact x6 i hi, fun j hj => by rw [u2_n (by omega)]; exact x7 j hj⟩
  by_cases e : j = k
  · subst e; rw [u2_s, ud_s]
  · rw [u2_k e, ud_n (by omega)]; exact x5 j hj
theorem WN_s0 (N : WN nu) {z : Int32} (h : inR z 0 300 = true) : WN (ud nu 0 z) := by
  refine ⟨?_, fun k hk => by rw [ud_n (by omega)]; exact N.2 k hk⟩
  rw [ud_s]
  exact inN (by decide) h
theorem WN_s3 (N : WN nu) {k : Nat} {z : Int32} (h : inR z 0 9999 = true) : WN (ud nu (k + 1) z) := by
  refine ⟨by rw [ud_n (by omega)]; exact N.1, fun j hj => ?_⟩
  by_cases e : j = k
  · subst e; rw [ud_s]; exact inN (by decide) h
  · rw [ud_n (by omega)]; exact N.2 j hj
theorem XR_a (X : XR nF nP fl pa nu dm a r) {a' : Nat → Nat → Int32} (h : ∀ m, m < 100 → a' m = a m) : XR nF nP fl pa nu dm a' r := by
  obtain ⟨x1, x2, x3, x4, x5, x6, x7⟩ := X
  have h1 := x1.1
  have h2 := x1.2.1
  refine ⟨x1, by rw [h 0 (by decide)]; exact x2, by rw [h 0 (by decide)]; exact x3, by rw [h 0 (by decide)]; exact x4, fun k hk => by rw [h 3 (by decide)]; exact x5 k hk, fun i hi => by rw [h (20 + i) (by omega)]; exact x6 i hi, fun j hj => by rw [h (30 + j) (by omega)]; exact x7 j hj⟩
/-- the law's invariant -/
def LV (nF nP : Nat) (fl pa nu : Nat → Int32) (dm : Nat → Bool) (a : Nat → Nat → Int32) (r : Nat → Nat → Option Nat) : Prop := XR nF nP fl pa nu dm a r ∧ IM dm a nF nP ∧ (a 101 = fl ∧ a 102 = pa ∧ a 103 = nu) ∧ (WP nF nP pa ∧ WF nF fl ∧ WN nu) ∧ RB nF nP r ∧ (∀ i, nF ≤ i → i < 10 → dm (20 + i) = false) ∧ (∀ j, nP ≤ j → j < 70 → dm (30 + j) = false) ∧ dm 118 = false ∧ dm 119 = false ∧ dm 120 = true
def LVx (dm : Nat → Bool) (a : Nat → Nat → Int32) (r : Nat → Nat → Option Nat) : Prop := ∃ nF nP fl pa nu, LV nF nP fl pa nu dm a r
/-- the class's step, then the model's: names and counts as they were -/
theorem LV_s {fl' pa' nu' : Nat → Int32} {a1 a2 : Nat → Nat → Int32} {r1 : Nat → Nat → Option Nat} (h : LV nF nP fl pa nu dm a r) (X : XR nF nP fl' pa' nu' dm a1 r1) (W : WP nF nP pa' ∧ WF nF fl' ∧ WN nu') (B : RB nF nP r1) (h0 : ∀ m, m < 100 → a2 m = a1 m) (hc : a2 100 1 = a 100 1 ∧ a2 100 3 = a 100 3) (h3 : a2 101 = fl' ∧ a2 102 = pa' ∧ a2 103 = nu') : LVx dm a2 r1 := by
  obtain ⟨x1, I, -, -, -, x6, x7, x8, x9, x10⟩ := h
  exact ⟨nF, nP, fl', pa', nu', XR_a X h0, ⟨I.1, by rw [hc.1]; exact I.2.1, I.2.2.1, by rw [hc.2]; exact I.2.2.2.1, I.2.2.2.2⟩, h3, W, B, x6, x7, x8, x9, x10⟩
end V51
