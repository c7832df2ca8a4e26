section M36
variable {g : GM} {bs : Nat} {l : Launch} {ad : Nat → Nat} {dm : Nat → Bool} {a : Nat → Nat → Int32} {b : Nat → Nat → Int64} {r : Nat → Nat → Option Nat} {nF nP : Nat} {fl pa nu : Nat → Int32}
variable {D : MD} {n : Nat} {cap lf ll ld : Nat → Nat}
def enW (D : MD) (k p : Nat) : Int32 := if p < D.2.1 k then nI (D.2.2.1 k p) else -1
/-- what the search reads -/
def MS (D : MD) (n nP : Nat) (lf ll : Nat → Nat) (a : Nat → Nat → Int32) : Prop := a 100 9 = nI n ∧ (∀ k, k < n → a 106 k = nI (lf k) ∧ lf k < nP ∧ a 102 (9 * lf k + 1) = nI (D.1 k) ∧ a 109 k = nI (D.2.1 k) ∧ (D.2.1 k ≠ 0 → a 110 k = nI (ll k))) ∧ ∀ k, k < n → ∀ p, p < D.2.1 k → a 107 (72 * k + p) = nI (D.2.2.1 k p) ∧ a 108 (72 * k + p) = nI (D.2.2.2.1 k p * D.1 k)
def CO (D : MD) (n nF : Nat) : Prop := ∀ k, k < n → ∀ p, p < D.2.1 k → D.2.2.1 k p / 9 < nF ∧ D.2.2.1 k p % 9 ≤ nF ∧ D.2.2.1 k p % 9 ≠ D.2.2.1 k p / 9 + 1
def ML (D : MD) (nF : Nat) (cap ld : Nat → Nat) (x : Nat → Nat) (k : Nat) (a : Nat → Nat → Int32) : Prop := ∀ f, f < nF → a 112 f = nI (ld f + us D f x k) ∧ a 111 f = nI (ld f + cap f) ∧ ld f + cap f ≤ 500
def GF (k : Nat) (a a0 : Nat → Nat → Int32) : Prop := (∀ m, m ≠ 100 → m ≠ 112 → m ≠ 113 → m ≠ 114 → a0 m = a m) ∧ (∀ j, a0 112 j = a 112 j) ∧ (∀ j, j ≠ 18 → j ≠ 19 → a0 100 j = a 100 j) ∧ ∀ j, j < k → a0 113 j = a 113 j
def mB (D : MD) (nF : Nat) (cap : Nat → Nat) (n : Nat) (a : Nat → Nat → Int32) (sc lo : Nat) : Prop := (sc = 0 ∧ a 100 18 = -1) ∨ ∃ z, cn D n z ∧ fe D nF cap n z ∧ sc = 1 + sm D z n ∧ a 100 18 = nI (spp D z n) ∧ a 100 19 = nI (sl D z n) ∧ (∀ j, j < n → a 114 j = enW D j (z j)) ∧ lo ≤ sd D z n
theorem GF.rf {k : Nat} : GF k a a := ⟨fun _ _ _ _ _ => rfl, fun _ => rfl, fun _ _ _ => rfl, fun _ _ => rfl⟩
theorem GF.IM {k : Nat} {a0 : Nat → Nat → Int32} (h : GF k a a0) (I : IM dm a nF nP) : IM dm a0 nF nP := ⟨I.1, by rw [h.2.2.1 1 (by decide) (by decide)]; exact I.2.1, I.2.2.1, by rw [h.2.2.1 3 (by decide) (by decide)]; exact I.2.2.2.1, I.2.2.2.2⟩
theorem GF.MS {k : Nat} {a0 : Nat → Nat → Int32} (h : GF k a a0) (S : MS D n nP lf ll a) : MS D n nP lf ll a0 := by
  refine ⟨by rw [h.2.2.1 9 (by decide) (by decide)]; exact S.1, fun k hk => ?_, fun k hk p hp => ?_⟩
  · rw [h.1 106 (by decide) (by decide) (by decide) (by decide), h.1 102 (by decide) (by decide) (by decide) (by decide), h.1 109 (by decide) (by decide) (by decide) (by decide), h.1 110 (by decide) (by decide) (by decide) (by decide)]
    exact S.2.1 k hk
  · rw [h.1 107 (by decide) (by decide) (by decide) (by decide), h.1 108 (by decide) (by decide) (by decide) (by decide)]
    exact S.2.2 k hk p hp
theorem GF.ML {k m : Nat} {x : Nat → Nat} {a0 : Nat → Nat → Int32} (h : GF k a a0) (S : ML D nF cap ld x m a) : ML D nF cap ld x m a0 := fun f hf => by
  rw [h.2.1, h.1 111 (by decide) (by decide) (by decide) (by decide)]
  exact S f hf
theorem MS.u {a0 : Nat → Nat → Int32} (S : MS D n nP lf ll a) (h : ∀ m, m ≠ 112 → m ≠ 113 → m ≠ 114 → a0 m = a m) : MS D n nP lf ll a0 := by
  refine ⟨by rw [h 100 (by decide) (by decide) (by decide)]; exact S.1, fun k hk => ?_, fun k hk p hp => ?_⟩
  · rw [h 106 (by decide) (by decide) (by decide), h 102 (by decide) (by decide) (by decide), h 109 (by decide) (by decide) (by decide), h 110 (by decide) (by decide) (by decide)]
    exact S.2.1 k hk
  · rw [h 107 (by decide) (by decide) (by decide), h 108 (by decide) (by decide) (by decide)]
    exact S.2.2 k hk p hp
theorem mB.fr {a0 : Nat → Nat → Int32} {sc lo lo' : Nat} (h : mB D nF cap n a sc lo) (h1 : a0 100 18 = a 100 18) (h2 : a0 100 19 = a 100 19) (h3 : ∀ j, a0 114 j = a 114 j) (hl : lo' ≤ lo) : mB D nF cap n a0 sc lo' := by
  rcases h with ⟨e, h⟩ | ⟨z, z1, z2, z3, z4, z5, z6, z7⟩
  · exact Or.inl ⟨e, h1.trans h⟩
  · exact Or.inr ⟨z, z1, z2, z3, h1.trans z4, h2.trans z5, fun j hj => (h3 j).trans (z6 j hj), by omega⟩
theorem i_ac (x s : Int32) : x + s - s = x := Int32.add_sub_cancel x s
theorem gf_1 {k fa : Nat} {s v : Int32} {a0 a' : Nat → Nat → Int32} (h : GF k a a0) (h' : GF (k + 1) (u2 (u2 a0 112 fa (a0 112 fa + s)) 113 k v) a') : GF k a (u2 a' 112 fa (a' 112 fa - s)) := by
  obtain ⟨p1, p2, p3, p4⟩ := h
  obtain ⟨q1, q2, q3, q4⟩ := h'
  refine ⟨fun m m1 m2 m3 m4 => ?_, fun j => ?_, fun j j1 j2 => ?_, fun j hj => ?_⟩
  · rw [u2_n m2, q1 m m1 m2 m3 m4, u2_n m3, u2_n m2, p1 m m1 m2 m3 m4]
  · by_cases e : j = fa
    · subst e
      rw [u2_s, q2, u2_n (show (112 : Nat) ≠ 113 by decide), u2_s, i_ac, p2]
    · rw [u2_k e, q2, u2_n (show (112 : Nat) ≠ 113 by decide), u2_k e, p2]
  · rw [u2_n (show (100 : Nat) ≠ 112 by decide), q3 j j1 j2, u2_n (show (100 : Nat) ≠ 113 by decide), u2_n (show (100 : Nat) ≠ 112 by decide), p3 j j1 j2]
  · rw [u2_n (show (113 : Nat) ≠ 112 by decide), q4 j (by omega), u2_k (by omega), u2_n (show (113 : Nat) ≠ 112 by decide), p4 j hj]
theorem gf_2 {k fa fb : Nat} {s v : Int32} {a0 a' : Nat → Nat → Int32} (hab : fa ≠ fb) (h : GF k a a0) (h' : GF (k + 1) (u2 (u2 (u2 a0 112 fa (a0 112 fa + s)) 112 fb (u2 a0 112 fa (a0 112 fa + s) 112 fb + s)) 113 k v) a') : GF k a (u2 (u2 a' 112 fa (a' 112 fa - s)) 112 fb (u2 a' 112 fa (a' 112 fa - s) 112 fb - s)) := by
  obtain ⟨p1, p2, p3, p4⟩ := h
  obtain ⟨q1, q2, q3, q4⟩ := h'
  refine ⟨fun m m1 m2 m3 m4 => ?_, fun j => ?_, fun j j1 j2 => ?_, fun j hj => ?_⟩
  · rw [u2_n m2, u2_n m2, q1 m m1 m2 m3 m4, u2_n m3, u2_n m2, u2_n m2, p1 m m1 m2 m3 m4]
  · by_cases e : j = fb
    · subst e
      rw [u2_s, u2_k (Ne.symm hab), q2, u2_n (show (112 : Nat) ≠ 113 by decide), u2_s, u2_k (Ne.symm hab), i_ac, p2]
    · rw [u2_k e]
      by_cases e2 : j = fa
      · subst e2
        rw [u2_s, q2, u2_n (show (112 : Nat) ≠ 113 by decide), u2_k e, u2_s, i_ac, p2]
      · rw [u2_k e2, q2, u2_n (show (112 : Nat) ≠ 113 by decide), u2_k e, u2_k e2, p2]
  · rw [u2_n (show (100 : Nat) ≠ 112 by decide), u2_n (show (100 : Nat) ≠ 112 by decide), q3 j j1 j2, u2_n (show (100 : Nat) ≠ 113 by decide), u2_n (show (100 : Nat) ≠ 112 by decide), u2_n (show (100 : Nat) ≠ 112 by decide), p3 j j1 j2]
  · rw [u2_n (show (113 : Nat) ≠ 112 by decide), u2_n (show (113 : Nat) ≠ 112 by decide), q4 j (by omega), u2_k (by omega), u2_n (show (113 : Nat) ≠ 112 by decide), u2_n (show (113 : Nat) ≠ 112 by decide), p4 j hj]
theorem gf_0 {k : Nat} {v : Int32} {a0 a' : Nat → Nat → Int32} (h : GF k a a0) (h' : GF (k + 1) (u2 a0 113 k v) a') : GF k a a' := by
  obtain ⟨p1, p2, p3, p4⟩ := h
  obtain ⟨q1, q2, q3, q4⟩ := h'
  refine ⟨fun m m1 m2 m3 m4 => ?_, fun j => ?_, fun j j1 j2 => ?_, fun j hj => ?_⟩
  · rw [q1 m m1 m2 m3 m4, u2_n m3, p1 m m1 m2 m3 m4]
  · rw [q2, u2_n (show (112 : Nat) ≠ 113 by decide), p2]
  · rw [q3 j j1 j2, u2_n (show (100 : Nat) ≠ 113 by decide), p3 j j1 j2]
  · rw [q4 j (by omega), u2_k (by omega), p4 j hj]
/-- one more choice -/
theorem us_u {x : Nat → Nat} {f k w : Nat} : us D f (u1 x k w) (k + 1) = us D f x k + uW D f k w := by
  show us D f (u1 x k w) k + uW D f k (u1 x k w k) = _
  rw [u1_s, us_cong (z := x) (fun j hj => u1_n (by omega))]
theorem spp_u {x : Nat → Nat} {k w : Nat} : spp D (u1 x k w) (k + 1) = spp D x k + pW D k w := by
  show spp D (u1 x k w) k + pW D k (u1 x k w k) = _
  rw [u1_s]
  congr 1
  exact sT_cong (fun j hj => by rw [u1_n (by omega)])
theorem sl_u {x : Nat → Nat} {k w : Nat} : sl D (u1 x k w) (k + 1) = sl D x k + lW D k w := by
  show sl D (u1 x k w) k + lW D k (u1 x k w k) = _
  rw [u1_s]
  congr 1
  exact sT_cong (fun j hj => by rw [u1_n (by omega)])
theorem sd_u {x : Nat → Nat} {k w : Nat} : sd D (u1 x k w) (k + 1) = sd D x k + dW D k w := by
  show sd D (u1 x k w) k + dW D k (u1 x k w k) = _
  rw [u1_s]
  congr 1
  exact sT_cong (fun j hj => by rw [u1_n (by omega)])
theorem cn_u {x : Nat → Nat} {k w : Nat} (h : cn D k x) (hw : w < D.2.1 k ∨ w = 15) : cn D (k + 1) (u1 x k w) := fun j hj => by
  by_cases e : j = k
  · subst e; rw [u1_s]; exact hw
  · rw [u1_n e]; exact h j (by omega)
theorem en_u {x : Nat → Nat} {k w : Nat} {a0 : Nat → Nat → Int32} (h : ∀ j, j < k → a0 113 j = enW D j (x j)) (hv : a0 113 k = enW D k w) : ∀ j, j < k + 1 → a0 113 j = enW D j (u1 x k w j) := fun j hj => by
  by_cases e : j = k
  · subst e; rw [u1_s]; exact hv
  · rw [u1_n e]; exact h j (by omega)
theorem uW_15 (hD : Dok D n) {f k : Nat} (hk : k < n) : uW D f k 15 = 0 := by
  have := (hD.2 k hk).2.2.1
  unfold uW
  rw [if_neg (fun h => by omega)]
theorem ml_u {x : Nat → Nat} {k w : Nat} {a0 a1 : Nat → Nat → Int32} (hL : ML D nF cap ld x k a0) (h1 : ∀ f, f < nF → a1 112 f = a0 112 f + nI (uW D f k w)) (h2 : a1 111 = a0 111) : ML D nF cap ld (u1 x k w) (k + 1) a1 := fun f hf => by
  rw [h1 f hf, h2, (hL f hf).1, nI_add, us_u, Nat.add_assoc]
  exact ⟨rfl, (hL f hf).2⟩
theorem no_room (hD : Dok D n) {x y : Nat → Nat} {f k w : Nat} (hk : k < n) (hf : f < nF) (hw : w < D.2.1 k) (hu : D.2.2.1 k w / 9 = f ∨ D.2.2.1 k w % 9 = f + 1) (h : ¬ ld f + us D f x k + D.1 k ≤ ld f + cap f) (hy : fe D nF cap n y) (hx : ∀ j, j < k → y j = x j) (hk2 : y k = w) : False := by
  have h1 := hy f hf
  have h2 : us D f y (k + 1) ≤ us D f y n := sT_mono (by omega)
  have h3 : us D f y (k + 1) = us D f y k + uW D f k (y k) := rfl
  rw [hk2, us_cong (z := x) hx] at h3
  have h4 : uW D f k w = D.1 k := by unfold uW; rw [if_pos ⟨hw, hu⟩]
  omega
theorem go_cut (hD : Dok D n) (hi : Did D n) (hl1 : ∀ i, i < n → ll i ≤ 59994) (hl2 : ∀ i, i < n → ∀ p, p < D.2.1 i → ll i ≤ D.2.2.2.1 i p * D.1 i) {k sc : Nat} {x : Nat → Nat} (hk : k ≤ n) (hb : mB D nF cap n a sc (sd D x k + 16 ^ (6 - k))) (hc : nI (sT (bP D x k) n) < a 100 18 ∨ (nI (sT (bP D x k) n) = a 100 18 ∧ ¬ nI (sT (bL D ll x k) n) < a 100 19)) : ∀ y, (∀ j, j < k → y j = x j) → 1 + sm D y n ≤ sc := by
  intro y hy
  have hR := bP_le hD (x := x) (k := k) (Nat.le_refl n)
  have hL := bL_le hD (x := x) (k := k) hl1 (Nat.le_refl n)
  rcases hb with ⟨e, h⟩ | ⟨z, z1, z2, z3, z4, z5, z6, z7⟩
  · exfalso
    rw [h] at hc
    rcases hc with hc | hc
    · rw [i_lt, nI_toInt (by omega)] at hc
      have : (-1 : Int32).toInt = -1 := rfl
      omega
    · exact nI_m1 (by omega) hc.1
  · have s1 := spp_le hD (y := z) (Nat.le_refl n)
    have s2 := sl_le hD (y := z) (Nat.le_refl n)
    rw [z4, z5, nI_ltI (by omega) (by omega), nI_eq (by omega) (by omega), nI_ltI (by omega) (by omega)] at hc
    have := b_cut hD hi hl1 hl2 hk hy z7 (by omega)
    omega
theorem go_leaf (hD : Dok D n) (hi : Did D n) {sc lo : Nat} {x : Nat → Nat} (hb : mB D nF cap n a sc lo) (c1 : ¬ nI (spp D x n) < a 100 18) (c2 : ¬ nI (spp D x n) = a 100 18 ∨ nI (sl D x n) < a 100 19) : sc ≤ 1 + sm D x n := by
  rcases hb with ⟨e, h⟩ | ⟨z, z1, z2, z3, z4, z5, z6, z7⟩
  · omega
  · have s1 := spp_le hD (y := z) (Nat.le_refl n)
    have s2 := sl_le hD (y := z) (Nat.le_refl n)
    have s3 := spp_le hD (y := x) (Nat.le_refl n)
    have s4 := sl_le hD (y := x) (Nat.le_refl n)
    rw [z4, nI_ltI (by omega) (by omega)] at c1
    rw [z4, z5, nI_eq (by omega) (by omega), nI_ltI (by omega) (by omega)] at c2
    have := b_leaf hD hi (x := x) (z := z) (by omega)
    omega
def gP (D : MD) (nF n : Nat) (cap : Nat → Nat) (x : Nat → Nat) (k sc : Nat) (ad : Nat → Nat) (dm : Nat → Bool) (a : Nat → Nat → Int32) (b : Nat → Nat → Int64) (r : Nat → Nat → Option Nat) : PO := fun v ad0 dm0 a0 b0 r0 => v = none ∧ ad0 = ad ∧ dm0 = dm ∧ b0 = b ∧ r0 = r ∧ GF k a a0 ∧ ∃ sc', sc ≤ sc' ∧ mB D nF cap n a0 sc' (sd D x k) ∧ ∀ y, cn D n y → fe D nF cap n y → (∀ j, j < k → y j = x j) → 1 + sm D y n ≤ sc'
set_option maxHeartbeats 4000000 in
set_option maxRecDepth 100000 in
theorem go_sum {t : Nat} {E : EN} (C : CX E cX4_goOn yX4_goOn.cls (1 + t)) (hN : eN E = 10) (I : IM dm a nF nP) (S : MS D n nP lf ll a) (hD : Dok D n) {x : Nat → Nat} {k : Nat} (h66 : G E 0 0 ad dm a b r 66 [some (.ref (ad 100)), some (.int (nI k)), some (.int (nI (spp D x k))), some (.int (nI (sl D x k))), some (.int (nI (sT (bP D x k) n))), some (.int (nI (sT (bL D ll x k) n))), some (.int (nI n)), none, none, none] []) : ∀ (s i : Nat) (rv lv : Int32), i + s = n → k ≤ i → rv = nI (sT (bP D x k) i) → lv = nI (sT (bL D ll x k) i) → G E 0 0 ad dm a b r 9 [some (.ref (ad 100)), some (.int (nI k)), some (.int (nI (spp D x k))), some (.int (nI (sl D x k))), some (.int rv), some (.int lv), some (.int (nI i)), none, none, none] [] := by
  have hnF := I.2.2.1
  have hnP := I.2.2.2.2
  have hn6 := hD.1
  intro s
  induction s with
  | zero =>
    intro i rv lv hi hki hr hv
    refine g_iload_6 (q := 11) C dX4_goOn_9 rfl ?_
    refine g_aload_0 (q := 12) C dX4_goOn_11 rfl ?_
    refine g_geti (q := 15) C f_X4_121 dX4_goOn_12 rfl rfl (IM.d I _ (by decide) (by decide)) ?_
    refine g_icmp_ge (tgt := 66) (q := 18) C dX4_goOn_15 rfl (by decide) (fun c_15 => ?_) (fun c_15 => absurd (by rw [S.1]; exact nI_le (by omega) (by omega)) c_15)
    have e9 : i = n := by omega
    subst e9
    rw [hr, hv]
    exact h66
  | succ s ih =>
    intro i rv lv hi hki hr hv
    obtain ⟨s1, s2, s3, s4, s5⟩ := S.2.1 i (by omega)
    obtain ⟨d1, d2, d3, d4, d5⟩ := hD.2 i (by omega)
    refine g_iload_6 (q := 11) C dX4_goOn_9 rfl ?_
    refine g_aload_0 (q := 12) C dX4_goOn_11 rfl ?_
    refine g_geti (q := 15) C f_X4_121 dX4_goOn_12 rfl rfl (IM.d I _ (by decide) (by decide)) ?_
    refine g_icmp_ge (tgt := 66) (q := 18) C dX4_goOn_15 rfl (by decide) (fun c_15 => absurd c_15 (by rw [S.1]; exact nI_ge (by omega) (by omega))) (fun c_15 => ?_)
    refine g_aload_0 (q := 19) C dX4_goOn_18 rfl ?_
    refine g_getc (q := 22) (m := 109) C f_X4_34 dX4_goOn_19 rfl rfl (IM.d I _ (by decide) (by decide)) ?_
    refine g_iload_6 (q := 24) C dX4_goOn_22 rfl ?_
    refine g_ia (q := 25) C dX4_goOn_24 rfl rfl (IM.d I _ (by decide) (by decide)) rfl (by omega) (by decide) ?_
    rw [s4]
    refine g_if_ne (tgt := 31) (q := 28) C dX4_goOn_25 rfl (by decide) (fun c_25 => ?_) (fun c_25 => ?_)
    · rw [show (0 : Int32) = nI 0 from rfl, nI_eq (by omega) (by decide)] at c_25
      refine g_iload_4 (q := 33) C dX4_goOn_31 rfl ?_
      refine g_aload_0 (q := 34) C dX4_goOn_33 rfl ?_
      refine g_aload_0 (q := 35) C dX4_goOn_34 rfl ?_
      refine g_getc (q := 38) (m := 106) C f_X4_25 dX4_goOn_35 rfl rfl (IM.d I _ (by decide) (by decide)) ?_
      refine g_iload_6 (q := 40) C dX4_goOn_38 rfl ?_
      refine g_ia (q := 41) C dX4_goOn_40 rfl rfl (IM.d I _ (by decide) (by decide)) rfl (by omega) (by decide) ?_
      refine g_iconst (v := 1) (q := 42) C dX4_goOn_41 rfl (by decide) ?_
      refine g_cv2i (q := 45) C cv_X4_70 dX4_goOn_42 rfl rfl (IM.d I _ (by decide) (by decide)) (m_X4_get I (p := lf i) (k := 1) (by omega) s1 rfl) (by omega) (Nat.le_of_ble_eq_true rfl) ⟨Nat.zero_le _, Nat.zero_le _⟩ ?_
      refine g_iadd (q := 46) C dX4_goOn_45 rfl ?_
      rw [s3, hr, nI_add]
      refine g_istore_4 (q := 48) C dX4_goOn_46 rfl (by rw [hN]; decide) rfl ?_
      refine g_iload_5 (q := 50) C dX4_goOn_48 rfl ?_
      refine g_aload_0 (q := 51) C dX4_goOn_50 rfl ?_
      refine g_getc (q := 54) (m := 110) C f_X4_37 dX4_goOn_51 rfl rfl (IM.d I _ (by decide) (by decide)) ?_
      refine g_iload_6 (q := 56) C dX4_goOn_54 rfl ?_
      refine g_ia (q := 57) C dX4_goOn_56 rfl rfl (IM.d I _ (by decide) (by decide)) rfl (by omega) (by decide) ?_
      refine g_iadd (q := 58) C dX4_goOn_57 rfl ?_
      rw [s5 c_25, hv, nI_add]
      refine g_istore_5 (q := 60) C dX4_goOn_58 rfl (by rw [hN]; decide) rfl ?_
      refine g_iinc_6 (v := nI (i + 1)) (q := 63) C dX4_goOn_60 rfl (by rw [hN]; decide) (nI_1 i) ?_
      refine g_goto (tgt := 9) C dX4_goOn_63 (by decide) ?_
      first
        | exact ih (i + 1) _ _ (by omega) (by omega) (by rw [sT, bP, if_neg (by omega), if_neg c_25]) (by rw [sT, bL, if_neg (by omega), if_neg c_25])
        | exact ih (i + 1) _ _ (by omega) (by omega) (by rw [hr, sT, bP, if_neg (by omega), if_pos c_25]; rfl) (by rw [hv, sT, bL, if_neg (by omega), if_pos c_25]; rfl)
    · rw [show (0 : Int32) = nI 0 from rfl, nI_eq (by omega) (by decide)] at c_25
      refine g_goto (tgt := 60) C dX4_goOn_28 (by decide) ?_
      refine g_iinc_6 (v := nI (i + 1)) (q := 63) C dX4_goOn_60 rfl (by rw [hN]; decide) (nI_1 i) ?_
      refine g_goto (tgt := 9) C dX4_goOn_63 (by decide) ?_
      first
        | exact ih (i + 1) _ _ (by omega) (by omega) (by rw [sT, bP, if_neg (by omega), if_neg c_25]) (by rw [sT, bL, if_neg (by omega), if_neg c_25])
        | exact ih (i + 1) _ _ (by omega) (by omega) (by rw [hr, sT, bP, if_neg (by omega), if_pos c_25]; rfl) (by rw [hv, sT, bL, if_neg (by omega), if_pos c_25]; rfl)
set_option maxHeartbeats 4000000 in
set_option maxRecDepth 100000 in
theorem go_copy {t : Nat} {E : EN} (C : CX E cX4_goOn yX4_goOn.cls (1 + t)) (hN : eN E = 10) {P : PO} (RT9 : RT E 0 0 none P) (I0 : IM dm a nF nP) (hn9 : a 100 9 = nI n) (hn6 : n ≤ 6) {v1 v2 v3 v4 v5 : Int32} {e7 e8 e9 : Option Value} (hP : ∀ a0 : Nat → Nat → Int32, (∀ m, m ≠ 114 → a0 m = a m) → (∀ j, j < n → a0 114 j = a 113 j) → P none ad dm a0 b r) : ∀ (s i : Nat) (a0 : Nat → Nat → Int32), i + s = n → (∀ m, m ≠ 114 → a0 m = a m) → (∀ j, j < i → a0 114 j = a 113 j) → G E 0 0 ad dm a0 b r 115 [some (.ref (ad 100)), some (.int v1), some (.int v2), some (.int v3), some (.int v4), some (.int v5), some (.int (nI i)), e7, e8, e9] [] := by
  have hnF := I0.2.2.1
  have hnP := I0.2.2.2.2
  intro s
  induction s with
  | zero =>
    intro i a0 hi hf hb
    have I := I0.fw (hf 100 (by decide))
    have hs0 : a0 100 9 = nI n := by rw [hf 100 (by decide)]; exact hn9
    refine g_iload_6 (q := 117) C dX4_goOn_115 rfl ?_
    refine g_aload_0 (q := 118) C dX4_goOn_117 rfl ?_
    refine g_geti (q := 121) C f_X4_121 dX4_goOn_118 rfl rfl (IM.d I _ (by decide) (by decide)) ?_
    refine g_icmp_ge (tgt := 144) (q := 124) C dX4_goOn_121 rfl (by decide) (fun c_121 => ?_) (fun c_121 => absurd (by rw [hs0]; exact nI_le (by omega) (by omega)) c_121)
    exact g_vret C RT9 dX4_goOn_144 (hP a0 hf (fun j hj => hb j (by omega)))
  | succ s ih =>
    intro i a0 hi hf hb
    have I := I0.fw (hf 100 (by decide))
    have hs0 : a0 100 9 = nI n := by rw [hf 100 (by decide)]; exact hn9
    refine g_iload_6 (q := 117) C dX4_goOn_115 rfl ?_
    refine g_aload_0 (q := 118) C dX4_goOn_117 rfl ?_
    refine g_geti (q := 121) C f_X4_121 dX4_goOn_118 rfl rfl (IM.d I _ (by decide) (by decide)) ?_
    refine g_icmp_ge (tgt := 144) (q := 124) C dX4_goOn_121 rfl (by decide) (fun c_121 => absurd c_121 (by rw [hs0]; exact nI_ge (by omega) (by omega))) (fun c_121 => ?_)
    refine g_aload_0 (q := 125) C dX4_goOn_124 rfl ?_
    refine g_getc (q := 128) (m := 114) C f_X4_49 dX4_goOn_125 rfl rfl (IM.d I _ (by decide) (by decide)) ?_
    refine g_iload_6 (q := 130) C dX4_goOn_128 rfl ?_
    refine g_aload_0 (q := 131) C dX4_goOn_130 rfl ?_
    refine g_getc (q := 134) (m := 113) C f_X4_46 dX4_goOn_131 rfl rfl (IM.d I _ (by decide) (by decide)) ?_
    refine g_iload_6 (q := 136) C dX4_goOn_134 rfl ?_
    refine g_ia (q := 137) C dX4_goOn_136 rfl rfl (IM.d I _ (by decide) (by decide)) rfl (by omega) (by decide) ?_
    refine g_iast (q := 138) C dX4_goOn_137 rfl rfl (IM.d I _ (by decide) (by decide)) rfl (by omega) (by decide) ?_
    refine g_iinc_6 (v := nI (i + 1)) (q := 141) C dX4_goOn_138 rfl (by rw [hN]; decide) (nI_1 i) ?_
    refine g_goto (tgt := 115) C dX4_goOn_141 (by decide) ?_
    refine ih (i + 1) _ (by omega) (fun m hm => by rw [u2_n hm]; exact hf m hm) (fun j hj => ?_)
    by_cases e : j = i
    · subst e; rw [u2_s, hf 113 (by decide)]
    · rw [u2_k e]; exact hb j (by omega)
end M36
