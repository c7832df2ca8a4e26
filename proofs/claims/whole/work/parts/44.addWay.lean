section X44
variable {g : GM} {bs : Nat} {l : Launch} {ad : Nat → Nat} {dm : Nat → Bool} {a : Nat → Nat → Int32} {b : Nat → Nat → Int64} {r : Nat → Nat → Option Nat} {nF nP : Nat} {fl pa nu : Nat → Int32}
variable {D : MD} {n : Nat}
/-- a row of the mover's ways; the rows of one party, sorted -/
def RW (D : MD) (i p j : Nat) (a : Nat → Nat → Int32) (b : Nat → Nat → Int64) (r : Nat → Nat → Option Nat) : Prop := a 15 j = nI p ∧ b 16 j = lN (mW D i p) ∧ r 13 j = some (20 + D.2.2.1 i p / 9) ∧ (D.2.2.1 i p % 9 = 0 → r 14 j = none) ∧ ∀ fb, D.2.2.1 i p % 9 = fb + 1 → r 14 j = some (20 + fb)
def XW (D : MD) (i w : Nat) (pl : Nat → Nat) (a : Nat → Nat → Int32) (b : Nat → Nat → Int64) (r : Nat → Nat → Option Nat) : Prop := (∀ v, v < w → pl v < w ∧ RW D i (pl v) (12 * i + v) a b r) ∧ (∀ v v', v < v' → v' < w → mW D i (pl v') < mW D i (pl v)) ∧ ∀ p, p < w → ∃ v, v < w ∧ pl v = p
theorem RW.frm {i p j : Nat} {a' : Nat → Nat → Int32} {b' : Nat → Nat → Int64} {r' : Nat → Nat → Option Nat} (h : RW D i p j a b r) (h1 : a' 15 j = a 15 j) (h2 : b' 16 j = b 16 j) (h3 : r' 13 j = r 13 j) (h4 : r' 14 j = r 14 j) : RW D i p j a' b' r' := by
  unfold RW
  rw [h1, h2, h3, h4]
  exact h
/-- what lies before the party's rows, and all else, stays -/
def FA (nF nP i : Nat) (a : Nat → Nat → Int32) (b : Nat → Nat → Int64) (r : Nat → Nat → Option Nat) (a' : Nat → Nat → Int32) (b' : Nat → Nat → Int64) (r' : Nat → Nat → Option Nat) : Prop := (∀ m, m ≠ 15 → a' m = a m) ∧ (∀ j, j < 12 * i → a' 15 j = a 15 j ∧ b' 16 j = b 16 j ∧ r' 13 j = r 13 j ∧ r' 14 j = r 14 j) ∧ (∀ m, m ≠ 16 → b' m = b m) ∧ (∀ m, m ≠ 13 → m ≠ 14 → r' m = r m) ∧ (RB nF nP r → RB nF nP r')
theorem FA.rf {i : Nat} : FA nF nP i a b r a b r := ⟨fun _ _ => rfl, fun _ _ => ⟨rfl, rfl, rfl, rfl⟩, fun _ _ => rfl, fun _ _ _ => rfl, fun h => h⟩
theorem FA.put {i j : Nat} {a' : Nat → Nat → Int32} {b' : Nat → Nat → Int64} {r' : Nat → Nat → Option Nat} (h : FA nF nP i a b r a' b' r') (hj : 12 * i ≤ j) (v : Int32) (v2 : Int64) {o1 o2 : Option Nat} (ho1 : ∀ m, o1 = some m → 20 ≤ m ∧ m < 20 + nF) (ho2 : ∀ m, o2 = some m → 20 ≤ m ∧ m < 20 + nF) : FA nF nP i a b r (u2 a' 15 j v) (u2 b' 16 j v2) (u2 (u2 r' 13 j o1) 14 j o2) := by
  refine ⟨fun m hm => by rw [u2_n hm]; exact h.1 m hm, fun k hk => ?_, fun m hm => by rw [u2_n hm]; exact h.2.2.1 m hm, fun m m1 m2 => by rw [u2_n m2, u2_n m1]; exact h.2.2.2.1 m m1 m2, fun hR => rb_u2 (rb_u2 (h.2.2.2.2 hR) (fun m e => Or.inl (ho1 m e))) (fun m e => Or.inl (ho2 m e))⟩
  rw [u2_k (by omega), u2_k (by omega), u2_k (by omega), u2_k (by omega), u2_k (by omega), u2_k (by omega)]
  exact h.2.1 k hk
theorem of_F {f : Nat} (hf : f < nF) : ∀ m, some (20 + f) = some m → 20 ≤ m ∧ m < 20 + nF := fun m e => by cases e; omega
theorem of_N : ∀ m, (none : Option Nat) = some m → 20 ≤ m ∧ m < 20 + nF := fun m e => by cases e
theorem RW.put {i p j k : Nat} {v : Int32} {v2 : Int64} {o1 o2 : Option Nat} (h : RW D i p j a b r) (hj : j ≠ k) : RW D i p j (u2 a 15 k v) (u2 b 16 k v2) (u2 (u2 r 13 k o1) 14 k o2) := by
  refine h.frm ?_ ?_ ?_ ?_
  · rw [u2_k hj]
  · rw [u2_k hj]
  · rw [u2_k hj, u2_k hj]
  · rw [u2_k hj, u2_k hj]
theorem RW.new0 {i p k : Nat} (h : D.2.2.1 i p % 9 = 0) : RW D i p k (u2 a 15 k (nI p)) (u2 b 16 k (lN (mW D i p))) (u2 (u2 r 13 k (some (20 + D.2.2.1 i p / 9))) 14 k none) := by
  refine ⟨u2_s, u2_s, ?_, fun _ => u2_s, fun fb hfb => by omega⟩
  rw [u2_n (by decide), u2_s]
theorem RW.new1 {i p k fb : Nat} (h : D.2.2.1 i p % 9 = fb + 1) : RW D i p k (u2 a 15 k (nI p)) (u2 b 16 k (lN (mW D i p))) (u2 (u2 r 13 k (some (20 + D.2.2.1 i p / 9))) 14 k (some (20 + fb))) := by
  refine ⟨u2_s, u2_s, ?_, fun z => by omega, fun fb' hfb => ?_⟩
  · rw [u2_n (by decide), u2_s]
  · rw [u2_s, show fb' = fb by omega]
theorem mW_ne (hD : Dok D n) {i p p' : Nat} (hi : i < n) (hp : p < D.2.1 i) (hp' : p' < D.2.1 i) (h : p ≠ p') : mW D i p ≠ mW D i p' := by
  obtain ⟨d1, d2, d3, d4, d5⟩ := hD.2 i hi
  unfold mW
  have b1 : ∀ z, dW D i z < 16777216 := fun z => by
    unfold dW
    split
    · have h5 : 16 ^ (5 - D.2.2.2.2 i) ≤ 16 ^ 5 := Nat.pow_le_pow_right (by decide) (by omega)
      have : (15 - z) * 16 ^ (5 - D.2.2.2.2 i) ≤ 15 * 16 ^ 5 := Nat.mul_le_mul (by omega) h5
      omega
    · omega
  intro e
  have h1 := b1 p
  have h2 := b1 p'
  have e2 : dW D i p = dW D i p' := by omega
  rw [dW_c (Or.inl hp), dW_c (Or.inl hp')] at e2
  have := Nat.eq_of_mul_eq_mul_right (Nat.pow_pos (by decide)) e2
  omega
/-- a new one among the sorted -/
theorem XW.ins (hD : Dok D n) {i w s : Nat} {pl : Nat → Nat} (hi : i < n) (hw : w < D.2.1 i) (hs : s ≤ w) {a1 : Nat → Nat → Int32} {b1 : Nat → Nat → Int64} {r1 : Nat → Nat → Option Nat} (h : XW D i w pl a b r) (h1 : ∀ v, v < s → RW D i (pl v) (12 * i + v) a1 b1 r1) (h2 : ∀ v, s ≤ v → v < w → RW D i (pl v) (12 * i + v + 1) a1 b1 r1 ∧ mW D i (pl v) < mW D i w) (h3 : s = 0 ∨ mW D i w ≤ mW D i (pl (s - 1))) (h4 : RW D i w (12 * i + s) a1 b1 r1) : XW D i (w + 1) (fun v => if v < s then pl v else if v = s then w else pl (v - 1)) a1 b1 r1 := by
  have key : ∀ v, v < s → mW D i w < mW D i (pl v) := fun v hv => by
    rcases h3 with h3 | h3
    · omega
    · have p1 := (h.1 (s - 1) (by omega)).1
      have ne := mW_ne hD hi hw (show pl (s - 1) < D.2.1 i by omega) (by omega)
      have lt : mW D i w < mW D i (pl (s - 1)) := by omega
      by_cases e : v = s - 1
      · rw [e]; exact lt
      · have := h.2.1 v (s - 1) (by omega) (by omega)
        omega
  refine ⟨fun v hv => ?_, fun v v' hv hv' => ?_, fun p hp => ?_⟩
  · dsimp only
    by_cases e1 : v < s
    · rw [if_pos e1]
      have := (h.1 v (by omega)).1
      exact ⟨by omega, h1 v e1⟩
    · rw [if_neg e1]
      by_cases e2 : v = s
      · rw [if_pos e2, e2]
        exact ⟨by omega, h4⟩
      · rw [if_neg e2]
        have := (h.1 (v - 1) (by omega)).1
        refine ⟨by omega, ?_⟩
        have h9 := (h2 (v - 1) (by omega) (by omega)).1
        rw [show 12 * i + (v - 1) + 1 = 12 * i + v by omega] at h9
        exact h9
  · dsimp only
    by_cases e1 : v < s
    · rw [if_pos e1]
      by_cases e1' : v' < s
      · rw [if_pos e1']; exact h.2.1 v v' hv (by omega)
      · rw [if_neg e1']
        by_cases e2' : v' = s
        · rw [if_pos e2']; exact key v e1
        · rw [if_neg e2']; exact h.2.1 v (v' - 1) (by omega) (by omega)
    · rw [if_neg e1, if_neg (show ¬ v' < s by omega)]
      by_cases e2 : v = s
      · rw [if_pos e2, if_neg (show ¬ v' = s by omega)]
        exact (h2 (v' - 1) (by omega) (by omega)).2
      · rw [if_neg e2, if_neg (show ¬ v' = s by omega)]
        exact h.2.1 (v - 1) (v' - 1) (by omega) (by omega)
  · by_cases e : p = w
    · refine ⟨s, by omega, ?_⟩
      dsimp only
      rw [if_neg (by omega), if_pos rfl, e]
    · obtain ⟨v, v1, v2⟩ := h.2.2 p (by omega)
      by_cases e1 : v < s
      · refine ⟨v, by omega, ?_⟩
        dsimp only
        rw [if_pos e1]; exact v2
      · refine ⟨v + 1, by omega, ?_⟩
        dsimp only
        rw [if_neg (by omega), if_neg (by omega)]
        exact v2
def FW (nF nP i : Nat) (a : Nat → Nat → Int32) (b : Nat → Nat → Int64) (r : Nat → Nat → Option Nat) (a' : Nat → Nat → Int32) (b' : Nat → Nat → Int64) (r' : Nat → Nat → Option Nat) : Prop := (∀ m, m ≠ 15 → m ≠ 9 → a' m = a m) ∧ (∀ j, j ≠ i → a' 9 j = a 9 j) ∧ (∀ j, j < 12 * i → a' 15 j = a 15 j ∧ b' 16 j = b 16 j ∧ r' 13 j = r 13 j ∧ r' 14 j = r 14 j) ∧ (∀ m, m ≠ 16 → b' m = b m) ∧ (∀ m, m ≠ 13 → m ≠ 14 → r' m = r m) ∧ (RB nF nP r → RB nF nP r')
theorem FW.rf {i : Nat} : FW nF nP i a b r a b r := ⟨fun _ _ _ => rfl, fun _ _ => rfl, fun _ _ => ⟨rfl, rfl, rfl, rfl⟩, fun _ _ => rfl, fun _ _ _ => rfl, fun h => h⟩
theorem FW.tr {i : Nat} {a1 a2 : Nat → Nat → Int32} {b1 b2 : Nat → Nat → Int64} {r1 r2 : Nat → Nat → Option Nat} (h : FW nF nP i a b r a1 b1 r1) (h2 : FW nF nP i a1 b1 r1 a2 b2 r2) : FW nF nP i a b r a2 b2 r2 := ⟨fun m m1 m2 => (h2.1 m m1 m2).trans (h.1 m m1 m2), fun j hj => (h2.2.1 j hj).trans (h.2.1 j hj), fun j hj => ⟨(h2.2.2.1 j hj).1.trans (h.2.2.1 j hj).1, (h2.2.2.1 j hj).2.1.trans (h.2.2.1 j hj).2.1, (h2.2.2.1 j hj).2.2.1.trans (h.2.2.1 j hj).2.2.1, (h2.2.2.1 j hj).2.2.2.trans (h.2.2.1 j hj).2.2.2⟩, fun m hm => (h2.2.2.2.1 m hm).trans (h.2.2.2.1 m hm), fun m m1 m2 => (h2.2.2.2.2.1 m m1 m2).trans (h.2.2.2.2.1 m m1 m2), fun hR => h2.2.2.2.2.2 (h.2.2.2.2.2 hR)⟩
theorem nI_mul12 (i : Nat) : nI i * 12 = nI (12 * i) := by
  rw [show (12 : Int32) = nI 12 from rfl, pk_mul, Nat.mul_comm]
set_option maxHeartbeats 4000000 in
set_option maxRecDepth 100000 in
theorem aw_loop {E : EN} {lev : Nat} (C : CX E cX1_addWay yX1_addWay.cls lev) (hlev : 2 ≤ lev) (hN : eN E = 9) (I : IX dm nF nP) (hD : Dok D n) (hco : CO D n nF) {i w : Nat} {pl : Nat → Nat} (hi : i < n) (hw : w < D.2.1 i) (hX : XW D i w pl a b r) {e1 e2 : Option Value} (hk : ∀ (s : Nat) (a0 : Nat → Nat → Int32) (b0 : Nat → Nat → Int64) (r0 : Nat → Nat → Option Nat), s ≤ w → FA nF nP i a b r a0 b0 r0 → (∀ v, v < s → RW D i (pl v) (12 * i + v) a0 b0 r0) → (∀ v, s ≤ v → v < w → RW D i (pl v) (12 * i + v + 1) a0 b0 r0 ∧ mW D i (pl v) < mW D i w) → (s = 0 ∨ mW D i w ≤ mW D i (pl (s - 1))) → G E 0 0 ad dm a0 b0 r0 134 [some (.ref (ad 5)), e1, e2, some (.int (nI i)), some (.int (nI w)), some (.long (lN (mW D i w))), none, some (.int (nI (12 * i))), some (.int (nI (12 * i + s)))] []) : ∀ (s : Nat) (a0 : Nat → Nat → Int32) (b0 : Nat → Nat → Int64) (r0 : Nat → Nat → Option Nat), s ≤ w → FA nF nP i a b r a0 b0 r0 → (∀ v, v < s → RW D i (pl v) (12 * i + v) a0 b0 r0) → (∀ v, s ≤ v → v < w → RW D i (pl v) (12 * i + v + 1) a0 b0 r0 ∧ mW D i (pl v) < mW D i w) → G E 0 0 ad dm a0 b0 r0 64 [some (.ref (ad 5)), e1, e2, some (.int (nI i)), some (.int (nI w)), some (.long (lN (mW D i w))), none, some (.int (nI (12 * i))), some (.int (nI (12 * i + s)))] [] := by
  have hn6 := hD.1
  have hnF := I.1
  obtain ⟨d1, d2, d3, d4, d5⟩ := hD.2 i hi
  have hW9 := mW_le hD hi w
  intro s
  induction s with
  | zero =>
    intro a0 b0 r0 hs hf h1 h2
    refine g_iload_8 (q := 66) C dX1_addWay_64 rfl ?_
    refine g_iload_7 (q := 68) C dX1_addWay_66 rfl ?_
    refine g_icmp_le (tgt := 134) (q := 71) C dX1_addWay_68 rfl (by decide) (fun c_68 => ?_) (fun c_68 => absurd (nI_le (by omega) (by omega)) c_68)
    exact hk 0 a0 b0 r0 (Nat.zero_le _) hf h1 h2 (Or.inl rfl)
  | succ s ih =>
    intro a0 b0 r0 hs hf h1 h2
    have hps := (hX.1 s (by omega)).1
    obtain ⟨R1, R2, R3, R4, R5⟩ := h1 s (by omega)
    have hW8 := mW_le hD hi (pl s)
    obtain ⟨c1, c2, c3⟩ := hco i hi (pl s) (by omega)
    refine g_iload_8 (q := 66) C dX1_addWay_64 rfl ?_
    refine g_iload_7 (q := 68) C dX1_addWay_66 rfl ?_
    refine g_icmp_le (tgt := 134) (q := 71) C dX1_addWay_68 rfl (by decide) (fun c_68 => absurd c_68 (nI_ge (by omega) (by omega))) (fun c_68 => ?_)
    refine g_aload_0 (q := 72) C dX1_addWay_71 rfl ?_
    refine g_getc (q := 75) (m := 16) C f_X1_48 dX1_addWay_72 rfl rfl (IX.d0 I _ (by decide)) ?_
    refine g_iload_8 (q := 77) C dX1_addWay_75 rfl ?_
    refine g_iconst (v := 1) (q := 78) C dX1_addWay_77 rfl (by decide) ?_
    refine g_isub (q := 79) C dX1_addWay_78 rfl ?_
    refine g_la (q := 80) C dX1_addWay_79 rfl rfl (IX.d0 I _ (by decide)) (nI_sc (12 * i + s)) (by omega) (by decide) ?_
    refine g_lload_5 (q := 82) C dX1_addWay_80 rfl ?_
    refine g_lcmp (q := 83) C dX1_addWay_82 rfl ?_
    refine g_if_ge (tgt := 134) (q := 86) C dX1_addWay_83 rfl (by decide) (fun c_83 => ?_) (fun c_83 => ?_)
    · exact hk (s + 1) a0 b0 r0 hs hf h1 h2 (Or.inr (by rw [lc_ge, R2, pk_lLE (by omega) (by omega)] at c_83; exact c_83))
    · have hlt : mW D i (pl s) < mW D i w := by
        rw [lc_ge, R2, pk_lLE (by omega) (by omega)] at c_83
        omega
      refine g_aload_0 (q := 87) C dX1_addWay_86 rfl ?_
      refine g_iload_8 (q := 89) C dX1_addWay_87 rfl ?_
      refine g_aload_0 (q := 90) C dX1_addWay_89 rfl ?_
      refine g_getc (q := 93) (m := 13) C f_X1_38 dX1_addWay_90 rfl rfl (IX.d0 I _ (by decide)) ?_
      refine g_iload_8 (q := 95) C dX1_addWay_93 rfl ?_
      refine g_iconst (v := 1) (q := 96) C dX1_addWay_95 rfl (by decide) ?_
      refine g_isub (q := 97) C dX1_addWay_96 rfl ?_
      refine g_aaF (q := 98) C dX1_addWay_97 rfl rfl (IX.d0 I _ (by decide)) (nI_sc (12 * i + s)) (by omega) (by decide) R3 ?_
      refine g_aload_0 (q := 99) C dX1_addWay_98 rfl ?_
      refine g_getc (q := 102) (m := 14) C f_X1_42 dX1_addWay_99 rfl rfl (IX.d0 I _ (by decide)) ?_
      refine g_iload_8 (q := 104) C dX1_addWay_102 rfl ?_
      refine g_iconst (v := 1) (q := 105) C dX1_addWay_104 rfl (by decide) ?_
      refine g_isub (q := 106) C dX1_addWay_105 rfl ?_
      rcases hb9 : D.2.2.1 i (pl s) % 9 with _ | fb
      · refine g_aaFN (q := 107) C dX1_addWay_106 rfl rfl (IX.d0 I _ (by decide)) (nI_sc (12 * i + s)) (by omega) (by decide) (R4 hb9) ?_
        refine g_aload_0 (q := 108) C dX1_addWay_107 rfl ?_
        refine g_getc (q := 111) (m := 15) C f_X1_45 dX1_addWay_108 rfl rfl (IX.d0 I _ (by decide)) ?_
        refine g_iload_8 (q := 113) C dX1_addWay_111 rfl ?_
        refine g_iconst (v := 1) (q := 114) C dX1_addWay_113 rfl (by decide) ?_
        refine g_isub (q := 115) C dX1_addWay_114 rfl ?_
        refine g_ia (q := 116) C dX1_addWay_115 rfl rfl (IX.d0 I _ (by decide)) (nI_sc (12 * i + s)) (by omega) (by decide) ?_
        refine g_aload_0 (q := 117) C dX1_addWay_116 rfl ?_
        refine g_getc (q := 120) (m := 16) C f_X1_48 dX1_addWay_117 rfl rfl (IX.d0 I _ (by decide)) ?_
        refine g_iload_8 (q := 122) C dX1_addWay_120 rfl ?_
        refine g_iconst (v := 1) (q := 123) C dX1_addWay_122 rfl (by decide) ?_
        refine g_isub (q := 124) C dX1_addWay_123 rfl ?_
        refine g_la (q := 125) C dX1_addWay_124 rfl rfl (IX.d0 I _ (by decide)) (nI_sc (12 * i + s)) (by omega) (by decide) ?_
        refine g_cv5v (q := 128) C cv_X1_72 dX1_addWay_125 rfl rfl (IX.d0 I _ (by decide)) (m_X1_putWay_n I (show 12 * i + (s + 1) < 72 by omega) c1 _ _) (by omega) (Nat.le_of_ble_eq_true rfl) ⟨Nat.zero_le _, Nat.zero_le _⟩ ?_
        refine g_iinc_8 (v := nI (12 * i + s)) (q := 131) C dX1_addWay_128 rfl (by rw [hN]; decide) (nI_dc (12 * i + s)) ?_
        refine g_goto (tgt := 64) C dX1_addWay_131 (by decide) ?_
        refine ih _ _ _ (by omega) (hf.put (by omega) _ _ (of_F c1) of_N) (fun v hv => (h1 v (by omega)).put (by omega)) (fun v v1 v2 => ?_)
        by_cases e : v = s
        · subst e
          refine ⟨?_, hlt⟩
          rw [R1, R2]
          exact RW.new0 hb9
        · obtain ⟨z1, z2⟩ := h2 v (by omega) v2
          exact ⟨z1.put (by omega), z2⟩
      · have hfb : fb < nF := by omega
        refine g_aaF (q := 107) C dX1_addWay_106 rfl rfl (IX.d0 I _ (by decide)) (nI_sc (12 * i + s)) (by omega) (by decide) (R5 fb hb9) ?_
        refine g_aload_0 (q := 108) C dX1_addWay_107 rfl ?_
        refine g_getc (q := 111) (m := 15) C f_X1_45 dX1_addWay_108 rfl rfl (IX.d0 I _ (by decide)) ?_
        refine g_iload_8 (q := 113) C dX1_addWay_111 rfl ?_
        refine g_iconst (v := 1) (q := 114) C dX1_addWay_113 rfl (by decide) ?_
        refine g_isub (q := 115) C dX1_addWay_114 rfl ?_
        refine g_ia (q := 116) C dX1_addWay_115 rfl rfl (IX.d0 I _ (by decide)) (nI_sc (12 * i + s)) (by omega) (by decide) ?_
        refine g_aload_0 (q := 117) C dX1_addWay_116 rfl ?_
        refine g_getc (q := 120) (m := 16) C f_X1_48 dX1_addWay_117 rfl rfl (IX.d0 I _ (by decide)) ?_
        refine g_iload_8 (q := 122) C dX1_addWay_120 rfl ?_
        refine g_iconst (v := 1) (q := 123) C dX1_addWay_122 rfl (by decide) ?_
        refine g_isub (q := 124) C dX1_addWay_123 rfl ?_
        refine g_la (q := 125) C dX1_addWay_124 rfl rfl (IX.d0 I _ (by decide)) (nI_sc (12 * i + s)) (by omega) (by decide) ?_
        refine g_cv5v (q := 128) C cv_X1_72 dX1_addWay_125 rfl rfl (IX.d0 I _ (by decide)) (m_X1_putWay_r I (show 12 * i + (s + 1) < 72 by omega) c1 hfb _ _) (by omega) (Nat.le_of_ble_eq_true rfl) ⟨Nat.zero_le _, Nat.zero_le _⟩ ?_
        refine g_iinc_8 (v := nI (12 * i + s)) (q := 131) C dX1_addWay_128 rfl (by rw [hN]; decide) (nI_dc (12 * i + s)) ?_
        refine g_goto (tgt := 64) C dX1_addWay_131 (by decide) ?_
        refine ih _ _ _ (by omega) (hf.put (by omega) _ _ (of_F c1) (of_F hfb)) (fun v hv => (h1 v (by omega)).put (by omega)) (fun v v1 v2 => ?_)
        by_cases e : v = s
        · subst e
          refine ⟨?_, hlt⟩
          rw [R1, R2]
          exact RW.new1 hb9
        · obtain ⟨z1, z2⟩ := h2 v (by omega) v2
          exact ⟨z1.put (by omega), z2⟩
set_option maxHeartbeats 4000000 in
set_option maxRecDepth 100000 in
theorem m_X1_addWay_n (X : XR nF nP fl pa nu dm a r) (hD : Dok D n) (hco : CO D n nF) {i w q0 fa : Nat} {pl : Nat → Nat} (hi : i < n) (hw : w < D.2.1 i) (hX : XW D i w pl a b r) (hc5 : a 5 12 = nI (i + 1)) (hr6 : r 6 i = some (30 + q0)) (hq0 : q0 < nP) (hsz : a (30 + q0) 1 = nI (D.1 i)) (htn : a 7 i = nI (D.2.2.2.2 i)) (hw9 : a 9 i = nI w) (hfa : fa < nF) (hlt : ltS fl (cN (pa (9 * q0))) fa = nI (D.2.2.2.1 i w)) (hcd1 : D.2.2.1 i w / 9 = fa) (hcd2 : D.2.2.1 i w % 9 = 0) : MT g bs l yX1_addWay cX1_addWay 9 none 2 0 0 [.ref (ad 5), .ref (ad (20 + fa)), .null] ad dm a b r (fun v ad0 dm0 a0 b0 r0 => v = none ∧ ad0 = ad ∧ dm0 = dm ∧ FW nF nP i a b r a0 b0 r0 ∧ a0 9 i = nI (w + 1) ∧ ∃ pl', XW D i (w + 1) pl' a0 b0 r0) := by
  refine mt_of (by decide) [some (.ref (ad 5)), some (.ref (ad (20 + fa))), some (.null), none, none, none, none, none, none] rfl (Nat.le_of_ble_eq_true rfl) ?_
  intro E hg hbs hl hN C RT9 hcells hslots hname
  have I := X.1
  have hn6 := hD.1
  obtain ⟨d1, d2, d3, d4, d5⟩ := hD.2 i hi
  refine g_aload_0 (q := 1) C dX1_addWay_0 rfl ?_
  refine g_geti (q := 4) C f_X1_56 dX1_addWay_1 rfl rfl (IX.d0 I _ (by decide)) ?_
  rw [hc5]
  refine g_iconst (v := 1) (q := 5) C dX1_addWay_4 rfl (by decide) ?_
  refine g_isub (q := 6) C dX1_addWay_5 rfl ?_
  rw [nI_sc]
  refine g_istore_3 (q := 7) C dX1_addWay_6 rfl (by rw [hN]; decide) rfl ?_
  refine g_iload_3 (q := 8) C dX1_addWay_7 rfl ?_
  refine g_if_lt (tgt := 22) (q := 11) C dX1_addWay_8 rfl (by decide) (fun c_8 => absurd c_8 (nI_n0 (by omega))) (fun c_8 => ?_)
  refine g_aload_0 (q := 12) C dX1_addWay_11 rfl ?_
  refine g_getc (q := 15) (m := 9) C f_X1_24 dX1_addWay_12 rfl rfl (IX.d0 I _ (by decide)) ?_
  refine g_iload_3 (q := 16) C dX1_addWay_15 rfl ?_
  refine g_ia (q := 17) C dX1_addWay_16 rfl rfl (IX.d0 I _ (by decide)) rfl (by omega) (by decide) ?_
  refine g_bipush (v := 12) (q := 19) C dX1_addWay_17 rfl (by decide) ?_
  refine g_icmp_lt (tgt := 23) (q := 22) C dX1_addWay_19 rfl (by decide) (fun c_19 => ?_) (fun c_19 => absurd (by rw [hw9, show (12 : Int32) = nI 12 from rfl]; exact nI_lt (by omega) (by decide)) c_19)
  refine g_aload_0 (q := 24) C dX1_addWay_23 rfl ?_
  refine g_getc (q := 27) (m := 9) C f_X1_24 dX1_addWay_24 rfl rfl (IX.d0 I _ (by decide)) ?_
  refine g_iload_3 (q := 28) C dX1_addWay_27 rfl ?_
  refine g_ia (q := 29) C dX1_addWay_28 rfl rfl (IX.d0 I _ (by decide)) rfl (by omega) (by decide) ?_
  rw [hw9]
  refine g_istore_4 (q := 31) C dX1_addWay_29 rfl (by rw [hN]; decide) rfl ?_
  refine g_aload_0 (q := 32) C dX1_addWay_31 rfl ?_
  refine g_iload_3 (q := 33) C dX1_addWay_32 rfl ?_
  refine g_aload_0 (q := 34) C dX1_addWay_33 rfl ?_
  refine g_getc (q := 37) (m := 6) C f_X1_11 dX1_addWay_34 rfl rfl (IX.d0 I _ (by decide)) ?_
  refine g_iload_3 (q := 38) C dX1_addWay_37 rfl ?_
  refine g_aaP (q := 39) C dX1_addWay_38 rfl rfl (IX.d0 I _ (by decide)) rfl (by omega) (by decide) hr6 ?_
  refine g_aload_1 (q := 40) C dX1_addWay_39 rfl ?_
  refine g_aload_2N (q := 41) C dX1_addWay_40 rfl ?_
  refine g_cv2i (q := 44) C cv_X1_64 dX1_addWay_41 rfl (IX.lp I (by assumption)) (IX.dp I (by assumption)) (m_X2_lateBy_n X hq0 hfa) (by decide) (Nat.le_of_ble_eq_true rfl) ⟨Nat.zero_le _, Nat.zero_le _⟩ ?_
  refine g_iload_4 (q := 46) C dX1_addWay_44 rfl ?_
  rw [hlt]
  refine g_cv3i (q := 49) C cv_X1_68 dX1_addWay_46 rfl rfl (IX.d0 I _ (by decide)) (m_X1_worthOf X.1 (show i < 6 by omega) hr6 hq0 hsz d2 htn d4 hw d3 rfl (d5 w hw)) (by decide) (Nat.le_of_ble_eq_true rfl) ⟨Nat.zero_le _, Nat.zero_le _⟩ ?_
  refine g_lstore_5 (q := 51) C dX1_addWay_49 rfl (by rw [hN]; decide) rfl ?_
  refine g_iload_3 (q := 52) C dX1_addWay_51 rfl ?_
  refine g_bipush (v := 12) (q := 54) C dX1_addWay_52 rfl (by decide) ?_
  refine g_imul (q := 55) C dX1_addWay_54 rfl ?_
  rw [nI_mul12]
  refine g_istore_7 (q := 57) C dX1_addWay_55 rfl (by rw [hN]; decide) rfl ?_
  refine g_iload_7 (q := 59) C dX1_addWay_57 rfl ?_
  refine g_iload_4 (q := 61) C dX1_addWay_59 rfl ?_
  refine g_iadd (q := 62) C dX1_addWay_61 rfl ?_
  rw [nI_add]
  refine g_istore_8 (q := 64) C dX1_addWay_62 rfl (by rw [hN]; decide) rfl ?_
  refine aw_loop C (by decide) hN X.1 hD hco hi hw hX (fun s a0 b0 r0 hs hf h1 h2 h3 => ?_) w a b r (Nat.le_refl _) FA.rf (fun v hv => (hX.1 v hv).2) (fun v v1 v2 => by omega)
  refine g_aload_0 (q := 135) C dX1_addWay_134 rfl ?_
  refine g_iload_8 (q := 137) C dX1_addWay_135 rfl ?_
  refine g_aload_1 (q := 138) C dX1_addWay_137 rfl ?_
  refine g_aload_2N (q := 139) C dX1_addWay_138 rfl ?_
  refine g_iload_4 (q := 141) C dX1_addWay_139 rfl ?_
  refine g_lload_5 (q := 143) C dX1_addWay_141 rfl ?_
  refine g_cv5v (q := 146) C cv_X1_72 dX1_addWay_143 rfl rfl (IX.d0 I _ (by decide)) (m_X1_putWay_n X.1 (show 12 * i + s < 72 by omega) hfa _ _) (by decide) (Nat.le_of_ble_eq_true rfl) ⟨Nat.zero_le _, Nat.zero_le _⟩ ?_
  refine g_aload_0 (q := 147) C dX1_addWay_146 rfl ?_
  refine g_getc (q := 150) (m := 9) C f_X1_24 dX1_addWay_147 rfl rfl (IX.d0 I _ (by decide)) ?_
  refine g_iload_3 (q := 151) C dX1_addWay_150 rfl ?_
  refine g_dup2 (q := 152) C dX1_addWay_151 rfl rfl rfl ?_
  refine g_ia (q := 153) C dX1_addWay_152 rfl rfl (IX.d0 I _ (by decide)) rfl (by omega) (by decide) ?_
  rw [u2_n (show (9 : Nat) ≠ 15 by decide), hf.1 9 (by decide), hw9]
  refine g_iconst (v := 1) (q := 154) C dX1_addWay_153 rfl (by decide) ?_
  refine g_iadd (q := 155) C dX1_addWay_154 rfl ?_
  rw [nI_1]
  refine g_iast (q := 156) C dX1_addWay_155 rfl rfl (IX.d0 I _ (by decide)) rfl (by omega) (by decide) ?_
  exact g_vret C RT9 dX1_addWay_156 (by
    have hf2 := hf.put (show 12 * i ≤ 12 * i + s by omega) (nI w) (lN (mW D i w)) (of_F hfa) of_N
    refine ⟨rfl, rfl, rfl, ⟨fun m m1 m2 => by rw [u2_n m2]; exact hf2.1 m m1, fun j hj => by rw [u2_k hj, hf2.1 9 (by decide)], fun j hj => by rw [u2_n (show (15 : Nat) ≠ 9 by decide)]; exact hf2.2.1 j hj, hf2.2.2.1, hf2.2.2.2.1, hf2.2.2.2.2⟩, u2_s, _, XW.ins hD hi hw hs hX (fun v hv => ((h1 v hv).put (by omega)).frm (by rw [u2_n (show (15 : Nat) ≠ 9 by decide)]) rfl rfl rfl) (fun v v1 v2 => ⟨((h2 v v1 v2).1.put (by omega)).frm (by rw [u2_n (show (15 : Nat) ≠ 9 by decide)]) rfl rfl rfl, (h2 v v1 v2).2⟩) h3 ?_⟩
    have h9 := RW.new0 (a := a0) (b := b0) (r := r0) (k := 12 * i + s) hcd2
    rw [hcd1] at h9
    exact h9.frm (by rw [u2_n (show (15 : Nat) ≠ 9 by decide)]) rfl rfl rfl)

set_option maxHeartbeats 4000000 in
set_option maxRecDepth 100000 in
theorem m_X1_addWay_r (X : XR nF nP fl pa nu dm a r) (hD : Dok D n) (hco : CO D n nF) {i w q0 fa fb : Nat} {pl : Nat → Nat} (hi : i < n) (hw : w < D.2.1 i) (hX : XW D i w pl a b r) (hc5 : a 5 12 = nI (i + 1)) (hr6 : r 6 i = some (30 + q0)) (hq0 : q0 < nP) (hsz : a (30 + q0) 1 = nI (D.1 i)) (htn : a 7 i = nI (D.2.2.2.2 i)) (hw9 : a 9 i = nI w) (hfa : fa < nF) (hfb : fb < nF) (hlt : ltS fl (cN (pa (9 * q0))) fb = nI (D.2.2.2.1 i w)) (hcd1 : D.2.2.1 i w / 9 = fa) (hcd2 : D.2.2.1 i w % 9 = fb + 1) : MT g bs l yX1_addWay cX1_addWay 9 none 2 0 0 [.ref (ad 5), .ref (ad (20 + fa)), .ref (ad (20 + fb))] ad dm a b r (fun v ad0 dm0 a0 b0 r0 => v = none ∧ ad0 = ad ∧ dm0 = dm ∧ FW nF nP i a b r a0 b0 r0 ∧ a0 9 i = nI (w + 1) ∧ ∃ pl', XW D i (w + 1) pl' a0 b0 r0) := by
  refine mt_of (by decide) [some (.ref (ad 5)), some (.ref (ad (20 + fa))), some (.ref (ad (20 + fb))), none, none, none, none, none, none] rfl (Nat.le_of_ble_eq_true rfl) ?_
  intro E hg hbs hl hN C RT9 hcells hslots hname
  have I := X.1
  have hn6 := hD.1
  obtain ⟨d1, d2, d3, d4, d5⟩ := hD.2 i hi
  refine g_aload_0 (q := 1) C dX1_addWay_0 rfl ?_
  refine g_geti (q := 4) C f_X1_56 dX1_addWay_1 rfl rfl (IX.d0 I _ (by decide)) ?_
  rw [hc5]
  refine g_iconst (v := 1) (q := 5) C dX1_addWay_4 rfl (by decide) ?_
  refine g_isub (q := 6) C dX1_addWay_5 rfl ?_
  rw [nI_sc]
  refine g_istore_3 (q := 7) C dX1_addWay_6 rfl (by rw [hN]; decide) rfl ?_
  refine g_iload_3 (q := 8) C dX1_addWay_7 rfl ?_
  refine g_if_lt (tgt := 22) (q := 11) C dX1_addWay_8 rfl (by decide) (fun c_8 => absurd c_8 (nI_n0 (by omega))) (fun c_8 => ?_)
  refine g_aload_0 (q := 12) C dX1_addWay_11 rfl ?_
  refine g_getc (q := 15) (m := 9) C f_X1_24 dX1_addWay_12 rfl rfl (IX.d0 I _ (by decide)) ?_
  refine g_iload_3 (q := 16) C dX1_addWay_15 rfl ?_
  refine g_ia (q := 17) C dX1_addWay_16 rfl rfl (IX.d0 I _ (by decide)) rfl (by omega) (by decide) ?_
  refine g_bipush (v := 12) (q := 19) C dX1_addWay_17 rfl (by decide) ?_
  refine g_icmp_lt (tgt := 23) (q := 22) C dX1_addWay_19 rfl (by decide) (fun c_19 => ?_) (fun c_19 => absurd (by rw [hw9, show (12 : Int32) = nI 12 from rfl]; exact nI_lt (by omega) (by decide)) c_19)
  refine g_aload_0 (q := 24) C dX1_addWay_23 rfl ?_
  refine g_getc (q := 27) (m := 9) C f_X1_24 dX1_addWay_24 rfl rfl (IX.d0 I _ (by decide)) ?_
  refine g_iload_3 (q := 28) C dX1_addWay_27 rfl ?_
  refine g_ia (q := 29) C dX1_addWay_28 rfl rfl (IX.d0 I _ (by decide)) rfl (by omega) (by decide) ?_
  rw [hw9]
  refine g_istore_4 (q := 31) C dX1_addWay_29 rfl (by rw [hN]; decide) rfl ?_
  refine g_aload_0 (q := 32) C dX1_addWay_31 rfl ?_
  refine g_iload_3 (q := 33) C dX1_addWay_32 rfl ?_
  refine g_aload_0 (q := 34) C dX1_addWay_33 rfl ?_
  refine g_getc (q := 37) (m := 6) C f_X1_11 dX1_addWay_34 rfl rfl (IX.d0 I _ (by decide)) ?_
  refine g_iload_3 (q := 38) C dX1_addWay_37 rfl ?_
  refine g_aaP (q := 39) C dX1_addWay_38 rfl rfl (IX.d0 I _ (by decide)) rfl (by omega) (by decide) hr6 ?_
  refine g_aload_1 (q := 40) C dX1_addWay_39 rfl ?_
  refine g_aload_2 (q := 41) C dX1_addWay_40 rfl ?_
  refine g_cv2i (q := 44) C cv_X1_64 dX1_addWay_41 rfl (IX.lp I (by assumption)) (IX.dp I (by assumption)) (m_X2_lateBy_r X hq0 hfa hfb) (by decide) (Nat.le_of_ble_eq_true rfl) ⟨Nat.zero_le _, Nat.zero_le _⟩ ?_
  refine g_iload_4 (q := 46) C dX1_addWay_44 rfl ?_
  rw [hlt]
  refine g_cv3i (q := 49) C cv_X1_68 dX1_addWay_46 rfl rfl (IX.d0 I _ (by decide)) (m_X1_worthOf X.1 (show i < 6 by omega) hr6 hq0 hsz d2 htn d4 hw d3 rfl (d5 w hw)) (by decide) (Nat.le_of_ble_eq_true rfl) ⟨Nat.zero_le _, Nat.zero_le _⟩ ?_
  refine g_lstore_5 (q := 51) C dX1_addWay_49 rfl (by rw [hN]; decide) rfl ?_
  refine g_iload_3 (q := 52) C dX1_addWay_51 rfl ?_
  refine g_bipush (v := 12) (q := 54) C dX1_addWay_52 rfl (by decide) ?_
  refine g_imul (q := 55) C dX1_addWay_54 rfl ?_
  rw [nI_mul12]
  refine g_istore_7 (q := 57) C dX1_addWay_55 rfl (by rw [hN]; decide) rfl ?_
  refine g_iload_7 (q := 59) C dX1_addWay_57 rfl ?_
  refine g_iload_4 (q := 61) C dX1_addWay_59 rfl ?_
  refine g_iadd (q := 62) C dX1_addWay_61 rfl ?_
  rw [nI_add]
  refine g_istore_8 (q := 64) C dX1_addWay_62 rfl (by rw [hN]; decide) rfl ?_
  refine aw_loop C (by decide) hN X.1 hD hco hi hw hX (fun s a0 b0 r0 hs hf h1 h2 h3 => ?_) w a b r (Nat.le_refl _) FA.rf (fun v hv => (hX.1 v hv).2) (fun v v1 v2 => by omega)
  refine g_aload_0 (q := 135) C dX1_addWay_134 rfl ?_
  refine g_iload_8 (q := 137) C dX1_addWay_135 rfl ?_
  refine g_aload_1 (q := 138) C dX1_addWay_137 rfl ?_
  refine g_aload_2 (q := 139) C dX1_addWay_138 rfl ?_
  refine g_iload_4 (q := 141) C dX1_addWay_139 rfl ?_
  refine g_lload_5 (q := 143) C dX1_addWay_141 rfl ?_
  refine g_cv5v (q := 146) C cv_X1_72 dX1_addWay_143 rfl rfl (IX.d0 I _ (by decide)) (m_X1_putWay_r X.1 (show 12 * i + s < 72 by omega) hfa hfb _ _) (by decide) (Nat.le_of_ble_eq_true rfl) ⟨Nat.zero_le _, Nat.zero_le _⟩ ?_
  refine g_aload_0 (q := 147) C dX1_addWay_146 rfl ?_
  refine g_getc (q := 150) (m := 9) C f_X1_24 dX1_addWay_147 rfl rfl (IX.d0 I _ (by decide)) ?_
  refine g_iload_3 (q := 151) C dX1_addWay_150 rfl ?_
  refine g_dup2 (q := 152) C dX1_addWay_151 rfl rfl rfl ?_
  refine g_ia (q := 153) C dX1_addWay_152 rfl rfl (IX.d0 I _ (by decide)) rfl (by omega) (by decide) ?_
  rw [u2_n (show (9 : Nat) ≠ 15 by decide), hf.1 9 (by decide), hw9]
  refine g_iconst (v := 1) (q := 154) C dX1_addWay_153 rfl (by decide) ?_
  refine g_iadd (q := 155) C dX1_addWay_154 rfl ?_
  rw [nI_1]
  refine g_iast (q := 156) C dX1_addWay_155 rfl rfl (IX.d0 I _ (by decide)) rfl (by omega) (by decide) ?_
  exact g_vret C RT9 dX1_addWay_156 (by
    have hf2 := hf.put (show 12 * i ≤ 12 * i + s by omega) (nI w) (lN (mW D i w)) (of_F hfa) (of_F hfb)
    refine ⟨rfl, rfl, rfl, ⟨fun m m1 m2 => by rw [u2_n m2]; exact hf2.1 m m1, fun j hj => by rw [u2_k hj, hf2.1 9 (by decide)], fun j hj => by rw [u2_n (show (15 : Nat) ≠ 9 by decide)]; exact hf2.2.1 j hj, hf2.2.2.1, hf2.2.2.2.1, hf2.2.2.2.2⟩, u2_s, _, XW.ins hD hi hw hs hX (fun v hv => ((h1 v hv).put (by omega)).frm (by rw [u2_n (show (15 : Nat) ≠ 9 by decide)]) rfl rfl rfl) (fun v v1 v2 => ⟨((h2 v v1 v2).1.put (by omega)).frm (by rw [u2_n (show (15 : Nat) ≠ 9 by decide)]) rfl rfl rfl, (h2 v v1 v2).2⟩) h3 ?_⟩
    have h9 := RW.new1 (a := a0) (b := b0) (r := r0) (k := 12 * i + s) hcd2
    rw [hcd1] at h9
    exact h9.frm (by rw [u2_n (show (15 : Nat) ≠ 9 by decide)]) rfl rfl rfl)

end X44
