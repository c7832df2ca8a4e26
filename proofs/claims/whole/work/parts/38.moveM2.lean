section M38
variable {g : GM} {bs : Nat} {l : Launch} {ad : Nat → Nat} {dm : Nat → Bool} {a : Nat → Nat → Int32} {b : Nat → Nat → Int64} {r : Nat → Nat → Option Nat} {nF nP : Nat} {fl pa nu : Nat → Int32}
theorem st_y (W : WP nF nP pa) {p : Nat} (hp : p < nP) (h1 : ¬ pa (9 * p + 5) = 0) (h2 : pa (9 * p + 7) = -1) : stc pa p = true := by
  obtain ⟨-, -, -, -, -, h6, -⟩ := W p hp
  have : 0 < pa (9 * p + 5) := by
    rcases h6 with h | h | h
    · exact absurd h h1
    · rw [h]; decide
    · rw [h]; decide
  simp [stc, this, h2]
theorem st_n1 {p : Nat} (h1 : pa (9 * p + 5) = 0) : stc pa p = false := by
  simp [stc, h1]
theorem st_n2 {p : Nat} (h1 : ¬ pa (9 * p + 7) = -1) : stc pa p = false := by
  simp [stc, h1]
def LI (pa : Nat → Int32) (i : Nat) (a a0 : Nat → Nat → Int32) : Prop := (∀ m, m ≠ 100 → m ≠ 106 → a0 m = a m) ∧ (∀ j, j ≠ 9 → a0 100 j = a 100 j) ∧ a0 100 9 = nI (ctS (stc pa) i) ∧ ∀ p, p < i → stc pa p = true → a0 106 (ctS (stc pa) p) = nI p
theorem LI.IM {i : Nat} {a0 : Nat → Nat → Int32} (h : LI pa i a a0) (I : IM dm a nF nP) : IM dm a0 nF nP := ⟨I.1, by rw [h.2.1 1 (by decide)]; exact I.2.1, I.2.2.1, by rw [h.2.1 3 (by decide)]; exact I.2.2.2.1, I.2.2.2.2⟩
theorem ct_s {c : Nat → Bool} {i : Nat} : ctS c (i + 1) = if c i = true then ctS c i + 1 else ctS c i := rfl
theorem LI_n {i : Nat} {a0 : Nat → Nat → Int32} (h : LI pa i a a0) (hs : stc pa i = false) : LI pa (i + 1) a a0 := by
  refine ⟨h.1, h.2.1, by rw [ct_s, if_neg (by rw [hs]; decide)]; exact h.2.2.1, fun p hp hst => ?_⟩
  by_cases e : p = i
  · subst e; rw [hs] at hst; cases hst
  · exact h.2.2.2 p (by omega) hst
theorem LI_y {i : Nat} {a0 : Nat → Nat → Int32} (h : LI pa i a a0) (hs : stc pa i = true) : LI pa (i + 1) a (u2 (u2 a0 106 (ctS (stc pa) i) (nI i)) 100 9 (nI (ctS (stc pa) i + 1))) := by
  refine ⟨fun m m1 m2 => by rw [u2_n m1, u2_n m2]; exact h.1 m m1 m2, fun j hj => by rw [u2_k hj, u2_n (by decide)]; exact h.2.1 j hj, by rw [u2_s, ct_s, if_pos hs], fun p hp hst => ?_⟩
  rw [u2_n (by decide)]
  by_cases e : p = i
  · subst e; rw [u2_s]
  · have := ctS_lt (show p < i by omega) hst
    rw [u2_k (by omega)]
    exact h.2.2.2 p (by omega) hst
set_option maxHeartbeats 4000000 in
set_option maxRecDepth 100000 in
theorem mv_left {E : EN} (C : CX E cX4_move yX4_move.cls 8) (hN : eN E = 2) (I0 : IM dm a nF nP) (hpa : a 102 = pa) (W : WP nF nP pa) (h6 : stN pa nP ≤ 6) (hk : ∀ a0 : Nat → Nat → Int32, LI pa nP a a0 → G E 0 0 ad dm a0 b r 80 [some (.ref (ad 100)), some (.int (nI nP))] []) : ∀ (s i : Nat) (a0 : Nat → Nat → Int32), i + s = nP → LI pa i a a0 → G E 0 0 ad dm a0 b r 23 [some (.ref (ad 100)), some (.int (nI i))] [] := by
  have hnF := I0.2.2.1
  have hnP := I0.2.2.2.2
  intro s
  induction s with
  | zero =>
    intro i a0 hi hI
    have I := hI.IM I0
    refine g_iload_1 (q := 24) C dX4_move_23 rfl ?_
    refine g_aload_0 (q := 25) C dX4_move_24 rfl ?_
    refine g_geti (q := 28) C f_X4_63 dX4_move_25 rfl rfl (IM.d I _ (by decide) (by decide)) ?_
    refine g_icmp_ge (tgt := 80) (q := 31) C dX4_move_28 rfl (by decide) (fun c_28 => ?_) (fun c_28 => absurd (by rw [I.nP]; exact nI_le (by omega) (by omega)) c_28)
    have e9 : i = nP := by omega
    subst e9
    exact hk a0 hI
  | succ s ih =>
    intro i a0 hi hI
    have I := hI.IM I0
    have hip : i < nP := by omega
    have h102 : a0 102 = pa := (hI.1 102 (by decide) (by decide)).trans hpa
    refine g_iload_1 (q := 24) C dX4_move_23 rfl ?_
    refine g_aload_0 (q := 25) C dX4_move_24 rfl ?_
    refine g_geti (q := 28) C f_X4_63 dX4_move_25 rfl rfl (IM.d I _ (by decide) (by decide)) ?_
    refine g_icmp_ge (tgt := 80) (q := 31) C dX4_move_28 rfl (by decide) (fun c_28 => absurd c_28 (by rw [I.nP]; exact nI_ge (by omega) (by omega))) (fun c_28 => ?_)
    refine g_aload_0 (q := 32) C dX4_move_31 rfl ?_
    refine g_iload_1 (q := 33) C dX4_move_32 rfl ?_
    refine g_iconst (v := 5) (q := 34) C dX4_move_33 rfl (by decide) ?_
    refine g_cv2i (q := 37) C cv_X4_70 dX4_move_34 rfl rfl (IM.d I _ (by decide) (by decide)) (m_X4_get I (k := 5) (by omega) rfl rfl) (by decide) (Nat.le_of_ble_eq_true rfl) ⟨Nat.zero_le _, Nat.zero_le _⟩ ?_
    refine g_if_eq (tgt := 74) (q := 40) C dX4_move_37 rfl (by decide) (fun c_37 => ?_) (fun c_37 => ?_)
    · refine g_iinc_1 (v := nI (i + 1)) (q := 77) C dX4_move_74 rfl (by rw [hN]; decide) (nI_1 i) ?_
      refine g_goto (tgt := 23) C dX4_move_77 (by decide) ?_
      first
        | exact ih (i + 1) _ (by omega) (LI_y hI hst)
        | (rw [h102] at c_37
           exact ih (i + 1) _ (by omega) (LI_n hI (st_n1 c_37)))
        | (rw [h102] at c_48
           exact ih (i + 1) _ (by omega) (LI_n hI (st_n2 c_48)))
    · refine g_aload_0 (q := 41) C dX4_move_40 rfl ?_
      refine g_iload_1 (q := 42) C dX4_move_41 rfl ?_
      refine g_bipush (v := 7) (q := 44) C dX4_move_42 rfl (by decide) ?_
      refine g_cv2i (q := 47) C cv_X4_70 dX4_move_44 rfl rfl (IM.d I _ (by decide) (by decide)) (m_X4_get I (k := 7) (by omega) rfl rfl) (by decide) (Nat.le_of_ble_eq_true rfl) ⟨Nat.zero_le _, Nat.zero_le _⟩ ?_
      refine g_iconst (v := (-1)) (q := 48) C dX4_move_47 rfl (by decide) ?_
      refine g_icmp_eq (tgt := 54) (q := 51) C dX4_move_48 rfl (by decide) (fun c_48 => ?_) (fun c_48 => ?_)
      · rw [h102] at c_37 c_48
        have hst := st_y W hip c_37 c_48
        refine g_aload_0 (q := 55) C dX4_move_54 rfl ?_
        refine g_getc (q := 58) (m := 106) C f_X4_25 dX4_move_55 rfl rfl (IM.d I _ (by decide) (by decide)) ?_
        refine g_aload_0 (q := 59) C dX4_move_58 rfl ?_
        refine g_geti (q := 62) C f_X4_121 dX4_move_59 rfl rfl (IM.d I _ (by decide) (by decide)) ?_
        refine g_iload_1 (q := 63) C dX4_move_62 rfl ?_
        refine g_iast (q := 64) C dX4_move_63 rfl rfl (IM.d I _ (by decide) (by decide)) hI.2.2.1 (by have := ctS_lt hip hst; unfold stN at h6; omega) (by decide) ?_
        have I := I.u (n := 106) (k := ctS (stc pa) i) (x := nI i) (by decide)
        refine g_aload_0 (q := 65) C dX4_move_64 rfl ?_
        refine g_dup (q := 66) C dX4_move_65 rfl rfl ?_
        refine g_geti (q := 69) C f_X4_121 dX4_move_66 rfl rfl (IM.d I _ (by decide) (by decide)) ?_
        refine g_iconst (v := 1) (q := 70) C dX4_move_69 rfl (by decide) ?_
        refine g_iadd (q := 71) C dX4_move_70 rfl ?_
        rw [u2_n (show (100 : Nat) ≠ 106 by decide), hI.2.2.1, nI_1]
        refine g_puti (q := 74) C p_X4_121 dX4_move_71 rfl rfl (IM.d I _ (by decide) (by decide)) rfl rfl ?_
        refine g_iinc_1 (v := nI (i + 1)) (q := 77) C dX4_move_74 rfl (by rw [hN]; decide) (nI_1 i) ?_
        refine g_goto (tgt := 23) C dX4_move_77 (by decide) ?_
        first
          | exact ih (i + 1) _ (by omega) (LI_y hI hst)
          | (rw [h102] at c_37
             exact ih (i + 1) _ (by omega) (LI_n hI (st_n1 c_37)))
          | (rw [h102] at c_48
             exact ih (i + 1) _ (by omega) (LI_n hI (st_n2 c_48)))
      · refine g_goto (tgt := 74) C dX4_move_51 (by decide) ?_
        refine g_iinc_1 (v := nI (i + 1)) (q := 77) C dX4_move_74 rfl (by rw [hN]; decide) (nI_1 i) ?_
        refine g_goto (tgt := 23) C dX4_move_77 (by decide) ?_
        first
          | exact ih (i + 1) _ (by omega) (LI_y hI hst)
          | (rw [h102] at c_37
             exact ih (i + 1) _ (by omega) (LI_n hI (st_n1 c_37)))
          | (rw [h102] at c_48
             exact ih (i + 1) _ (by omega) (LI_n hI (st_n2 c_48)))
def WYI (fl pa nu : Nat → Int32) (nF nP k : Nat) (a a0 : Nat → Nat → Int32) : Prop := (∀ n, n ≠ 107 → n ≠ 108 → n ≠ 109 → n ≠ 110 → a0 n = a n) ∧ ∀ j, j < k → a0 109 j = nI ((mD fl pa nu nF nP).2.1 j) ∧ (∀ c, c < 72 → okW fl nu nF (owS pa nP j) c = true → a0 107 (72 * j + ctS (okW fl nu nF (owS pa nP j)) c) = nI c ∧ a0 108 (72 * j + ctS (okW fl nu nF (owS pa nP j)) c) = nI (lateN fl (owS pa nP j) c * szN pa (lfS pa nP j))) ∧ ∃ L, a0 110 j = nI L ∧ L ≤ 268435456 ∧ ∀ c, c < 72 → okW fl nu nF (owS pa nP j) c = true → L ≤ lateN fl (owS pa nP j) c * szN pa (lfS pa nP j)
set_option maxHeartbeats 4000000 in
set_option maxRecDepth 100000 in
theorem mv_ways {E : EN} (C : CX E cX4_move yX4_move.cls 8) (hN : eN E = 2) (I0 : IM dm a nF nP) (W : WP nF nP pa) (F : WF nF fl) (hfl : a 101 = fl) (hpa : a 102 = pa) (hnu : a 103 = nu) (h6 : stN pa nP ≤ 6) (hn9a : a 100 9 = nI (stN pa nP)) (hlf : ∀ k, k < stN pa nP → a 106 k = nI (lfS pa nP k)) (hk : ∀ a0 : Nat → Nat → Int32, WYI fl pa nu nF nP (stN pa nP) a a0 → G E 0 0 ad dm a0 b r 101 [some (.ref (ad 100)), some (.int (nI (stN pa nP)))] []) : ∀ (s k : Nat) (a0 : Nat → Nat → Int32), k + s = stN pa nP → WYI fl pa nu nF nP k a a0 → G E 0 0 ad dm a0 b r 82 [some (.ref (ad 100)), some (.int (nI k))] [] := by
  have hnF := I0.2.2.1
  have hnP := I0.2.2.2.2
  intro s
  induction s with
  | zero =>
    intro k a0 hi hI
    have I := I0.fw (hI.1 100 (by decide) (by decide) (by decide) (by decide))
    have hn9 : a0 100 9 = nI (stN pa nP) := by rw [hI.1 100 (by decide) (by decide) (by decide) (by decide)]; exact hn9a
    refine g_iload_1 (q := 83) C dX4_move_82 rfl ?_
    refine g_aload_0 (q := 84) C dX4_move_83 rfl ?_
    refine g_geti (q := 87) C f_X4_121 dX4_move_84 rfl rfl (IM.d I _ (by decide) (by decide)) ?_
    refine g_icmp_ge (tgt := 101) (q := 90) C dX4_move_87 rfl (by decide) (fun c_87 => ?_) (fun c_87 => absurd (by rw [hn9]; exact nI_le (by omega) (by omega)) c_87)
    rw [show k = stN pa nP by omega] at hI ⊢
    exact hk a0 hI
  | succ s ih =>
    intro k a0 hi hI
    have I := I0.fw (hI.1 100 (by decide) (by decide) (by decide) (by decide))
    have hn9 : a0 100 9 = nI (stN pa nP) := by rw [hI.1 100 (by decide) (by decide) (by decide) (by decide)]; exact hn9a
    have hkn : k < stN pa nP := by omega
    have h101 : a0 101 = fl := (hI.1 101 (by decide) (by decide) (by decide) (by decide)).trans hfl
    have h102 : a0 102 = pa := (hI.1 102 (by decide) (by decide) (by decide) (by decide)).trans hpa
    have h103 : a0 103 = nu := (hI.1 103 (by decide) (by decide) (by decide) (by decide)).trans hnu
    have h106 : a0 106 k = nI (lfS pa nP k) := by rw [hI.1 106 (by decide) (by decide) (by decide) (by decide)]; exact hlf k hkn
    refine g_iload_1 (q := 83) C dX4_move_82 rfl ?_
    refine g_aload_0 (q := 84) C dX4_move_83 rfl ?_
    refine g_geti (q := 87) C f_X4_121 dX4_move_84 rfl rfl (IM.d I _ (by decide) (by decide)) ?_
    refine g_icmp_ge (tgt := 101) (q := 90) C dX4_move_87 rfl (by decide) (fun c_87 => absurd c_87 (by rw [hn9]; exact nI_ge (by omega) (by omega))) (fun c_87 => ?_)
    refine g_aload_0 (q := 91) C dX4_move_90 rfl ?_
    refine g_iload_1 (q := 92) C dX4_move_91 rfl ?_
    refine g_cv1g (q := 95) C cv_X4_140 dX4_move_92 rfl rfl (IM.d I _ (by decide) (by decide)) (m_X4_findWays (fl := fl) (pa := pa) (nu := nu) (k := k) (q := lfS pa nP k) (own := owS pa nP k) (sz := szN pa (lfS pa nP k)) I (by rw [h102]; exact W) F h101 h102 h103 (by omega) (lf_ok hkn).1 h106 (ow_ok W hnF hkn).2 (ow_ok W hnF hkn).1 (sz_ok W (lf_ok hkn).1).1 (sz_ok W (lf_ok hkn).1).2.2) (by decide) (Nat.le_of_ble_eq_true rfl) ⟨Nat.zero_le _, Nat.zero_le _⟩ (fun v ad' dm' a' b' r' hp => ?_)
    obtain ⟨rfl, rfl, rfl, rfl, rfl, f1, f2, f3, f4, f5, f6, f7⟩ := hp
    change G E 0 0 _ _ a' _ _ 95 _ []
    refine g_iinc_1 (v := nI (k + 1)) (q := 98) C dX4_move_95 rfl (by rw [hN]; decide) (nI_1 k) ?_
    refine g_goto (tgt := 82) C dX4_move_98 (by decide) ?_
    refine ih (k + 1) a' (by omega) ⟨fun n n1 n2 n3 n4 => (f1 n n1 n2 n3 n4).trans (hI.1 n n1 n2 n3 n4), fun j hj => ?_⟩
    by_cases e : j = k
    · subst e
      exact ⟨f5, f6, f7⟩
    · obtain ⟨w1, w2, w3⟩ := hI.2 j (by omega)
      refine ⟨by rw [f3 j e]; exact w1, fun c hc ho => ?_, by rw [f4 j e]; exact w3⟩
      have := nw_le (nu := nu) F hnF (ow_ok W hnF (show j < stN pa nP by omega)).2
      have := ctS_lt hc ho
      rw [(f2 _ (show 72 * j + ctS (okW fl nu nF (owS pa nP j)) c < 72 * k by omega)).1, (f2 _ (show 72 * j + ctS (okW fl nu nF (owS pa nP j)) c < 72 * k by omega)).2]
      exact w2 c hc ho
def ldN (pa : Nat → Int32) (nP f : Nat) : Nat := sN pa (flyc pa (nI f)) nP
def OI (fl pa : Nat → Int32) (nP f : Nat) (a a0 : Nat → Nat → Int32) : Prop := (∀ n, n ≠ 111 → n ≠ 112 → a0 n = a n) ∧ ∀ j, j < f → a0 112 j = nI (ldN pa nP j) ∧ a0 111 j = nI (ldN pa nP j + capS fl pa nP j)
set_option maxHeartbeats 4000000 in
set_option maxRecDepth 100000 in
theorem mv_load {E : EN} (C : CX E cX4_move yX4_move.cls 8) (hN : eN E = 2) (I0 : IM dm a nF nP) (W : WP nF nP pa) (F : WF nF fl) (hfl : a 101 = fl) (hpa : a 102 = pa) (hk : ∀ a0 : Nat → Nat → Int32, OI fl pa nP nF a a0 → G E 0 0 ad dm a0 b r 149 [some (.ref (ad 100)), some (.int (nI nF))] []) : ∀ (s f : Nat) (a0 : Nat → Nat → Int32), f + s = nF → OI fl pa nP f a a0 → G E 0 0 ad dm a0 b r 103 [some (.ref (ad 100)), some (.int (nI f))] [] := by
  have hnF := I0.2.2.1
  have hnP := I0.2.2.2.2
  intro s
  induction s with
  | zero =>
    intro f a0 hi hI
    have I := I0.fw (hI.1 100 (by decide) (by decide))
    refine g_iload_1 (q := 104) C dX4_move_103 rfl ?_
    refine g_aload_0 (q := 105) C dX4_move_104 rfl ?_
    refine g_geti (q := 108) C f_X4_56 dX4_move_105 rfl rfl (IM.d I _ (by decide) (by decide)) ?_
    refine g_icmp_ge (tgt := 149) (q := 111) C dX4_move_108 rfl (by decide) (fun c_108 => ?_) (fun c_108 => absurd (by rw [I.nF]; exact nI_le (by omega) (by omega)) c_108)
    have e9 : f = nF := by omega
    subst e9
    exact hk a0 hI
  | succ s ih =>
    intro f a0 hi hI
    have I := I0.fw (hI.1 100 (by decide) (by decide))
    have h101 : a0 101 = fl := (hI.1 101 (by decide) (by decide)).trans hfl
    have h102 : a0 102 = pa := (hI.1 102 (by decide) (by decide)).trans hpa
    obtain ⟨se, s1, s2, es⟩ := (F f (by omega)).2.2.2.2.1
    have hld := sN_le W (flyc pa (nI f)) (Nat.le_refl nP)
    refine g_iload_1 (q := 104) C dX4_move_103 rfl ?_
    refine g_aload_0 (q := 105) C dX4_move_104 rfl ?_
    refine g_geti (q := 108) C f_X4_56 dX4_move_105 rfl rfl (IM.d I _ (by decide) (by decide)) ?_
    refine g_icmp_ge (tgt := 149) (q := 111) C dX4_move_108 rfl (by decide) (fun c_108 => absurd c_108 (by rw [I.nF]; exact nI_ge (by omega) (by omega))) (fun c_108 => ?_)
    refine g_aload_0 (q := 112) C dX4_move_111 rfl ?_
    refine g_getc (q := 115) (m := 112) C f_X4_43 dX4_move_112 rfl rfl (IM.d I _ (by decide) (by decide)) ?_
    refine g_iload_1 (q := 116) C dX4_move_115 rfl ?_
    refine g_aload_0 (q := 117) C dX4_move_116 rfl ?_
    refine g_iload_1 (q := 118) C dX4_move_117 rfl ?_
    refine g_cv1i (q := 121) C cv_X4_77 dX4_move_118 rfl rfl (IM.d I _ (by decide) (by decide)) (m_X4_load I _) (by decide) (Nat.le_of_ble_eq_true rfl) ⟨Nat.zero_le _, Nat.zero_le _⟩ ?_
    rw [h102, ldS_N W]
    refine g_iast (q := 122) C dX4_move_121 rfl rfl (IM.d I _ (by decide) (by decide)) rfl (by omega) (by decide) ?_
    have I := I.u (n := 112) (k := f) (x := nI (sN pa (flyc pa (nI f)) nP)) (by decide)
    refine g_aload_0 (q := 123) C dX4_move_122 rfl ?_
    refine g_getc (q := 126) (m := 111) C f_X4_40 dX4_move_123 rfl rfl (IM.d I _ (by decide) (by decide)) ?_
    refine g_iload_1 (q := 127) C dX4_move_126 rfl ?_
    refine g_aload_0 (q := 128) C dX4_move_127 rfl ?_
    refine g_getc (q := 131) (m := 112) C f_X4_43 dX4_move_128 rfl rfl (IM.d I _ (by decide) (by decide)) ?_
    refine g_iload_1 (q := 132) C dX4_move_131 rfl ?_
    refine g_ia (q := 133) C dX4_move_132 rfl rfl (IM.d I _ (by decide) (by decide)) rfl (by omega) (by decide) ?_
    refine g_aload_0 (q := 134) C dX4_move_133 rfl ?_
    refine g_iload_1 (q := 135) C dX4_move_134 rfl ?_
    refine g_iconst (v := 4) (q := 136) C dX4_move_135 rfl (by decide) ?_
    refine g_cv2i (q := 139) C cv_X4_74 dX4_move_136 rfl rfl (IM.d I _ (by decide) (by decide)) (m_X4_of7 I (k := 4) (by omega) rfl rfl) (by decide) (Nat.le_of_ble_eq_true rfl) ⟨Nat.zero_le _, Nat.zero_le _⟩ ?_
    refine g_mmax (q := 142) C cm_X4_81 dX4_move_139 rfl (by decide) (Nat.le_of_ble_eq_true rfl) ⟨Nat.zero_le _, Nat.zero_le _⟩ ?_
    rw [u2_s, u2_n (show (101 : Nat) ≠ 112 by decide), h101, es, mx_N (by omega) (by omega)]
    refine g_iast (q := 143) C dX4_move_142 rfl rfl (IM.d I _ (by decide) (by decide)) rfl (by omega) (by decide) ?_
    refine g_iinc_1 (v := nI (f + 1)) (q := 146) C dX4_move_143 rfl (by rw [hN]; decide) (nI_1 f) ?_
    refine g_goto (tgt := 103) C dX4_move_146 (by decide) ?_
    refine ih (f + 1) _ (by omega) ⟨fun n n1 n2 => by rw [u2_n n1, u2_n n2]; exact hI.1 n n1 n2, fun j hj => ?_⟩
    by_cases e : j = f
    · subst e
      refine ⟨by rw [u2_n (show (112 : Nat) ≠ 111 by decide), u2_s]; rfl, ?_⟩
      rw [u2_s]
      congr 1
      unfold capS ldN
      rw [es, cN_nI (by omega)]
      omega
    · rw [u2_n (show (112 : Nat) ≠ 111 by decide), u2_k e, u2_k e, u2_n (show (111 : Nat) ≠ 112 by decide)]
      exact hI.2 j (by omega)
set_option maxHeartbeats 4000000 in
set_option maxRecDepth 100000 in
theorem mv_put {E : EN} (C : CX E cX4_move yX4_move.cls 8) (hN : eN E = 2) {P : PO} (RT9 : RT E 0 0 (some .int) P) (I0 : IM dm a nF nP) (h6 : stN pa nP ≤ 6) {z : Nat → Nat} (hco : CO (mD fl pa nu nF nP) (stN pa nP) nF) (hn9a : a 100 9 = nI (stN pa nP)) (hlf : ∀ k, k < stN pa nP → a 106 k = nI (lfS pa nP k)) (h114a : ∀ k, k < stN pa nP → a 114 k = enW (mD fl pa nu nF nP) k (z k)) (hP : ∀ k, k = stN pa nP → P (some (.int (a 100 18))) ad dm (up1 a 102 (mvF (mD fl pa nu nF nP) pa nP z (fun i => decide (i < k)))) b r) : ∀ (s k : Nat) (a0 : Nat → Nat → Int32), k + s = stN pa nP → a0 = up1 a 102 (mvF (mD fl pa nu nF nP) pa nP z (fun i => decide (i < k))) → G E 0 0 ad dm a0 b r 168 [some (.ref (ad 100)), some (.int (nI k))] [] := by
  have hnF := I0.2.2.1
  have hnP := I0.2.2.2.2
  intro s
  induction s with
  | zero =>
    intro k a0 hi hI
    have I := I0.up (n := 102) (f := mvF (mD fl pa nu nF nP) pa nP z (fun i => decide (i < k))) (by decide)
    rw [← hI] at I
    have hn9 : a0 100 9 = nI (stN pa nP) := by rw [hI, up1_n (by decide)]; exact hn9a
    refine g_iload_1 (q := 169) C dX4_move_168 rfl ?_
    refine g_aload_0 (q := 170) C dX4_move_169 rfl ?_
    refine g_geti (q := 173) C f_X4_121 dX4_move_170 rfl rfl (IM.d I _ (by decide) (by decide)) ?_
    refine g_icmp_ge (tgt := 239) (q := 176) C dX4_move_173 rfl (by decide) (fun c_173 => ?_) (fun c_173 => absurd (by rw [hn9]; exact nI_le (by omega) (by omega)) c_173)
    refine g_aload_0 (q := 240) C dX4_move_239 rfl ?_
    refine g_geti (q := 243) C f_X4_124 dX4_move_240 rfl rfl (IM.d I _ (by decide) (by decide)) ?_
    exact g_iret C RT9 dX4_move_243 (by rw [hI]; rw [up1_n (show (100 : Nat) ≠ 102 by decide)]; exact hP k (by omega))
  | succ s ih =>
    intro k a0 hi hI
    have I := I0.up (n := 102) (f := mvF (mD fl pa nu nF nP) pa nP z (fun i => decide (i < k))) (by decide)
    rw [← hI] at I
    have hn9 : a0 100 9 = nI (stN pa nP) := by rw [hI, up1_n (by decide)]; exact hn9a
    have hkn : k < stN pa nP := by omega
    have hlk := (lf_ok hkn).1
    have h106 : a0 106 k = nI (lfS pa nP k) := by rw [hI, up1_n (by decide)]; exact hlf k hkn
    have h114 : a0 114 k = enW (mD fl pa nu nF nP) k (z k) := by rw [hI, up1_n (by decide)]; exact h114a k hkn
    have hdd : ∀ i, i ≠ k → decide (i < k) = decide (i < k + 1) := fun i hi => by
      rcases Nat.lt_or_ge i k with h | h
      · rw [decide_eq_true h, decide_eq_true (by omega)]
      · rw [decide_eq_false (by omega), decide_eq_false (by omega)]
    refine g_iload_1 (q := 169) C dX4_move_168 rfl ?_
    refine g_aload_0 (q := 170) C dX4_move_169 rfl ?_
    refine g_geti (q := 173) C f_X4_121 dX4_move_170 rfl rfl (IM.d I _ (by decide) (by decide)) ?_
    refine g_icmp_ge (tgt := 239) (q := 176) C dX4_move_173 rfl (by decide) (fun c_173 => absurd c_173 (by rw [hn9]; exact nI_ge (by omega) (by omega))) (fun c_173 => ?_)
    refine g_aload_0 (q := 177) C dX4_move_176 rfl ?_
    refine g_getc (q := 180) (m := 114) C f_X4_49 dX4_move_177 rfl rfl (IM.d I _ (by decide) (by decide)) ?_
    refine g_iload_1 (q := 181) C dX4_move_180 rfl ?_
    refine g_ia (q := 182) C dX4_move_181 rfl rfl (IM.d I _ (by decide) (by decide)) rfl (by omega) (by decide) ?_
    refine g_iconst (v := (-1)) (q := 183) C dX4_move_182 rfl (by decide) ?_
    rw [h114, enW]
    refine g_icmp_ne (tgt := 189) (q := 186) C dX4_move_183 rfl (by decide) (fun c_183 => ?_) (fun c_183 => ?_)
    · have hzk : z k < (mD fl pa nu nF nP).2.1 k := by
        by_cases h9 : z k < (mD fl pa nu nF nP).2.1 k
        · exact h9
        · rw [if_neg h9] at c_183
          exact absurd rfl c_183
      obtain ⟨c1, c2, c3⟩ := hco k hkn _ hzk
      refine g_aload_0 (q := 190) C dX4_move_189 rfl ?_
      refine g_aload_0 (q := 191) C dX4_move_190 rfl ?_
      refine g_getc (q := 194) (m := 106) C f_X4_25 dX4_move_191 rfl rfl (IM.d I _ (by decide) (by decide)) ?_
      refine g_iload_1 (q := 195) C dX4_move_194 rfl ?_
      refine g_ia (q := 196) C dX4_move_195 rfl rfl (IM.d I _ (by decide) (by decide)) rfl (by omega) (by decide) ?_
      refine g_bipush (v := 7) (q := 198) C dX4_move_196 rfl (by decide) ?_
      refine g_aload_0 (q := 199) C dX4_move_198 rfl ?_
      refine g_getc (q := 202) (m := 114) C f_X4_49 dX4_move_199 rfl rfl (IM.d I _ (by decide) (by decide)) ?_
      refine g_iload_1 (q := 203) C dX4_move_202 rfl ?_
      refine g_ia (q := 204) C dX4_move_203 rfl rfl (IM.d I _ (by decide) (by decide)) rfl (by omega) (by decide) ?_
      rw [h114, enW, if_pos hzk]
      refine g_bipush (v := 9) (q := 206) C dX4_move_204 rfl (by decide) ?_
      refine g_idiv (q := 207) C dX4_move_206 rfl (by decide) ?_
      rw [show (9 : Int32) = nI 9 from rfl, pk_div (by omega) (by decide) (by decide)]
      refine g_cv3v (q := 210) C cv_X4_106 dX4_move_207 rfl rfl (IM.d I _ (by decide) (by decide)) (m_X4_put I (p := lfS pa nP k) (k := 7) (by omega) h106 rfl _) (by decide) (Nat.le_of_ble_eq_true rfl) ⟨Nat.zero_le _, Nat.zero_le _⟩ ?_
      have I := I.u (n := 102) (k := 9 * lfS pa nP k + 7) (x := nI ((mD fl pa nu nF nP).2.2.1 k (z k) / 9)) (by decide)
      refine g_aload_0 (q := 211) C dX4_move_210 rfl ?_
      refine g_aload_0 (q := 212) C dX4_move_211 rfl ?_
      refine g_getc (q := 215) (m := 106) C f_X4_25 dX4_move_212 rfl rfl (IM.d I _ (by decide) (by decide)) ?_
      refine g_iload_1 (q := 216) C dX4_move_215 rfl ?_
      refine g_ia (q := 217) C dX4_move_216 rfl rfl (IM.d I _ (by decide) (by decide)) rfl (by omega) (by decide) ?_
      refine g_bipush (v := 8) (q := 219) C dX4_move_217 rfl (by decide) ?_
      refine g_aload_0 (q := 220) C dX4_move_219 rfl ?_
      refine g_getc (q := 223) (m := 114) C f_X4_49 dX4_move_220 rfl rfl (IM.d I _ (by decide) (by decide)) ?_
      refine g_iload_1 (q := 224) C dX4_move_223 rfl ?_
      refine g_ia (q := 225) C dX4_move_224 rfl rfl (IM.d I _ (by decide) (by decide)) rfl (by omega) (by decide) ?_
      rw [u2_n (show (114 : Nat) ≠ 102 by decide), h114, enW, if_pos hzk]
      refine g_bipush (v := 9) (q := 227) C dX4_move_225 rfl (by decide) ?_
      refine g_irem (q := 228) C dX4_move_227 rfl (by decide) ?_
      rw [show (9 : Int32) = nI 9 from rfl, pk_rem (by omega) (by decide) (by decide)]
      refine g_iconst (v := 1) (q := 229) C dX4_move_228 rfl (by decide) ?_
      refine g_isub (q := 230) C dX4_move_229 rfl ?_
      refine g_cv3v (q := 233) C cv_X4_106 dX4_move_230 rfl rfl (IM.d I _ (by decide) (by decide)) (m_X4_put I (p := lfS pa nP k) (k := 8) (by omega) (by rw [u2_n (show (106 : Nat) ≠ 102 by decide)]; exact h106) rfl _) (by decide) (Nat.le_of_ble_eq_true rfl) ⟨Nat.zero_le _, Nat.zero_le _⟩ ?_
      refine g_iinc_1 (v := nI (k + 1)) (q := 236) C dX4_move_233 rfl (by rw [hN]; decide) (nI_1 k) ?_
      refine g_goto (tgt := 168) C dX4_move_236 (by decide) ?_
      first
        | (have hzk : ¬ z k < (mD fl pa nu nF nP).2.1 k := fun h9 => by
             rw [if_pos h9] at c_183
             obtain ⟨c1, c2, c3⟩ := hco k hkn _ h9
             exact nI_m1 (by omega) c_183
           refine ih (k + 1) _ (by omega) ?_
           rw [hI, mvF_n (D := mD fl pa nu nF nP) (c := fun i => decide (i < k)) (d := fun i => decide (i < k + 1)) (k := k) hdd hzk])
        | (refine ih (k + 1) _ (by omega) ?_
           rw [hI, u2_up, u2_up, mvF_y (D := mD fl pa nu nF nP) (c := fun i => decide (i < k)) (d := fun i => decide (i < k + 1)) (k := k) hkn hdd (by simp) (by simp) hzk])
    · refine g_goto (tgt := 233) C dX4_move_186 (by decide) ?_
      refine g_iinc_1 (v := nI (k + 1)) (q := 236) C dX4_move_233 rfl (by rw [hN]; decide) (nI_1 k) ?_
      refine g_goto (tgt := 168) C dX4_move_236 (by decide) ?_
      first
        | (have hzk : ¬ z k < (mD fl pa nu nF nP).2.1 k := fun h9 => by
             rw [if_pos h9] at c_183
             obtain ⟨c1, c2, c3⟩ := hco k hkn _ h9
             exact nI_m1 (by omega) c_183
           refine ih (k + 1) _ (by omega) ?_
           rw [hI, mvF_n (D := mD fl pa nu nF nP) (c := fun i => decide (i < k)) (d := fun i => decide (i < k + 1)) (k := k) hdd hzk])
        | (refine ih (k + 1) _ (by omega) ?_
           rw [hI, u2_up, u2_up, mvF_y (D := mD fl pa nu nF nP) (c := fun i => decide (i < k)) (d := fun i => decide (i < k + 1)) (k := k) hkn hdd (by simp) (by simp) hzk])
end M38
