section M35
variable {g : GM} {bs : Nat} {l : Launch} {ad : Nat → Nat} {dm : Nat → Bool} {a : Nat → Nat → Int32} {b : Nat → Nat → Int64} {r : Nat → Nat → Option Nat} {nF nP : Nat} {fl pa nu : Nat → Int32}
theorem ix72 (k n : Nat) : (72 : Int32) * nI k + nI n = nI (72 * k + n) := by
  rw [show (72 : Int32) = nI 72 from rfl, pk_mul, nI_add]
theorem cd_v (a j : Nat) : (9 : Int32) * nI a + (nI j - 1) + 1 = nI (9 * a + j) := by
  have h : ∀ x y : Int32, x + (y - 1) + 1 = x + y := fun x y => by
    rw [Int32.add_assoc, Int32.sub_add_cancel]
  rw [h, show (9 : Int32) = nI 9 from rfl, pk_mul, nI_add]
theorem nI_im (j : Nat) : nI j - 1 + 1 = nI (j + 1) - 1 := by
  rw [nI_pred, Int32.sub_add_cancel]
theorem mn_N {x y : Nat} (hx : x < 2 ^ 31) (hy : y < 2 ^ 31) : (if nI y < nI x then nI y else nI x) = nI (min x y) := by
  by_cases h : y < x
  · rw [if_pos ((nI_ltI hy hx).mpr h), Nat.min_eq_right (by omega)]
  · rw [if_neg (fun z => h ((nI_ltI hy hx).mp z)), Nat.min_eq_left (by omega)]
/-- late by a code -/
theorem lb_ok (F : WF nF fl) (hn : nF ≤ 8) {own i j : Nat} (ho : own < nF) (hi : i < nF) (hj : j ≤ nF) : lbI fl nu nF own (nI i) (nI j - 1) = if okW fl nu nF own (9 * i + j) = true then nI (lateN fl own (9 * i + j)) else -1 := by
  rw [lbI, if_pos (fok_i hi (by omega)), cN_nI (by omega)]
  cases j with
  | zero =>
    rw [if_pos (show nI 0 - 1 = -1 by decide), Nat.add_zero, okW_0 hi, lbS]
    by_cases h : wyS fl nu own i none = true
    · rw [if_pos h, if_pos h, lateN, lastW, cB_0, show 9 * i / 9 = i by omega]
      exact (lt_ok F ho hi).1
    · rw [if_neg h, if_neg h]
  | succ b =>
    rw [nI_pred, if_neg (nI_m1 (by omega)), if_pos (fok_i (by omega) (by omega)), cN_nI (by omega), okW_s hn hi (by omega), lbS]
    by_cases h : wyS fl nu own i (some b) = true
    · rw [if_pos h, if_pos h, lateN, lastW, cB_s (by omega)]
      exact (lt_ok F ho (show b < nF by omega)).1
    · rw [if_neg h, if_neg h]
theorem late_le (F : WF nF fl) {own c : Nat} (ho : own < nF) (h : okW fl nu nF own c = true) : lateN fl own c ≤ 9999 := (lt_ok F ho (lastW_lt h)).2
def FWI (fl nu : Nat → Int32) (nF own sz k m : Nat) (a a0 : Nat → Nat → Int32) : Prop := (∀ n, n ≠ 107 → n ≠ 108 → n ≠ 109 → n ≠ 110 → a0 n = a n) ∧ (∀ j, j < 72 * k → a0 107 j = a 107 j ∧ a0 108 j = a 108 j) ∧ a0 109 = a 109 ∧ (∀ j, j ≠ k → a0 110 j = a 110 j) ∧ (∀ c, c < m → okW fl nu nF own c = true → a0 107 (72 * k + ctS (okW fl nu nF own) c) = nI c ∧ a0 108 (72 * k + ctS (okW fl nu nF own) c) = nI (lateN fl own c * sz)) ∧ ∃ L, a0 110 k = nI L ∧ L ≤ 268435456 ∧ ∀ c, c < m → okW fl nu nF own c = true → L ≤ lateN fl own c * sz
theorem IM.fw {a0 : Nat → Nat → Int32} (h : IM dm a nF nP) (hf : a0 100 = a 100) : IM dm a0 nF nP := ⟨h.1, by rw [hf]; exact h.2.1, h.2.2.1, by rw [hf]; exact h.2.2.2.1, h.2.2.2.2⟩
theorem FWI_n {own sz k m : Nat} {a0 : Nat → Nat → Int32} (h : FWI fl nu nF own sz k m a a0) (hm : ¬ okW fl nu nF own m = true) : FWI fl nu nF own sz k (m + 1) a a0 := by
  obtain ⟨h1, h2, h3, h4, h5, L, l1, l2, l3⟩ := h
  refine ⟨h1, h2, h3, h4, fun c hc ho => ?_, L, l1, l2, fun c hc ho => ?_⟩
  · by_cases e : c = m
    · subst e; exact absurd ho hm
    · exact h5 c (by omega) ho
  · by_cases e : c = m
    · subst e; exact absurd ho hm
    · exact l3 c (by omega) ho
theorem FWI_y {own sz k m : Nat} {a0 : Nat → Nat → Int32} {vm : Int32} (h : FWI fl nu nF own sz k m a a0) (hm : okW fl nu nF own m = true) (hl : lateN fl own m * sz < 2 ^ 30) (hv : ∀ L, a0 110 k = nI L → L ≤ 268435456 → vm = nI (min L (lateN fl own m * sz))) : FWI fl nu nF own sz k (m + 1) a (u2 (u2 (u2 a0 107 (72 * k + ctS (okW fl nu nF own) m) (nI m)) 108 (72 * k + ctS (okW fl nu nF own) m) (nI (lateN fl own m * sz))) 110 k vm) := by
  obtain ⟨h1, h2, h3, h4, h5, L, l1, l2, l3⟩ := h
  have hv := hv L l1 l2
  refine ⟨fun n n1 n2 n3 n4 => by rw [u2_n n4, u2_n n2, u2_n n1]; exact h1 n n1 n2 n3 n4, fun j hj => ?_, by rw [u2_n (by decide), u2_n (by decide), u2_n (by decide)]; exact h3, fun j hj => by rw [u2_k hj, u2_n (by decide), u2_n (by decide)]; exact h4 j hj, fun c hc ho => ?_, min L (lateN fl own m * sz), by rw [u2_s]; exact hv, by omega, fun c hc ho => ?_⟩
  · rw [u2_n (by decide), u2_n (by decide), u2_k (by omega), u2_n (by decide), u2_k (by omega), u2_n (by decide)]
    exact h2 j hj
  · by_cases e : c = m
    · subst e
      refine ⟨?_, ?_⟩
      · rw [u2_n (show (107 : Nat) ≠ 110 by decide), u2_n (show (107 : Nat) ≠ 108 by decide), u2_s]
      · rw [u2_n (show (108 : Nat) ≠ 110 by decide), u2_s]
    · have := ctS_lt (show c < m by omega) ho
      refine ⟨?_, ?_⟩
      · rw [u2_n (show (107 : Nat) ≠ 110 by decide), u2_n (show (107 : Nat) ≠ 108 by decide), u2_k (by omega)]
        exact (h5 c (by omega) ho).1
      · rw [u2_n (show (108 : Nat) ≠ 110 by decide), u2_k (by omega), u2_n (show (108 : Nat) ≠ 107 by decide)]
        exact (h5 c (by omega) ho).2
  · by_cases e : c = m
    · subst e; exact Nat.min_le_right _ _
    · have := l3 c (by omega) ho
      omega
theorem FWI_skip {own sz k m m2 : Nat} {a0 : Nat → Nat → Int32} (h : FWI fl nu nF own sz k m a a0) (hm : m ≤ m2) (hs : ∀ c, m ≤ c → c < m2 → okW fl nu nF own c = false) : FWI fl nu nF own sz k m2 a a0 := by
  obtain ⟨h1, h2, h3, h4, h5, L, l1, l2, l3⟩ := h
  refine ⟨h1, h2, h3, h4, fun c hc ho => ?_, L, l1, l2, fun c hc ho => ?_⟩
  · by_cases e : c < m
    · exact h5 c e ho
    · rw [hs c (by omega) hc] at ho; cases ho
  · by_cases e : c < m
    · exact l3 c e ho
    · rw [hs c (by omega) hc] at ho; cases ho
set_option maxHeartbeats 4000000 in
set_option maxRecDepth 100000 in
theorem fw_in {E : EN} (C : CX E cX4_findWays yX4_findWays.cls 3) (hN : eN E = 6) (I0 : IM dm a nF nP) (W : WP nF nP (a 102)) (F : WF nF fl) (hfl : a 101 = fl) (hpa : a 102 = pa) (hnu : a 103 = nu) {k q own sz i : Nat} (hk6 : k < 6) (hq : q < nP) (hlf : a 106 k = nI q) (ho : own < nF) (eo : pa (9 * q) = nI own) (es : pa (9 * q + 1) = nI sz) (hsz : sz ≤ 6) (hi : i < nF) (hk : ∀ (a0 : Nat → Nat → Int32) (e5 : Option Value), FWI fl nu nF own sz k (9 * i + (nF + 1)) a a0 → G E 0 0 ad dm a0 b r 136 [some (.ref (ad 100)), some (.int (nI k)), some (.int (nI (ctS (okW fl nu nF own) (9 * i + (nF + 1))))), some (.int (nI i)), some (.int (nI (nF + 1) - 1)), e5] []) : ∀ (t j : Nat) (a0 : Nat → Nat → Int32) (e5 : Option Value), j + t = nF + 1 → FWI fl nu nF own sz k (9 * i + j) a a0 → G E 0 0 ad dm a0 b r 23 [some (.ref (ad 100)), some (.int (nI k)), some (.int (nI (ctS (okW fl nu nF own) (9 * i + j)))), some (.int (nI i)), some (.int (nI j - 1)), e5] [] := by
  have hnF := I0.2.2.1
  have hnP := I0.2.2.2.2
  intro t
  induction t with
  | zero =>
    intro j a0 e5 hj hI
    have I := I0.fw (hI.1 100 (by decide) (by decide) (by decide) (by decide))
    refine g_iload_4 (q := 25) C dX4_findWays_23 rfl ?_
    refine g_aload_0 (q := 26) C dX4_findWays_25 rfl ?_
    refine g_geti (q := 29) C f_X4_56 dX4_findWays_26 rfl rfl (IM.d I _ (by decide) (by decide)) ?_
    refine g_icmp_ge (tgt := 136) (q := 32) C dX4_findWays_29 rfl (by decide) (fun c_29 => ?_) (fun c_29 => absurd (by rw [I.nF, show j = nF + 1 by omega, nI_pred]; exact nI_le (by omega) (by omega)) c_29)
    rw [show j = nF + 1 by omega] at hI ⊢
    exact hk a0 e5 hI
  | succ t ih =>
    intro j a0 e5 hj hI
    have I := I0.fw (hI.1 100 (by decide) (by decide) (by decide) (by decide))
    have h101 : a0 101 = fl := (hI.1 101 (by decide) (by decide) (by decide) (by decide)).trans hfl
    have h102 : a0 102 = pa := (hI.1 102 (by decide) (by decide) (by decide) (by decide)).trans hpa
    have h103 : a0 103 = nu := (hI.1 103 (by decide) (by decide) (by decide) (by decide)).trans hnu
    have h106 : a0 106 k = nI q := by rw [hI.1 106 (by decide) (by decide) (by decide) (by decide)]; exact hlf
    have Wk : WP nF nP (a0 102) := by rw [h102, ← hpa]; exact W
    refine g_iload_4 (q := 25) C dX4_findWays_23 rfl ?_
    refine g_aload_0 (q := 26) C dX4_findWays_25 rfl ?_
    refine g_geti (q := 29) C f_X4_56 dX4_findWays_26 rfl rfl (IM.d I _ (by decide) (by decide)) ?_
    refine g_icmp_ge (tgt := 136) (q := 32) C dX4_findWays_29 rfl (by decide) (fun c_29 => absurd c_29 (by rw [I.nF, i_le, nm1 (n := j) (by omega), nI_toInt (by omega)]; omega)) (fun c_29 => ?_)
    refine g_aload_0 (q := 33) C dX4_findWays_32 rfl ?_
    refine g_aload_0 (q := 34) C dX4_findWays_33 rfl ?_
    refine g_getc (q := 37) (m := 106) C f_X4_25 dX4_findWays_34 rfl rfl (IM.d I _ (by decide) (by decide)) ?_
    refine g_iload_1 (q := 38) C dX4_findWays_37 rfl ?_
    refine g_ia (q := 39) C dX4_findWays_38 rfl rfl (IM.d I _ (by decide) (by decide)) rfl (by omega) (by decide) ?_
    refine g_iload_3 (q := 40) C dX4_findWays_39 rfl ?_
    refine g_iload_4 (q := 42) C dX4_findWays_40 rfl ?_
    refine g_cv3i (q := 45) C cv_X4_114 dX4_findWays_42 rfl rfl (IM.d I _ (by decide) (by decide)) (m_X4_lateBy I Wk hq h106 _ _) (by decide) (Nat.le_of_ble_eq_true rfl) ⟨Nat.zero_le _, Nat.zero_le _⟩ ?_
    rw [h101, h103, h102, eo, cN_nI (by omega), lb_ok F hnF ho hi (show j ≤ nF by omega)]
    refine g_istore_5 (q := 47) C dX4_findWays_45 rfl (by rw [hN]; decide) rfl ?_
    refine g_iload_5 (q := 49) C dX4_findWays_47 rfl ?_
    refine g_iconst (v := (-1)) (q := 50) C dX4_findWays_49 rfl (by decide) ?_
    refine g_icmp_ne (tgt := 56) (q := 53) C dX4_findWays_50 rfl (by decide) (fun c_50 => ?_) (fun c_50 => ?_)
    · have hok : okW fl nu nF own (9 * i + j) = true := by
        by_cases h9 : okW fl nu nF own (9 * i + j) = true
        · exact h9
        · rw [if_neg h9] at c_50
          exact absurd rfl c_50
      rw [if_pos hok]
      have hl9 := late_le F ho hok
      have hct := ctS_le (okW fl nu nF own) (9 * i + j)
      have hm9 : lateN fl own (9 * i + j) * sz ≤ 9999 * 6 := Nat.mul_le_mul hl9 hsz
      refine g_aload_0 (q := 57) C dX4_findWays_56 rfl ?_
      refine g_getc (q := 60) (m := 107) C f_X4_28 dX4_findWays_57 rfl rfl (IM.d I _ (by decide) (by decide)) ?_
      refine g_bipush (v := 72) (q := 62) C dX4_findWays_60 rfl (by decide) ?_
      refine g_iload_1 (q := 63) C dX4_findWays_62 rfl ?_
      refine g_imul (q := 64) C dX4_findWays_63 rfl ?_
      refine g_iload_2 (q := 65) C dX4_findWays_64 rfl ?_
      refine g_iadd (q := 66) C dX4_findWays_65 rfl ?_
      refine g_bipush (v := 9) (q := 68) C dX4_findWays_66 rfl (by decide) ?_
      refine g_iload_3 (q := 69) C dX4_findWays_68 rfl ?_
      refine g_imul (q := 70) C dX4_findWays_69 rfl ?_
      refine g_iload_4 (q := 72) C dX4_findWays_70 rfl ?_
      refine g_iadd (q := 73) C dX4_findWays_72 rfl ?_
      refine g_iconst (v := 1) (q := 74) C dX4_findWays_73 rfl (by decide) ?_
      refine g_iadd (q := 75) C dX4_findWays_74 rfl ?_
      rw [cd_v]
      refine g_iast (q := 76) C dX4_findWays_75 rfl rfl (IM.d I _ (by decide) (by decide)) (ix72 _ _) (by omega) (by decide) ?_
      have I := I.u (n := 107) (k := 72 * k + ctS (okW fl nu nF own) (9 * i + j)) (x := nI (9 * i + j)) (by decide)
      refine g_aload_0 (q := 77) C dX4_findWays_76 rfl ?_
      refine g_getc (q := 80) (m := 108) C f_X4_31 dX4_findWays_77 rfl rfl (IM.d I _ (by decide) (by decide)) ?_
      refine g_bipush (v := 72) (q := 82) C dX4_findWays_80 rfl (by decide) ?_
      refine g_iload_1 (q := 83) C dX4_findWays_82 rfl ?_
      refine g_imul (q := 84) C dX4_findWays_83 rfl ?_
      refine g_iload_2 (q := 85) C dX4_findWays_84 rfl ?_
      refine g_iadd (q := 86) C dX4_findWays_85 rfl ?_
      refine g_iload_5 (q := 88) C dX4_findWays_86 rfl ?_
      refine g_aload_0 (q := 89) C dX4_findWays_88 rfl ?_
      refine g_aload_0 (q := 90) C dX4_findWays_89 rfl ?_
      refine g_getc (q := 93) (m := 106) C f_X4_25 dX4_findWays_90 rfl rfl (IM.d I _ (by decide) (by decide)) ?_
      refine g_iload_1 (q := 94) C dX4_findWays_93 rfl ?_
      refine g_ia (q := 95) C dX4_findWays_94 rfl rfl (IM.d I _ (by decide) (by decide)) rfl (by omega) (by decide) ?_
      refine g_iconst (v := 1) (q := 96) C dX4_findWays_95 rfl (by decide) ?_
      refine g_cv2i (q := 99) C cv_X4_70 dX4_findWays_96 rfl rfl (IM.d I _ (by decide) (by decide)) (m_X4_get I (p := q) (k := 1) (by omega) (by rw [u2_n (by decide)]; exact h106) rfl) (by decide) (Nat.le_of_ble_eq_true rfl) ⟨Nat.zero_le _, Nat.zero_le _⟩ ?_
      rw [u2_n (show (102 : Nat) ≠ 107 by decide), h102, es]
      refine g_imul (q := 100) C dX4_findWays_99 rfl ?_
      rw [pk_mul]
      refine g_iast (q := 101) C dX4_findWays_100 rfl rfl (IM.d I _ (by decide) (by decide)) (ix72 _ _) (by omega) (by decide) ?_
      have I := I.u (n := 108) (k := 72 * k + ctS (okW fl nu nF own) (9 * i + j)) (x := nI (lateN fl own (9 * i + j) * sz)) (by decide)
      refine g_aload_0 (q := 102) C dX4_findWays_101 rfl ?_
      refine g_getc (q := 105) (m := 110) C f_X4_37 dX4_findWays_102 rfl rfl (IM.d I _ (by decide) (by decide)) ?_
      refine g_iload_1 (q := 106) C dX4_findWays_105 rfl ?_
      refine g_aload_0 (q := 107) C dX4_findWays_106 rfl ?_
      refine g_getc (q := 110) (m := 110) C f_X4_37 dX4_findWays_107 rfl rfl (IM.d I _ (by decide) (by decide)) ?_
      refine g_iload_1 (q := 111) C dX4_findWays_110 rfl ?_
      refine g_ia (q := 112) C dX4_findWays_111 rfl rfl (IM.d I _ (by decide) (by decide)) rfl (by omega) (by decide) ?_
      refine g_aload_0 (q := 113) C dX4_findWays_112 rfl ?_
      refine g_getc (q := 116) (m := 108) C f_X4_31 dX4_findWays_113 rfl rfl (IM.d I _ (by decide) (by decide)) ?_
      refine g_bipush (v := 72) (q := 118) C dX4_findWays_116 rfl (by decide) ?_
      refine g_iload_1 (q := 119) C dX4_findWays_118 rfl ?_
      refine g_imul (q := 120) C dX4_findWays_119 rfl ?_
      refine g_iload_2 (q := 121) C dX4_findWays_120 rfl ?_
      refine g_iadd (q := 122) C dX4_findWays_121 rfl ?_
      obtain ⟨L, l1, l2, l3⟩ := hI.2.2.2.2.2
      refine g_ia (q := 123) C dX4_findWays_122 rfl rfl (IM.d I _ (by decide) (by decide)) (ix72 _ _) (by omega) (by decide) ?_
      refine g_mmin (q := 126) C cm_X4_118 dX4_findWays_123 rfl (by decide) (Nat.le_of_ble_eq_true rfl) ⟨Nat.zero_le _, Nat.zero_le _⟩ ?_
      rw [u2_s, u2_n (show (110 : Nat) ≠ 108 by decide), u2_n (show (110 : Nat) ≠ 107 by decide), l1, mn_N (by omega) (by omega)]
      refine g_iast (q := 127) C dX4_findWays_126 rfl rfl (IM.d I _ (by decide) (by decide)) rfl (by omega) (by decide) ?_
      refine g_iinc_2 (v := nI (ctS (okW fl nu nF own) (9 * i + j) + 1)) (q := 130) C dX4_findWays_127 rfl (by rw [hN]; decide) (nI_1 _) ?_
      refine g_iinc_4 (v := (nI (j + 1) - 1)) (q := 133) C dX4_findWays_130 rfl (by rw [hN]; decide) (nI_im j) ?_
      refine g_goto (tgt := 23) C dX4_findWays_133 (by decide) ?_
      first
        | (have hok : ¬ okW fl nu nF own (9 * i + j) = true := fun h9 => by
             rw [if_pos h9] at c_50
             exact nI_m1 (by have := late_le F ho h9; omega) c_50
           have e1 : ctS (okW fl nu nF own) (9 * i + (j + 1)) = ctS (okW fl nu nF own) (9 * i + j) := by
             rw [show 9 * i + (j + 1) = 9 * i + j + 1 by omega, show ctS (okW fl nu nF own) (9 * i + j + 1) = if okW fl nu nF own (9 * i + j) = true then ctS (okW fl nu nF own) (9 * i + j) + 1 else ctS (okW fl nu nF own) (9 * i + j) from rfl, if_neg hok]
           rw [← e1]
           exact ih (j + 1) _ _ (by omega) (FWI_n hI hok))
        | (have hok : okW fl nu nF own (9 * i + j) = true := hok
           have e1 : ctS (okW fl nu nF own) (9 * i + (j + 1)) = ctS (okW fl nu nF own) (9 * i + j) + 1 := by
             rw [show 9 * i + (j + 1) = 9 * i + j + 1 by omega, show ctS (okW fl nu nF own) (9 * i + j + 1) = if okW fl nu nF own (9 * i + j) = true then ctS (okW fl nu nF own) (9 * i + j) + 1 else ctS (okW fl nu nF own) (9 * i + j) from rfl, if_pos hok]
           rw [← e1]
           exact ih (j + 1) _ _ (by omega) (FWI_y (m := 9 * i + j) hI hok (by omega) (fun L' hL hL2 => by rw [l1] at hL; rw [(nI_eq (by omega) (by omega)).mp hL])))
    · refine g_goto (tgt := 130) C dX4_findWays_53 (by decide) ?_
      refine g_iinc_4 (v := (nI (j + 1) - 1)) (q := 133) C dX4_findWays_130 rfl (by rw [hN]; decide) (nI_im j) ?_
      refine g_goto (tgt := 23) C dX4_findWays_133 (by decide) ?_
      first
        | (have hok : ¬ okW fl nu nF own (9 * i + j) = true := fun h9 => by
             rw [if_pos h9] at c_50
             exact nI_m1 (by have := late_le F ho h9; omega) c_50
           have e1 : ctS (okW fl nu nF own) (9 * i + (j + 1)) = ctS (okW fl nu nF own) (9 * i + j) := by
             rw [show 9 * i + (j + 1) = 9 * i + j + 1 by omega, show ctS (okW fl nu nF own) (9 * i + j + 1) = if okW fl nu nF own (9 * i + j) = true then ctS (okW fl nu nF own) (9 * i + j) + 1 else ctS (okW fl nu nF own) (9 * i + j) from rfl, if_neg hok]
           rw [← e1]
           exact ih (j + 1) _ _ (by omega) (FWI_n hI hok))
        | (have hok : okW fl nu nF own (9 * i + j) = true := hok
           have e1 : ctS (okW fl nu nF own) (9 * i + (j + 1)) = ctS (okW fl nu nF own) (9 * i + j) + 1 := by
             rw [show 9 * i + (j + 1) = 9 * i + j + 1 by omega, show ctS (okW fl nu nF own) (9 * i + j + 1) = if okW fl nu nF own (9 * i + j) = true then ctS (okW fl nu nF own) (9 * i + j) + 1 else ctS (okW fl nu nF own) (9 * i + j) from rfl, if_pos hok]
           rw [← e1]
           exact ih (j + 1) _ _ (by omega) (FWI_y (m := 9 * i + j) hI hok (by omega) (fun L' hL hL2 => by rw [l1] at hL; rw [(nI_eq (by omega) (by omega)).mp hL])))
set_option maxHeartbeats 4000000 in
set_option maxRecDepth 100000 in
theorem m_X4_findWays (I : IM dm a nF nP) (W : WP nF nP (a 102)) (F : WF nF fl) (hfl : a 101 = fl) (hpa : a 102 = pa) (hnu : a 103 = nu) {k q own sz : Nat} (hk6 : k < 6) (hq : q < nP) (hlf : a 106 k = nI q) (ho : own < nF) (eo : pa (9 * q) = nI own) (es : pa (9 * q + 1) = nI sz) (hsz : sz ≤ 6) : MT g bs l yX4_findWays cX4_findWays 6 none 3 0 0 [.ref (ad 100), .int (nI k)] ad dm a b r (fun v ad0 dm0 a0 b0 r0 => v = none ∧ ad0 = ad ∧ dm0 = dm ∧ b0 = b ∧ r0 = r ∧ (∀ n, n ≠ 107 → n ≠ 108 → n ≠ 109 → n ≠ 110 → a0 n = a n) ∧ (∀ j, j < 72 * k → a0 107 j = a 107 j ∧ a0 108 j = a 108 j) ∧ (∀ j, j ≠ k → a0 109 j = a 109 j) ∧ (∀ j, j ≠ k → a0 110 j = a 110 j) ∧ a0 109 k = nI (ctS (okW fl nu nF own) 72) ∧ (∀ c, c < 72 → okW fl nu nF own c = true → a0 107 (72 * k + ctS (okW fl nu nF own) c) = nI c ∧ a0 108 (72 * k + ctS (okW fl nu nF own) c) = nI (lateN fl own c * sz)) ∧ ∃ L, a0 110 k = nI L ∧ L ≤ 268435456 ∧ ∀ c, c < 72 → okW fl nu nF own c = true → L ≤ lateN fl own c * sz) := by
  refine mt_of (by decide) [some (.ref (ad 100)), some (.int (nI k)), none, none, none, none] rfl (Nat.le_of_ble_eq_true rfl) ?_
  intro E hg hbs hl hN C RT9 hcells hslots hname
  have hnF := I.2.2.1
  have hnP := I.2.2.2.2
  have I0 := I
  have lp : ∀ (t i : Nat) (a0 : Nat → Nat → Int32) (e4 e5 : Option Value), i + t = nF → FWI fl nu nF own sz k (9 * i) a a0 → G E 0 0 ad dm a0 b r 12 [some (.ref (ad 100)), some (.int (nI k)), some (.int (nI (ctS (okW fl nu nF own) (9 * i)))), some (.int (nI i)), e4, e5] [] := by
    intro t
    induction t with
    | zero =>
      intro i a0 e4 e5 hi hI
      have I := I0.fw (hI.1 100 (by decide) (by decide) (by decide) (by decide))
      have ei : i = nF := by omega
      subst ei
      have hsk : ∀ c, 9 * i ≤ c → c < 72 → okW fl nu i own c = false := fun c h1 h2 => by unfold okW; rw [decide_eq_false (p := c / 9 < i) (by omega)]; rfl
      have hI2 := FWI_skip hI (m2 := 72) (by omega) hsk
      refine g_iload_3 (q := 13) C dX4_findWays_12 rfl ?_
      refine g_aload_0 (q := 14) C dX4_findWays_13 rfl ?_
      refine g_geti (q := 17) C f_X4_56 dX4_findWays_14 rfl rfl (IM.d I _ (by decide) (by decide)) ?_
      refine g_icmp_ge (tgt := 142) (q := 20) C dX4_findWays_17 rfl (by decide) (fun c_17 => ?_) (fun c_17 => absurd (by rw [I.nF]; exact nI_le (by omega) (by omega)) c_17)
      refine g_aload_0 (q := 143) C dX4_findWays_142 rfl ?_
      refine g_getc (q := 146) (m := 109) C f_X4_34 dX4_findWays_143 rfl rfl (IM.d I _ (by decide) (by decide)) ?_
      refine g_iload_1 (q := 147) C dX4_findWays_146 rfl ?_
      refine g_iload_2 (q := 148) C dX4_findWays_147 rfl ?_
      refine g_iast (q := 149) C dX4_findWays_148 rfl rfl (IM.d I _ (by decide) (by decide)) rfl (by omega) (by decide) ?_
      exact g_vret C RT9 dX4_findWays_149 ⟨rfl, rfl, rfl, rfl, rfl, fun n n1 n2 n3 n4 => by rw [u2_n n3]; exact hI.1 n n1 n2 n3 n4, fun j hj => by rw [u2_n (by decide), u2_n (by decide)]; exact hI.2.1 j hj, fun j hj => by rw [u2_k hj, hI.2.2.1], fun j hj => by rw [u2_n (by decide)]; exact hI.2.2.2.1 j hj, by rw [u2_s]; congr 1; exact (ctS_skip (by omega) hsk).symm, fun c hc ho => by rw [u2_n (by decide), u2_n (by decide)]; exact hI2.2.2.2.2.1 c hc ho, by rw [u2_n (by decide)]; exact hI2.2.2.2.2.2⟩
    | succ t ih =>
      intro i a0 e4 e5 hi hI
      have I := I0.fw (hI.1 100 (by decide) (by decide) (by decide) (by decide))
      have hip : i < nF := by omega
      refine g_iload_3 (q := 13) C dX4_findWays_12 rfl ?_
      refine g_aload_0 (q := 14) C dX4_findWays_13 rfl ?_
      refine g_geti (q := 17) C f_X4_56 dX4_findWays_14 rfl rfl (IM.d I _ (by decide) (by decide)) ?_
      refine g_icmp_ge (tgt := 142) (q := 20) C dX4_findWays_17 rfl (by decide) (fun c_17 => absurd c_17 (by rw [I.nF]; exact nI_ge (by omega) (by omega))) (fun c_17 => ?_)
      refine g_iconst (v := (-1)) (q := 21) C dX4_findWays_20 rfl (by decide) ?_
      refine g_istore_4 (q := 23) C dX4_findWays_21 rfl (by rw [hN]; decide) rfl ?_
      refine fw_in (i := i) C hN I0 W F hfl hpa hnu hk6 hq hlf ho eo es hsz hip (fun a0' e5' hI' => ?_) (nF + 1) 0 _ _ (by omega) hI
      refine g_iinc_3 (v := nI (i + 1)) (q := 139) C dX4_findWays_136 rfl (by rw [hN]; decide) (nI_1 i) ?_
      refine g_goto (tgt := 12) C dX4_findWays_139 (by decide) ?_
      have hsk : ∀ c, 9 * i + (nF + 1) ≤ c → c < 9 * (i + 1) → okW fl nu nF own c = false := fun c h1 h2 => by
        obtain ⟨b9, e9⟩ : ∃ b9, c = 9 * i + b9 := ⟨c - 9 * i, by omega⟩
        rw [e9]
        exact okW_g (by omega) (by omega)
      have e1 : ctS (okW fl nu nF own) (9 * i + (nF + 1)) = ctS (okW fl nu nF own) (9 * (i + 1)) := (ctS_skip (by omega) hsk).symm
      rw [e1]
      exact ih (i + 1) _ _ _ (by omega) (FWI_skip hI' (by omega) hsk)
  refine g_iconst (v := 0) (q := 1) C dX4_findWays_0 rfl (by decide) ?_
  refine g_istore_2 (q := 2) C dX4_findWays_1 rfl (by rw [hN]; decide) rfl ?_
  refine g_aload_0 (q := 3) C dX4_findWays_2 rfl ?_
  refine g_getc (q := 6) (m := 110) C f_X4_37 dX4_findWays_3 rfl rfl (IM.d I _ (by decide) (by decide)) ?_
  refine g_iload_1 (q := 7) C dX4_findWays_6 rfl ?_
  refine g_ldc (q := 9) C dX4_findWays_7 rfl k_X4_98 ?_
  refine g_iast (q := 10) C dX4_findWays_9 rfl rfl (IM.d I _ (by decide) (by decide)) rfl (by omega) (by decide) ?_
  refine g_iconst (v := 0) (q := 11) C dX4_findWays_10 rfl (by decide) ?_
  refine g_istore_3 (q := 12) C dX4_findWays_11 rfl (by rw [hN]; decide) rfl ?_
  refine lp nF 0 _ _ _ (by omega) ⟨fun n n1 n2 n3 n4 => u2_n n4, fun j hj => ⟨by rw [u2_n (by decide)], by rw [u2_n (by decide)]⟩, u2_n (by decide), fun j hj => u2_k hj _, fun c hc => by omega, 268435456, u2_s, by omega, fun c hc => by omega⟩

set_option maxHeartbeats 4000000 in
set_option maxRecDepth 100000 in
theorem m_X4_hasRoom_y (I : IM dm a nF nP) {f s lo9 mo9 : Nat} (hf : f < nF) (hlo : a 112 f = nI lo9) (hmo : a 111 f = nI mo9) (hs : s ≤ 6) (hl9 : lo9 ≤ 1000) (hm9 : mo9 ≤ 1000) : MT g bs l yX4_hasRoom cX4_hasRoom 3 (some .boolean) 0 0 0 [.ref (ad 100), .int (nI f), .int (nI s)] ad dm a b r (PX (some (.int (bI (decide (lo9 + s ≤ mo9))))) ad dm a b r) := by
  refine mt_of (by decide) [some (.ref (ad 100)), some (.int (nI f)), some (.int (nI s))] rfl (Nat.le_of_ble_eq_true rfl) ?_
  intro E hg hbs hl hN C RT9 hcells hslots hname
  have hnF := I.2.2.1
  have hnP := I.2.2.2.2
  refine g_iload_1 (q := 1) C dX4_hasRoom_0 rfl ?_
  refine g_if_lt (tgt := 21) (q := 4) C dX4_hasRoom_1 rfl (by decide) (fun c_1 => absurd c_1 (nI_pos (by omega))) (fun c_1 => ?_)
  refine g_aload_0 (q := 5) C dX4_hasRoom_4 rfl ?_
  refine g_getc (q := 8) (m := 112) C f_X4_43 dX4_hasRoom_5 rfl rfl (IM.d I _ (by decide) (by decide)) ?_
  refine g_iload_1 (q := 9) C dX4_hasRoom_8 rfl ?_
  refine g_ia (q := 10) C dX4_hasRoom_9 rfl rfl (IM.d I _ (by decide) (by decide)) rfl (by omega) (by decide) ?_
  refine g_iload_2 (q := 11) C dX4_hasRoom_10 rfl ?_
  refine g_iadd (q := 12) C dX4_hasRoom_11 rfl ?_
  refine g_aload_0 (q := 13) C dX4_hasRoom_12 rfl ?_
  refine g_getc (q := 16) (m := 111) C f_X4_40 dX4_hasRoom_13 rfl rfl (IM.d I _ (by decide) (by decide)) ?_
  refine g_iload_1 (q := 17) C dX4_hasRoom_16 rfl ?_
  refine g_ia (q := 18) C dX4_hasRoom_17 rfl rfl (IM.d I _ (by decide) (by decide)) rfl (by omega) (by decide) ?_
  refine g_icmp_gt (tgt := 25) (q := 21) C dX4_hasRoom_18 rfl (by decide) (fun c_18 => ?_) (fun c_18 => ?_)
  · refine g_iconst (v := 0) (q := 26) C dX4_hasRoom_25 rfl (by decide) ?_
    exact g_zret C RT9 dX4_hasRoom_26 rfl (pxi (by rw [hlo, hmo, nI_add, nI_ltI (by omega) (by omega)] at c_18; first | (rw [decide_eq_true (by omega)]; rfl) | (rw [decide_eq_false (by omega)]; rfl)))
  · refine g_iconst (v := 1) (q := 22) C dX4_hasRoom_21 rfl (by decide) ?_
    refine g_goto (tgt := 26) C dX4_hasRoom_22 (by decide) ?_
    exact g_zret C RT9 dX4_hasRoom_26 rfl (pxi (by rw [hlo, hmo, nI_add, nI_ltI (by omega) (by omega)] at c_18; first | (rw [decide_eq_true (by omega)]; rfl) | (rw [decide_eq_false (by omega)]; rfl)))

set_option maxHeartbeats 4000000 in
set_option maxRecDepth 100000 in
theorem m_X4_hasRoom_n (s : Int32) : MT g bs l yX4_hasRoom cX4_hasRoom 3 (some .boolean) 0 0 0 [.ref (ad 100), .int (-1), .int s] ad dm a b r (PX (some (.int (1))) ad dm a b r) := by
  refine mt_of (by decide) [some (.ref (ad 100)), some (.int (-1)), some (.int s)] rfl (Nat.le_of_ble_eq_true rfl) ?_
  intro E hg hbs hl hN C RT9 hcells hslots hname
  refine g_iload_1 (q := 1) C dX4_hasRoom_0 rfl ?_
  refine g_if_lt (tgt := 21) (q := 4) C dX4_hasRoom_1 rfl (by decide) (fun c_1 => ?_) (fun c_1 => absurd (by decide) c_1)
  refine g_iconst (v := 1) (q := 22) C dX4_hasRoom_21 rfl (by decide) ?_
  refine g_goto (tgt := 26) C dX4_hasRoom_22 (by decide) ?_
  exact g_zret C RT9 dX4_hasRoom_26 rfl (px rfl)

end M35
