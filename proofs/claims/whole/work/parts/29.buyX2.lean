section D29
variable {g : GM} {bs : Nat} {l : Launch} {ad : Nat → Nat} {dm : Nat → Bool} {a : Nat → Nat → Int32} {b : Nat → Nat → Int64} {r : Nat → Nat → Option Nat} {nF nP : Nat} {fl pa nu : Nat → Int32}
theorem DP_mg (W : WP nF nP pa) {f : Int32} : ∀ {p : Nat}, p ≤ nP → ∀ s q n, DP pa f p s = some q → q.2.testBit n = true → n < p ∧ mgS pa f n = true
  | 0, _, s, q, n, h, hb => by
    unfold DP at h
    split at h
    · cases h; simp at hb
    · cases h
  | p + 1, hp, s, q, n, h, hb => by
    have ih := DP_mg W (f := f) (p := p) (by omega)
    have up : DP pa f p s = some q → n < p + 1 ∧ mgS pa f n = true := fun h => by
      have := ih s q n h hb
      exact ⟨by omega, this.2⟩
    by_cases hm : mgS pa f p = true
    · by_cases hs : szN pa p ≤ s
      · rw [DP_y hm hs] at h
        rcases mnD_or (x := DP pa f p s) (y := adD (bdN pa p * szN pa p) p (DP pa f p (s - szN pa p))) with e | e
        · rw [e] at h; exact up h
        · rw [e] at h
          unfold adD at h
          cases h9 : DP pa f p (s - szN pa p) with
          | none => rw [h9] at h; cases h
          | some w =>
            rw [h9] at h
            cases h
            dsimp only at hb
            by_cases e : n = p
            · subst e; exact ⟨by omega, hm⟩
            · have hw := (DP_bd W f (by omega) _ w h9).2.1
              by_cases h10 : n < p
              · rw [Nat.add_comm, Nat.testBit_two_pow_add_gt h10] at hb
                have := ih _ w n h9 hb
                exact ⟨by omega, this.2⟩
              · exfalso
                rw [Nat.testBit_lt_two_pow (Nat.lt_of_lt_of_le (show w.2 + 2 ^ p < 2 ^ (p + 1) by rw [Nat.pow_succ]; omega) (Nat.pow_le_pow_right (by decide) (by omega)))] at hb
                cases hb
      · rw [DP_l (by omega)] at h; exact up h
    · rw [DP_n (by simpa using hm)] at h; exact up h
theorem mg_st {f : Int32} {p : Nat} (h : mgS pa f p = true) : pa (9 * p + 5) = 0 := by
  simp [mgS] at h
  exact h.1.1.2
theorem cb_x (W : WP nF nP pa) (hn : nP ≤ 20) {f : Nat} (c : enX (cbS fl pa nP f) < 0) : cbS fl pa nP f = none := bx_none W hn rfl c
theorem cb_xs (W : WP nF nP pa) (hn : nP ≤ 20) {f : Nat} (c : ¬ enX (cbS fl pa nP f) < 0) : ∃ w, cbS fl pa nP f = some w := by
  cases h9 : cbS fl pa nP f with
  | none => exact absurd (by rw [h9]; decide) c
  | some w => exact ⟨w, rfl⟩
theorem WP_by (W : WP nF nP pa) (hnF : nF ≤ 8) {t : Nat} {c : Nat → Int32} (hc : ∀ n, n < nP → t.testBit n = true → ∃ k, k ≤ 999 ∧ c n = nI k) : ∀ {n : Nat}, n ≤ nP → WP nF nP (byP t c pa n)
  | 0, _ => W
  | n + 1, h => by
    have ih := WP_by W hnF hc (n := n) (by omega)
    unfold byP
    split
    · next hb =>
      obtain ⟨k, hk, e⟩ := hc n (by omega) hb
      exact gv_WP ih hnF (by omega) (Or.inl rfl) hk e
    · exact ih
theorem WP_bu (W : WP nF nP pa) (hnF : nF ≤ 8) (hn : nP ≤ 20) {f1 : Int32} : WP nF nP (buP fl pa nF nP f1) := by
  unfold buP
  split
  · split
    · exact W
    · next w ew =>
      obtain ⟨w1, w2, w3, w4⟩ := cb_in W hn ew
      refine WP_by W hnF (fun n h hb => ?_) (Nat.le_refl _)
      obtain ⟨h1, h2⟩ := DP_mg W (Nat.le_refl nP) _ _ n w1 hb
      have hbd := bd_ok W h h2
      exact ⟨_, hbd.2, hbd.1⟩
  · exact W
set_option maxHeartbeats 4000000 in
set_option maxRecDepth 100000 in
theorem m_X3_cost (X : XR nF nP fl pa nu dm a r) (W : WP nF nP pa) (F : WF nF fl) (f1 : Int32) : MT g bs l yX3_cost cX3_cost 5 (some .int) 4 0 0 [.ref (ad 0), .int f1] ad dm a b r (fun v ad0 dm0 a0 b0 r0 => v = some (.int (csV fl pa nF nP f1)) ∧ ad0 = ad ∧ dm0 = dm ∧ a0 = a ∧ r0 = r ∧ ∀ n, n ≠ 4 → b0 n = b n) := by
  refine mt_of (by decide) [some (.ref (ad 0)), some (.int f1), none, none, none] rfl (Nat.le_of_ble_eq_true rfl) ?_
  intro E hg hbs hl hN C RT9 hcells hslots hname
  have I := X.1
  have hnF := I.1
  have hnP := I.2.1
  refine g_aload_0 (q := 1) C dX3_cost_0 rfl ?_
  refine g_iload_1 (q := 2) C dX3_cost_1 rfl ?_
  rcases hk : fok nF f1 with _ | _
  · refine g_cv1i (q := 5) C cv_X3_53 dX3_cost_2 rfl rfl (IX.d0 I _ (by decide)) (m_X3_flightAt_n X hk) (by decide) (Nat.le_of_ble_eq_true rfl) ⟨Nat.zero_le _, Nat.zero_le _⟩ ?_
    refine g_astore_2N (q := 6) C dX3_cost_5 rfl (by rw [hN]; decide) rfl ?_
    refine g_aload_2N (q := 7) C dX3_cost_6 rfl ?_
    refine g_ifnonnullN (q := 10) C dX3_cost_7 rfl ?_
    refine g_iconst (v := (-1)) (q := 11) C dX3_cost_10 rfl (by decide) ?_
    exact g_iret C RT9 dX3_cost_11 ⟨by rw [csV, if_neg (by rw [hk]; decide)], rfl, rfl, rfl, rfl, fun _ _ => rfl⟩
  · obtain ⟨f, hf, rfl⟩ := fok_t hk (by omega)
    refine g_cv1i (q := 5) C cv_X3_53 dX3_cost_2 rfl rfl (IX.d0 I _ (by decide)) (m_X3_flightAt_y X hf) (by decide) (Nat.le_of_ble_eq_true rfl) ⟨Nat.zero_le _, Nat.zero_le _⟩ ?_
    refine g_astore_2 (q := 6) C dX3_cost_5 rfl (by rw [hN]; decide) rfl ?_
    refine g_aload_2 (q := 7) C dX3_cost_6 rfl ?_
    refine g_ifnonnull (tgt := 12) C dX3_cost_7 (by decide) ?_
    refine g_aload_0 (q := 13) C dX3_cost_12 rfl ?_
    refine g_aload_2 (q := 14) C dX3_cost_13 rfl ?_
    refine g_aload_0 (q := 15) C dX3_cost_14 rfl ?_
    refine g_aload_2 (q := 16) C dX3_cost_15 rfl ?_
    refine g_cv1i (q := 19) C cv_X3_72 dX3_cost_16 rfl rfl (IX.d0 I _ (by decide)) (m_X3_overOf X W F (by assumption)) (by decide) (Nat.le_of_ble_eq_true rfl) ⟨Nat.zero_le _, Nat.zero_le _⟩ ?_
    rw [ovS_N W F hnP hf]
    have hov9 : ovN fl pa nP f ≤ 121 := by have := ovN_le (fl := fl) W (f := f); omega
    refine g_cv2g (q := 22) C cv_X3_139 dX3_cost_19 rfl rfl (IX.d0 I _ (by decide)) (m_X3_cheapestDeal X W hf hov9) (by decide) (Nat.le_of_ble_eq_true rfl) ⟨Nat.zero_le _, Nat.zero_le _⟩ (fun v ad' dm' a' b' r' hp => ?_)
    obtain ⟨rfl, rfl, rfl, rfl, rfl, hfb⟩ := hp
    change G E 0 0 _ _ _ b' _ 22 _ [.long (enX (cbS fl pa nP f))]
    refine g_lstore_3 (q := 23) C dX3_cost_22 rfl (by rw [hN]; decide) rfl ?_
    refine g_lload_3 (q := 24) C dX3_cost_23 rfl ?_
    refine g_lconst (v := 0) (q := 25) C dX3_cost_24 rfl rfl ?_
    refine g_lcmp (q := 26) C dX3_cost_25 rfl ?_
    refine g_if_ge (tgt := 34) (q := 29) C dX3_cost_26 rfl (by decide) (fun c_26 => ?_) (fun c_26 => ?_)
    · rw [lc_ge] at c_26
      obtain ⟨w, ew⟩ := cb_xs W hnP (Int64.not_lt.mpr c_26)
      obtain ⟨w1, w2, w3, w4⟩ := cb_in W hnP ew
      have hws := ec_sm w3 w4
      rw [ew]
      show G E 0 0 _ _ _ _ _ 34 [some (.ref (_)), some (.int (nI f)), some (.ref _), some (.long (lN (ec w.2))), none] []
      refine g_lload_3 (q := 35) C dX3_cost_34 rfl ?_
      refine g_cs1i (q := 38) C cs_X3_143 dX3_cost_35 rfl (m_X3_coinOfDeal (n := ec w.2) (by omega) rfl) (by decide) (Nat.le_of_ble_eq_true rfl) ⟨Nat.zero_le _, Nat.zero_le _⟩ ?_
      exact g_iret C RT9 dX3_cost_38 ⟨by rw [csV, if_pos hk, cN_nI (by omega)]; first | (rw [ew, ec_div w4]) | rw [cb_x W hnP c_26], rfl, rfl, rfl, rfl, hfb⟩
    · have c_26 := Int32.not_le.mp c_26
      rw [lc_lt] at c_26
      refine g_bipush (v := (-2)) (q := 31) C dX3_cost_29 rfl (by decide) ?_
      refine g_goto (tgt := 38) C dX3_cost_31 (by decide) ?_
      exact g_iret C RT9 dX3_cost_38 ⟨by rw [csV, if_pos hk, cN_nI (by omega)]; first | (rw [ew, ec_div w4]) | rw [cb_x W hnP c_26], rfl, rfl, rfl, rfl, hfb⟩

set_option maxHeartbeats 4000000 in
set_option maxRecDepth 100000 in
theorem xb_loop {E : EN} (C : CX E cX3_buy yX3_buy.cls 4) (hN : eN E = 6) {P : PO} (RT9 : RT E 0 0 (some .int) P) {f : Nat} {w : Nat × (Nat × Nat)} (W : WP nF nP pa) (hnF : nF ≤ 8) (hnP : nP ≤ 20) (w1 : DP pa (nI f) nP w.1 = some w.2) (w4 : w.2.2 < 2 ^ 20) (hws : ec w.2 < 2 ^ 40) (hP : ∀ a', XR nF nP fl (byP w.2.2 (fun n => pa (9 * n + 3)) pa nP) nu dm a' r → (∀ m, 100 ≤ m → a' m = a m) → P (some (.int (nI w.2.1))) ad dm a' b r) : ∀ (n i : Nat) (a0 : Nat → Nat → Int32), i + n = nP → XR nF nP fl (byP w.2.2 (fun n => pa (9 * n + 3)) pa i) nu dm a0 r → (∀ m, 100 ≤ m → a0 m = a m) → G E 0 0 ad dm a0 b r 35 [some (.ref (ad 0)), some (.int (nI f)), some (.ref (ad (20 + f))), some (.long (lN (ec w.2))), none, some (.int (nI i))] [] := by
  have hWi : ∀ i, i ≤ nP → WP nF nP (byP w.2.2 (fun n => pa (9 * n + 3)) pa i) := fun i hi => WP_by W hnF (fun n h hb => by
    have hbd := bd_ok W h (DP_mg W (Nat.le_refl nP) _ _ n w1 hb).2
    exact ⟨_, hbd.2, hbd.1⟩) hi
  intro n
  induction n with
  | zero =>
    intro i a0 hi X hfr
    have I := X.1
    refine g_iload_5 (q := 37) C dX3_buy_35 rfl ?_
    refine g_aload_0 (q := 38) C dX3_buy_37 rfl ?_
    refine g_geti (q := 41) C f_X3_40 dX3_buy_38 rfl rfl (IX.d0 I _ (by decide)) ?_
    refine g_icmp_ge (tgt := 80) (q := 44) C dX3_buy_41 rfl (by decide) (fun c_41 => ?_) (fun c_41 => absurd (by rw [X.nP]; exact nI_le (by omega) (by omega)) c_41)
    refine g_lload_3 (q := 81) C dX3_buy_80 rfl ?_
    refine g_cs1i (q := 84) C cs_X3_143 dX3_buy_81 rfl (m_X3_coinOfDeal (n := ec w.2) (by omega) rfl) (by decide) (Nat.le_of_ble_eq_true rfl) ⟨Nat.zero_le _, Nat.zero_le _⟩ ?_
    exact g_iret C RT9 dX3_buy_84 (by rw [ec_div w4]; rw [show i = nP by omega] at X; exact hP a0 X hfr)
  | succ n ih =>
    intro i a0 hi X hfr
    have I := X.1
    have hip : i < nP := by omega
    refine g_iload_5 (q := 37) C dX3_buy_35 rfl ?_
    refine g_aload_0 (q := 38) C dX3_buy_37 rfl ?_
    refine g_geti (q := 41) C f_X3_40 dX3_buy_38 rfl rfl (IX.d0 I _ (by decide)) ?_
    refine g_icmp_ge (tgt := 80) (q := 44) C dX3_buy_41 rfl (by decide) (fun c_41 => absurd c_41 (by rw [X.nP]; exact nI_ge (by omega) (by omega))) (fun c_41 => ?_)
    refine g_lload_3 (q := 45) C dX3_buy_44 rfl ?_
    refine g_iload_5 (q := 47) C dX3_buy_45 rfl ?_
    refine g_cs2i (q := 50) C cs_X3_147 dX3_buy_47 rfl (m_X3_has (n := ec w.2) (by omega) (by omega) rfl) (by decide) (Nat.le_of_ble_eq_true rfl) ⟨Nat.zero_le _, Nat.zero_le _⟩ ?_
    refine g_ifeqb (tgt := 74) (q := 53) C dX3_buy_50 rfl (by decide) (fun c_50 => ?_) (fun c_50 => ?_)
    · refine g_iinc_5 (v := nI (i + 1)) (q := 77) C dX3_buy_74 rfl (by rw [hN]; decide) (nI_1 i) ?_
      refine g_goto (tgt := 35) C dX3_buy_77 (by decide) ?_
      first
        | (have hb : w.2.2.testBit i = true := by
             rw [q_t1] at c_50 ⊢
             rw [← ec_bit (by omega)]
             exact c_50
           have hmg := (DP_mg W (Nat.le_refl nP) _ _ i w1 hb).2
           have X2 := X.pua hip (x := 1) (y := a0 (30 + i) 3)
           rw [gv_fly (hWi i (by omega)) hip (by rw [byP_ge (by omega)]; exact mg_st hmg)] at X2
           refine ih (i + 1) _ (by omega) ?_ (fun m hm => by rw [u2_dn (by omega) (by omega)]; exact hfr m hm)
           have e3 : a0 (30 + i) 3 = pa (9 * i + 3) := by rw [(X.2.2.2.2.2.2 i hip).2.2.1 3 (by decide) (by decide), byP_ge (by omega)]
           rw [byP, if_pos hb, ← e3]
           exact X2)
        | (have hb : ¬ w.2.2.testBit i = true := by
             rw [Nat.testBit_eq_decide_div_mod_eq] at c_50 ⊢
             rw [← ec_bit (by omega), c_50]
             decide
           exact ih (i + 1) _ (by omega) (by rw [byP, if_neg hb]; exact X) hfr)
    · refine g_aload_0 (q := 54) C dX3_buy_53 rfl ?_
      refine g_getc (q := 57) (m := 2) C f_X3_17 dX3_buy_54 rfl rfl (IX.d0 I _ (by decide)) ?_
      refine g_iload_5 (q := 59) C dX3_buy_57 rfl ?_
      refine g_aaP (q := 60) C dX3_buy_59 rfl rfl (IX.d0 I _ (by decide)) rfl (by omega) (by decide) (XR.rp X (by assumption)) ?_
      refine g_iconst (v := 1) (q := 61) C dX3_buy_60 rfl (by decide) ?_
      refine g_aload_0 (q := 62) C dX3_buy_61 rfl ?_
      refine g_getc (q := 65) (m := 2) C f_X3_17 dX3_buy_62 rfl rfl (IX.d0 I _ (by decide)) ?_
      refine g_iload_5 (q := 67) C dX3_buy_65 rfl ?_
      refine g_aaP (q := 68) C dX3_buy_67 rfl rfl (IX.d0 I _ (by decide)) rfl (by omega) (by decide) (XR.rp X (by assumption)) ?_
      refine g_geti (q := 71) C f_X3_151 dX3_buy_68 rfl (IX.lp I (by assumption)) (IX.dp I (by assumption)) ?_
      refine g_cv2v (q := 74) C cv_X3_154 dX3_buy_71 rfl (IX.lp I (by assumption)) (IX.dp I (by assumption)) (m_X2_giveUp I hip _ _) (by decide) (Nat.le_of_ble_eq_true rfl) ⟨Nat.zero_le _, Nat.zero_le _⟩ ?_
      refine g_iinc_5 (v := nI (i + 1)) (q := 77) C dX3_buy_74 rfl (by rw [hN]; decide) (nI_1 i) ?_
      refine g_goto (tgt := 35) C dX3_buy_77 (by decide) ?_
      first
        | (have hb : w.2.2.testBit i = true := by
             rw [q_t1] at c_50 ⊢
             rw [← ec_bit (by omega)]
             exact c_50
           have hmg := (DP_mg W (Nat.le_refl nP) _ _ i w1 hb).2
           have X2 := X.pua hip (x := 1) (y := a0 (30 + i) 3)
           rw [gv_fly (hWi i (by omega)) hip (by rw [byP_ge (by omega)]; exact mg_st hmg)] at X2
           refine ih (i + 1) _ (by omega) ?_ (fun m hm => by rw [u2_dn (by omega) (by omega)]; exact hfr m hm)
           have e3 : a0 (30 + i) 3 = pa (9 * i + 3) := by rw [(X.2.2.2.2.2.2 i hip).2.2.1 3 (by decide) (by decide), byP_ge (by omega)]
           rw [byP, if_pos hb, ← e3]
           exact X2)
        | (have hb : ¬ w.2.2.testBit i = true := by
             rw [Nat.testBit_eq_decide_div_mod_eq] at c_50 ⊢
             rw [← ec_bit (by omega), c_50]
             decide
           exact ih (i + 1) _ (by omega) (by rw [byP, if_neg hb]; exact X) hfr)
set_option maxHeartbeats 4000000 in
set_option maxRecDepth 100000 in
theorem m_X3_buy (X : XR nF nP fl pa nu dm a r) (W : WP nF nP pa) (F : WF nF fl) (f1 : Int32) : MT g bs l yX3_buy cX3_buy 6 (some .int) 4 0 0 [.ref (ad 0), .int f1] ad dm a b r (fun v ad0 dm0 a0 b0 r0 => v = some (.int (csV fl pa nF nP f1)) ∧ ad0 = ad ∧ dm0 = dm ∧ r0 = r ∧ (∀ n, n ≠ 4 → b0 n = b n) ∧ XR nF nP fl (buP fl pa nF nP f1) nu dm a0 r ∧ ∀ m, 100 ≤ m → a0 m = a m) := by
  refine mt_of (by decide) [some (.ref (ad 0)), some (.int f1), none, none, none, none] rfl (Nat.le_of_ble_eq_true rfl) ?_
  intro E hg hbs hl hN C RT9 hcells hslots hname
  have I := X.1
  have hnF := I.1
  have hnP := I.2.1
  refine g_aload_0 (q := 1) C dX3_buy_0 rfl ?_
  refine g_iload_1 (q := 2) C dX3_buy_1 rfl ?_
  rcases hk : fok nF f1 with _ | _
  · refine g_cv1i (q := 5) C cv_X3_53 dX3_buy_2 rfl rfl (IX.d0 I _ (by decide)) (m_X3_flightAt_n X hk) (by decide) (Nat.le_of_ble_eq_true rfl) ⟨Nat.zero_le _, Nat.zero_le _⟩ ?_
    refine g_astore_2N (q := 6) C dX3_buy_5 rfl (by rw [hN]; decide) rfl ?_
    refine g_aload_2N (q := 7) C dX3_buy_6 rfl ?_
    refine g_ifnonnullN (q := 10) C dX3_buy_7 rfl ?_
    refine g_iconst (v := (-1)) (q := 11) C dX3_buy_10 rfl (by decide) ?_
    exact g_iret C RT9 dX3_buy_11 ⟨by rw [csV, if_neg (by rw [hk]; decide)], rfl, rfl, rfl, fun _ _ => rfl, by rw [buP, if_neg (by rw [hk]; decide)]; exact X, fun _ _ => rfl⟩
  · obtain ⟨f, hf, rfl⟩ := fok_t hk (by omega)
    refine g_cv1i (q := 5) C cv_X3_53 dX3_buy_2 rfl rfl (IX.d0 I _ (by decide)) (m_X3_flightAt_y X hf) (by decide) (Nat.le_of_ble_eq_true rfl) ⟨Nat.zero_le _, Nat.zero_le _⟩ ?_
    refine g_astore_2 (q := 6) C dX3_buy_5 rfl (by rw [hN]; decide) rfl ?_
    refine g_aload_2 (q := 7) C dX3_buy_6 rfl ?_
    refine g_ifnonnull (tgt := 12) C dX3_buy_7 (by decide) ?_
    refine g_aload_0 (q := 13) C dX3_buy_12 rfl ?_
    refine g_aload_2 (q := 14) C dX3_buy_13 rfl ?_
    refine g_aload_0 (q := 15) C dX3_buy_14 rfl ?_
    refine g_aload_2 (q := 16) C dX3_buy_15 rfl ?_
    refine g_cv1i (q := 19) C cv_X3_72 dX3_buy_16 rfl rfl (IX.d0 I _ (by decide)) (m_X3_overOf X W F (by assumption)) (by decide) (Nat.le_of_ble_eq_true rfl) ⟨Nat.zero_le _, Nat.zero_le _⟩ ?_
    rw [ovS_N W F hnP hf]
    have hov9 : ovN fl pa nP f ≤ 121 := by have := ovN_le (fl := fl) W (f := f); omega
    refine g_cv2g (q := 22) C cv_X3_139 dX3_buy_19 rfl rfl (IX.d0 I _ (by decide)) (m_X3_cheapestDeal X W hf hov9) (by decide) (Nat.le_of_ble_eq_true rfl) ⟨Nat.zero_le _, Nat.zero_le _⟩ (fun v ad' dm' a' b' r' hp => ?_)
    obtain ⟨rfl, rfl, rfl, rfl, rfl, hfb⟩ := hp
    change G E 0 0 _ _ _ b' _ 22 _ [.long (enX (cbS fl pa nP f))]
    refine g_lstore_3 (q := 23) C dX3_buy_22 rfl (by rw [hN]; decide) rfl ?_
    refine g_lload_3 (q := 24) C dX3_buy_23 rfl ?_
    refine g_lconst (v := 0) (q := 25) C dX3_buy_24 rfl rfl ?_
    refine g_lcmp (q := 26) C dX3_buy_25 rfl ?_
    refine g_if_ge (tgt := 32) (q := 29) C dX3_buy_26 rfl (by decide) (fun c_26 => ?_) (fun c_26 => ?_)
    · rw [lc_ge] at c_26
      obtain ⟨w, ew⟩ := cb_xs W hnP (Int64.not_lt.mpr c_26)
      obtain ⟨w1, w2, w3, w4⟩ := cb_in W hnP ew
      have hws := ec_sm w3 w4
      rw [ew]
      show G E 0 0 _ _ _ _ _ 32 [some (.ref (_)), some (.int (nI f)), some (.ref _), some (.long (lN (ec w.2))), none, none] []
      refine g_iconst (v := 0) (q := 33) C dX3_buy_32 rfl (by decide) ?_
      refine g_istore_5 (q := 35) C dX3_buy_33 rfl (by rw [hN]; decide) rfl ?_
      refine xb_loop C hN RT9 W hnF hnP w1 w4 hws (fun a' h1 h2 => ⟨by rw [csV, if_pos hk, cN_nI (by omega), ew], rfl, rfl, rfl, hfb, ?_, h2⟩) nP 0 _ (by omega) X (fun _ _ => rfl)
      rw [buP, if_pos hk, cN_nI (by omega), ew]
      exact h1
    · have c_26 := Int32.not_le.mp c_26
      rw [lc_lt] at c_26
      refine g_bipush (v := (-2)) (q := 31) C dX3_buy_29 rfl (by decide) ?_
      exact g_iret C RT9 dX3_buy_31 ⟨by rw [csV, if_pos hk, cN_nI (by omega), cb_x W hnP c_26], rfl, rfl, rfl, hfb, by rw [buP, if_pos hk, cN_nI (by omega), cb_x W hnP c_26]; exact X, fun _ _ => rfl⟩

end D29
