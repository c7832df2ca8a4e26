section R32
variable {g : GM} {bs : Nat} {l : Launch} {ad : Nat → Nat} {dm : Nat → Bool} {a : Nat → Nat → Int32} {b : Nat → Nat → Int64} {r : Nat → Nat → Option Nat} {nF nP : Nat} {fl pa nu : Nat → Int32}
theorem tb_lt {t n : Nat} (h : ∀ p, t.testBit p = true → p < n) : t < 2 ^ n := by
  refine Nat.lt_pow_two_of_testBit _ (fun i hi => ?_)
  cases h9 : t.testBit i with
  | false => rfl
  | true => have := h i h9; omega
theorem rnJ_lt {f : Int32} {n t pe : Nat} (hn : nP ≤ 20) (J : rnJ pa nP f n t pe) : t < 2 ^ 20 := Nat.lt_of_lt_of_le (tb_lt (fun p h => (J.1 p h).1)) (Nat.pow_le_pow_right (by decide) hn)
theorem XR.bd (X : XR nF nP fl pa nu dm a r) {j : Nat} (hj : j < nP) : a (30 + j) 3 = pa (9 * j + 3) := (X.2.2.2.2.2.2 j hj).2.2.1 3 (by decide) (by decide)
theorem XR.sz (X : XR nF nP fl pa nu dm a r) {j : Nat} (hj : j < nP) : a (30 + j) 1 = pa (9 * j + 1) := (X.2.2.2.2.2.2 j hj).2.2.1 1 (by decide) (by decide)
theorem rc_1 {f : Int32} {t i : Nat} (h : t.testBit i = true) : rnC pa f t i = false := by rw [rnC, h]; simp
theorem rc_2 {f : Int32} {t i : Nat} (h : mgS pa f i = false) : rnC pa f t i = false := by rw [rnC, h]; rfl
theorem rc_3 {f : Int32} {t i : Nat} (h : t.testBit i = false) (h2 : mgS pa f i = true) : rnC pa f t i = true := by rw [rnC, h, h2]; rfl
set_option maxHeartbeats 4000000 in
set_option maxRecDepth 100000 in
theorem m_X3_nextBidder (X : XR nF nP fl pa nu dm a r) {f t : Nat} (hf : f < nF) (ht : t < 2 ^ 20) : MT g bs l yX3_nextBidder cX3_nextBidder 5 (some .int) 2 0 0 [.ref (ad 0), .ref (ad (20 + f)), .int (nI t)] ad dm a b r (PX (some (.int (enO (rnS pa (rnC pa (nI f) t) nP)))) ad dm a b r) := by
  refine mt_of (by decide) [some (.ref (ad 0)), some (.ref (ad (20 + f))), some (.int (nI t)), none, none] rfl (Nat.le_of_ble_eq_true rfl) ?_
  intro E hg hbs hl hN C RT9 hcells hslots hname
  have I := X.1
  have hnF := I.1
  have hnP := I.2.1
  have lp : ∀ (k i : Nat) (la : Int32), i + k = nP → la = enO (rnS pa (rnC pa (nI f) t) i) → G E 0 0 ad dm a b r 5 [some (.ref (ad 0)), some (.ref (ad (20 + f))), some (.int (nI t)), some (.int la), some (.int (nI i))] [] := by
    intro k
    induction k with
    | zero =>
      intro i la hi hla
      refine g_iload_4 (q := 7) C dX3_nextBidder_5 rfl ?_
      refine g_aload_0 (q := 8) C dX3_nextBidder_7 rfl ?_
      refine g_geti (q := 11) C f_X3_40 dX3_nextBidder_8 rfl rfl (IX.d0 I _ (by decide)) ?_
      refine g_icmp_ge (tgt := 74) (q := 14) C dX3_nextBidder_11 rfl (by decide) (fun c_11 => ?_) (fun c_11 => absurd (by rw [X.nP]; exact nI_le (by omega) (by omega)) c_11)
      refine g_iload_3 (q := 75) C dX3_nextBidder_74 rfl ?_
      exact g_iret C RT9 dX3_nextBidder_75 (pxi (by rw [hla, show i = nP by omega]))
    | succ k ih =>
      intro i la hi hla
      have hip : i < nP := by omega
      refine g_iload_4 (q := 7) C dX3_nextBidder_5 rfl ?_
      refine g_aload_0 (q := 8) C dX3_nextBidder_7 rfl ?_
      refine g_geti (q := 11) C f_X3_40 dX3_nextBidder_8 rfl rfl (IX.d0 I _ (by decide)) ?_
      refine g_icmp_ge (tgt := 74) (q := 14) C dX3_nextBidder_11 rfl (by decide) (fun c_11 => absurd c_11 (by rw [X.nP]; exact nI_ge (by omega) (by omega))) (fun c_11 => ?_)
      refine g_iload_2 (q := 15) C dX3_nextBidder_14 rfl ?_
      refine g_i2l (q := 16) C dX3_nextBidder_15 rfl ?_
      refine g_iload_4 (q := 18) C dX3_nextBidder_16 rfl ?_
      refine g_cs2i (q := 21) C cs_X3_147 dX3_nextBidder_18 rfl (m_X3_has (n := t) (by omega) (by omega) (nI_l (by omega))) (by decide) (Nat.le_of_ble_eq_true rfl) ⟨Nat.zero_le _, Nat.zero_le _⟩ ?_
      refine g_ifneb (tgt := 68) (q := 24) C dX3_nextBidder_21 rfl (by decide) (fun c_21 => ?_) (fun c_21 => ?_)
      · refine g_iinc_4 (v := nI (i + 1)) (q := 71) C dX3_nextBidder_68 rfl (by rw [hN]; decide) (nI_1 i) ?_
        refine g_goto (tgt := 5) C dX3_nextBidder_71 (by decide) ?_
        first
          | exact ih (i + 1) _ (by omega) (by rw [hla, rs_n (rc_1 c_21)])
          | exact ih (i + 1) _ (by omega) (by rw [hla, rs_n (rc_2 c_35)])
          | exact ih (i + 1) _ (by omega) (rs_y (rc_3 c_21 c_35) (rs_m1 (by omega) (by rw [← hla]; exact c_40)))
          | exact ih (i + 1) _ (by omega) (rs_ge (rc_3 c_21 c_35) eq9 (by rw [X.bd hip, X.bd hq9p] at c_62; exact c_62))
          | exact ih (i + 1) _ (by omega) (rs_lt (rc_3 c_21 c_35) eq9 (by rw [X.bd hip, X.bd hq9p] at c_62; exact c_62))
      · refine g_aload_0 (q := 25) C dX3_nextBidder_24 rfl ?_
        refine g_getc (q := 28) (m := 2) C f_X3_17 dX3_nextBidder_25 rfl rfl (IX.d0 I _ (by decide)) ?_
        refine g_iload_4 (q := 30) C dX3_nextBidder_28 rfl ?_
        refine g_aaP (q := 31) C dX3_nextBidder_30 rfl rfl (IX.d0 I _ (by decide)) rfl (by omega) (by decide) (XR.rp X (by assumption)) ?_
        refine g_aload_1 (q := 32) C dX3_nextBidder_31 rfl ?_
        refine g_cv1i (q := 35) C cv_X3_238 dX3_nextBidder_32 rfl (IX.lp I (by assumption)) (IX.dp I (by assumption)) (m_X2_wouldGive X (by assumption) (by assumption)) (by decide) (Nat.le_of_ble_eq_true rfl) ⟨Nat.zero_le _, Nat.zero_le _⟩ ?_
        refine g_ifeqb (tgt := 68) (q := 38) C dX3_nextBidder_35 rfl (by decide) (fun c_35 => ?_) (fun c_35 => ?_)
        · refine g_iinc_4 (v := nI (i + 1)) (q := 71) C dX3_nextBidder_68 rfl (by rw [hN]; decide) (nI_1 i) ?_
          refine g_goto (tgt := 5) C dX3_nextBidder_71 (by decide) ?_
          first
            | exact ih (i + 1) _ (by omega) (by rw [hla, rs_n (rc_1 c_21)])
            | exact ih (i + 1) _ (by omega) (by rw [hla, rs_n (rc_2 c_35)])
            | exact ih (i + 1) _ (by omega) (rs_y (rc_3 c_21 c_35) (rs_m1 (by omega) (by rw [← hla]; exact c_40)))
            | exact ih (i + 1) _ (by omega) (rs_ge (rc_3 c_21 c_35) eq9 (by rw [X.bd hip, X.bd hq9p] at c_62; exact c_62))
            | exact ih (i + 1) _ (by omega) (rs_lt (rc_3 c_21 c_35) eq9 (by rw [X.bd hip, X.bd hq9p] at c_62; exact c_62))
        · refine g_iload_3 (q := 39) C dX3_nextBidder_38 rfl ?_
          refine g_iconst (v := (-1)) (q := 40) C dX3_nextBidder_39 rfl (by decide) ?_
          refine g_icmp_eq (tgt := 65) (q := 43) C dX3_nextBidder_40 rfl (by decide) (fun c_40 => ?_) (fun c_40 => ?_)
          · refine g_iload_4 (q := 67) C dX3_nextBidder_65 rfl ?_
            refine g_istore_3 (q := 68) C dX3_nextBidder_67 rfl (by rw [hN]; decide) rfl ?_
            refine g_iinc_4 (v := nI (i + 1)) (q := 71) C dX3_nextBidder_68 rfl (by rw [hN]; decide) (nI_1 i) ?_
            refine g_goto (tgt := 5) C dX3_nextBidder_71 (by decide) ?_
            first
              | exact ih (i + 1) _ (by omega) (by rw [hla, rs_n (rc_1 c_21)])
              | exact ih (i + 1) _ (by omega) (by rw [hla, rs_n (rc_2 c_35)])
              | exact ih (i + 1) _ (by omega) (rs_y (rc_3 c_21 c_35) (rs_m1 (by omega) (by rw [← hla]; exact c_40)))
              | exact ih (i + 1) _ (by omega) (rs_ge (rc_3 c_21 c_35) eq9 (by rw [X.bd hip, X.bd hq9p] at c_62; exact c_62))
              | exact ih (i + 1) _ (by omega) (rs_lt (rc_3 c_21 c_35) eq9 (by rw [X.bd hip, X.bd hq9p] at c_62; exact c_62))
          · obtain ⟨q9, eq9⟩ : ∃ q9, rnS pa (rnC pa (nI f) t) i = some q9 := by
              cases h9 : rnS pa (rnC pa (nI f) t) i with
              | none => exact absurd (by rw [hla, h9]; rfl) c_40
              | some q9 => exact ⟨q9, rfl⟩
            have hb9 := rnS_B (pa := pa) (c := rnC pa (nI f) t) (n := i)
            rw [eq9] at hb9
            have hq9 : q9 < i := hb9.1
            have hq9p : q9 < nP := by omega
            have hl9 : la = nI q9 := by rw [hla, eq9]; rfl
            subst hl9
            refine g_aload_0 (q := 44) C dX3_nextBidder_43 rfl ?_
            refine g_getc (q := 47) (m := 2) C f_X3_17 dX3_nextBidder_44 rfl rfl (IX.d0 I _ (by decide)) ?_
            refine g_iload_4 (q := 49) C dX3_nextBidder_47 rfl ?_
            refine g_aaP (q := 50) C dX3_nextBidder_49 rfl rfl (IX.d0 I _ (by decide)) rfl (by omega) (by decide) (XR.rp X (by assumption)) ?_
            refine g_geti (q := 53) C f_X3_151 dX3_nextBidder_50 rfl (IX.lp I (by assumption)) (IX.dp I (by assumption)) ?_
            refine g_aload_0 (q := 54) C dX3_nextBidder_53 rfl ?_
            refine g_getc (q := 57) (m := 2) C f_X3_17 dX3_nextBidder_54 rfl rfl (IX.d0 I _ (by decide)) ?_
            refine g_iload_3 (q := 58) C dX3_nextBidder_57 rfl ?_
            refine g_aaP (q := 59) C dX3_nextBidder_58 rfl rfl (IX.d0 I _ (by decide)) rfl (by omega) (by decide) (XR.rp X (by assumption)) ?_
            refine g_geti (q := 62) C f_X3_151 dX3_nextBidder_59 rfl (IX.lp I (by assumption)) (IX.dp I (by assumption)) ?_
            refine g_icmp_ge (tgt := 68) (q := 65) C dX3_nextBidder_62 rfl (by decide) (fun c_62 => ?_) (fun c_62 => ?_)
            · refine g_iinc_4 (v := nI (i + 1)) (q := 71) C dX3_nextBidder_68 rfl (by rw [hN]; decide) (nI_1 i) ?_
              refine g_goto (tgt := 5) C dX3_nextBidder_71 (by decide) ?_
              first
                | exact ih (i + 1) _ (by omega) (by rw [hla, rs_n (rc_1 c_21)])
                | exact ih (i + 1) _ (by omega) (by rw [hla, rs_n (rc_2 c_35)])
                | exact ih (i + 1) _ (by omega) (rs_y (rc_3 c_21 c_35) (rs_m1 (by omega) (by rw [← hla]; exact c_40)))
                | exact ih (i + 1) _ (by omega) (rs_ge (rc_3 c_21 c_35) eq9 (by rw [X.bd hip, X.bd hq9p] at c_62; exact c_62))
                | exact ih (i + 1) _ (by omega) (rs_lt (rc_3 c_21 c_35) eq9 (by rw [X.bd hip, X.bd hq9p] at c_62; exact c_62))
            · refine g_iload_4 (q := 67) C dX3_nextBidder_65 rfl ?_
              refine g_istore_3 (q := 68) C dX3_nextBidder_67 rfl (by rw [hN]; decide) rfl ?_
              refine g_iinc_4 (v := nI (i + 1)) (q := 71) C dX3_nextBidder_68 rfl (by rw [hN]; decide) (nI_1 i) ?_
              refine g_goto (tgt := 5) C dX3_nextBidder_71 (by decide) ?_
              first
                | exact ih (i + 1) _ (by omega) (by rw [hla, rs_n (rc_1 c_21)])
                | exact ih (i + 1) _ (by omega) (by rw [hla, rs_n (rc_2 c_35)])
                | exact ih (i + 1) _ (by omega) (rs_y (rc_3 c_21 c_35) (rs_m1 (by omega) (by rw [← hla]; exact c_40)))
                | exact ih (i + 1) _ (by omega) (rs_ge (rc_3 c_21 c_35) eq9 (by rw [X.bd hip, X.bd hq9p] at c_62; exact c_62))
                | exact ih (i + 1) _ (by omega) (rs_lt (rc_3 c_21 c_35) eq9 (by rw [X.bd hip, X.bd hq9p] at c_62; exact c_62))
  refine g_iconst (v := (-1)) (q := 1) C dX3_nextBidder_0 rfl (by decide) ?_
  refine g_istore_3 (q := 2) C dX3_nextBidder_1 rfl (by rw [hN]; decide) rfl ?_
  refine g_iconst (v := 0) (q := 3) C dX3_nextBidder_2 rfl (by decide) ?_
  refine g_istore_4 (q := 5) C dX3_nextBidder_3 rfl (by rw [hN]; decide) rfl ?_
  exact lp nP 0 (-1) (by omega) rfl

set_option maxHeartbeats 4000000 in
set_option maxRecDepth 100000 in
theorem m_X3_lowestBidders (X : XR nF nP fl pa nu dm a r) (W : WP nF nP pa) {f ov : Nat} (hf : f < nF) (hov9 : ov ≤ 120) {R9 : Option Nat} (hR : rnL pa nP (nI f) ov nP 0 0 = R9) : MT g bs l yX3_lowestBidders cX3_lowestBidders 7 (some .int) 3 0 0 [.ref (ad 0), .ref (ad (20 + f)), .int (nI ov)] ad dm a b r (PX (some (.int (nI (R9.getD 0)))) ad dm a b r) := by
  refine mt_of (by decide) [some (.ref (ad 0)), some (.ref (ad (20 + f))), some (.int (nI ov)), none, none, none, none] rfl (Nat.le_of_ble_eq_true rfl) ?_
  intro E hg hbs hl hN C RT9 hcells hslots hname
  have I := X.1
  have hnF := I.1
  have hnP := I.2.1
  have lp : ∀ (n i t pe : Nat) (e6 : Option Value), i + n = nP → rnJ pa nP (nI f) n t pe → rnL pa nP (nI f) ov n t pe = R9 → G E 0 0 ad dm a b r 8 [some (.ref (ad 0)), some (.ref (ad (20 + f))), some (.int (nI ov)), some (.int (nI t)), some (.int (nI pe)), some (.int (nI i)), e6] [] := by
    intro n
    induction n with
    | zero =>
      intro i t pe e6 hi J hres
      have hpe9 : pe ≤ 120 := by have := sN_le W t.testBit (Nat.le_refl nP); have := J.2.1; omega
      refine g_iload_5 (q := 10) C dX3_lowestBidders_8 rfl ?_
      refine g_aload_0 (q := 11) C dX3_lowestBidders_10 rfl ?_
      refine g_geti (q := 14) C f_X3_40 dX3_lowestBidders_11 rfl rfl (IX.d0 I _ (by decide)) ?_
      refine g_icmp_ge (tgt := 67) (q := 17) C dX3_lowestBidders_14 rfl (by decide) (fun c_14 => ?_) (fun c_14 => absurd (by rw [X.nP]; exact nI_le (by omega) (by omega)) c_14)
      refine g_iload_4 (q := 69) C dX3_lowestBidders_67 rfl ?_
      refine g_iload_2 (q := 70) C dX3_lowestBidders_69 rfl ?_
      refine g_icmp_ge (tgt := 77) (q := 73) C dX3_lowestBidders_70 rfl (by decide) (fun c_70 => ?_) (fun c_70 => ?_)
      · refine g_iload_3 (q := 78) C dX3_lowestBidders_77 rfl ?_
        exact g_iret C RT9 dX3_lowestBidders_78 (pxi (by
  first
  | (rw [nI_leI (by omega) (by omega)] at c_70
     first
     | (rw [rnL, if_neg (by omega)] at hres; rw [← hres]; rfl)
     | (rw [rnL, if_pos (by omega)] at hres; rw [← hres]; rfl))
  | exact absurd c_20 c_70))
      · refine g_iconst (v := 0) (q := 74) C dX3_lowestBidders_73 rfl (by decide) ?_
        refine g_goto (tgt := 78) C dX3_lowestBidders_74 (by decide) ?_
        exact g_iret C RT9 dX3_lowestBidders_78 (pxi (by
  first
  | (rw [nI_leI (by omega) (by omega)] at c_70
     first
     | (rw [rnL, if_neg (by omega)] at hres; rw [← hres]; rfl)
     | (rw [rnL, if_pos (by omega)] at hres; rw [← hres]; rfl))
  | exact absurd c_20 c_70))
    | succ n ih =>
      intro i t pe e6 hi J hres
      have hpe9 : pe ≤ 120 := by have := sN_le W t.testBit (Nat.le_refl nP); have := J.2.1; omega
      have ht20 := rnJ_lt hnP J
      refine g_iload_5 (q := 10) C dX3_lowestBidders_8 rfl ?_
      refine g_aload_0 (q := 11) C dX3_lowestBidders_10 rfl ?_
      refine g_geti (q := 14) C f_X3_40 dX3_lowestBidders_11 rfl rfl (IX.d0 I _ (by decide)) ?_
      refine g_icmp_ge (tgt := 67) (q := 17) C dX3_lowestBidders_14 rfl (by decide) (fun c_14 => absurd c_14 (by rw [X.nP]; exact nI_ge (by omega) (by omega))) (fun c_14 => ?_)
      refine g_iload_4 (q := 19) C dX3_lowestBidders_17 rfl ?_
      refine g_iload_2 (q := 20) C dX3_lowestBidders_19 rfl ?_
      refine g_icmp_ge (tgt := 67) (q := 23) C dX3_lowestBidders_20 rfl (by decide) (fun c_20 => ?_) (fun c_20 => ?_)
      · skip
        refine g_iload_4 (q := 69) C dX3_lowestBidders_67 rfl ?_
        refine g_iload_2 (q := 70) C dX3_lowestBidders_69 rfl ?_
        refine g_icmp_ge (tgt := 77) (q := 73) C dX3_lowestBidders_70 rfl (by decide) (fun c_70 => ?_) (fun c_70 => ?_)
        · refine g_iload_3 (q := 78) C dX3_lowestBidders_77 rfl ?_
          exact g_iret C RT9 dX3_lowestBidders_78 (pxi (by
  first
  | (rw [nI_leI (by omega) (by omega)] at c_70
     first
     | (rw [rnL, if_neg (by omega)] at hres; rw [← hres]; rfl)
     | (rw [rnL, if_pos (by omega)] at hres; rw [← hres]; rfl))
  | exact absurd c_20 c_70))
        · refine g_iconst (v := 0) (q := 74) C dX3_lowestBidders_73 rfl (by decide) ?_
          refine g_goto (tgt := 78) C dX3_lowestBidders_74 (by decide) ?_
          exact g_iret C RT9 dX3_lowestBidders_78 (pxi (by
  first
  | (rw [nI_leI (by omega) (by omega)] at c_70
     first
     | (rw [rnL, if_neg (by omega)] at hres; rw [← hres]; rfl)
     | (rw [rnL, if_pos (by omega)] at hres; rw [← hres]; rfl))
  | exact absurd c_20 c_70))
      · rw [nI_leI (by omega) (by omega)] at c_20
        rw [rnL, if_pos (by omega)] at hres
        have hbs := rnS_B (pa := pa) (c := rnC pa (nI f) t) (n := nP)
        refine g_aload_0 (q := 24) C dX3_lowestBidders_23 rfl ?_
        refine g_aload_1 (q := 25) C dX3_lowestBidders_24 rfl ?_
        refine g_iload_3 (q := 26) C dX3_lowestBidders_25 rfl ?_
        refine g_cv2i (q := 29) C cv_X3_249 dX3_lowestBidders_26 rfl rfl (IX.d0 I _ (by decide)) (m_X3_nextBidder X hf ht20) (by decide) (Nat.le_of_ble_eq_true rfl) ⟨Nat.zero_le _, Nat.zero_le _⟩ ?_
        refine g_istore_6 (q := 31) C dX3_lowestBidders_29 rfl (by rw [hN]; decide) rfl ?_
        refine g_iload_6 (q := 33) C dX3_lowestBidders_31 rfl ?_
        refine g_iconst (v := (-1)) (q := 34) C dX3_lowestBidders_33 rfl (by decide) ?_
        refine g_icmp_ne (tgt := 39) (q := 37) C dX3_lowestBidders_34 rfl (by decide) (fun c_34 => ?_) (fun c_34 => ?_)
        · obtain ⟨q, eq⟩ : ∃ q, rnS pa (rnC pa (nI f) t) nP = some q := by
            cases h9 : rnS pa (rnC pa (nI f) t) nP with
            | none => exact absurd (by rw [h9]; rfl) c_34
            | some q => exact ⟨q, rfl⟩
          rw [eq] at hres hbs
          rw [eq]
          obtain ⟨hq, hrc, -⟩ := hbs
          dsimp only at hres
          have hz := sz_ok W hq
          show G E 0 0 _ _ _ _ _ 39 [some (.ref (ad 0)), some (.ref (ad (20 + f))), some (.int (nI ov)), some (.int (nI t)), some (.int (nI pe)), some (.int (nI i)), some (.int (nI q))] []
          refine g_iload_3 (q := 40) C dX3_lowestBidders_39 rfl ?_
          refine g_iconst (v := 1) (q := 41) C dX3_lowestBidders_40 rfl (by decide) ?_
          refine g_iload_6 (q := 43) C dX3_lowestBidders_41 rfl ?_
          refine g_ishl (q := 44) C dX3_lowestBidders_43 rfl ?_
          refine g_ior (q := 45) C dX3_lowestBidders_44 rfl ?_
          rw [q_sh q (by omega), q_or]
          refine g_istore_3 (q := 46) C dX3_lowestBidders_45 rfl (by rw [hN]; decide) rfl ?_
          refine g_iload_4 (q := 48) C dX3_lowestBidders_46 rfl ?_
          refine g_aload_0 (q := 49) C dX3_lowestBidders_48 rfl ?_
          refine g_getc (q := 52) (m := 2) C f_X3_17 dX3_lowestBidders_49 rfl rfl (IX.d0 I _ (by decide)) ?_
          refine g_iload_6 (q := 54) C dX3_lowestBidders_52 rfl ?_
          refine g_aaP (q := 55) C dX3_lowestBidders_54 rfl rfl (IX.d0 I _ (by decide)) rfl (by omega) (by decide) (XR.rp X (by assumption)) ?_
          refine g_geti (q := 58) C f_X3_102 dX3_lowestBidders_55 rfl (IX.lp I (by assumption)) (IX.dp I (by assumption)) ?_
          refine g_iadd (q := 59) C dX3_lowestBidders_58 rfl ?_
          rw [X.sz hq, hz.1, nI_add]
          refine g_istore_4 (q := 61) C dX3_lowestBidders_59 rfl (by rw [hN]; decide) rfl ?_
          refine g_iinc_5 (v := nI (i + 1)) (q := 64) C dX3_lowestBidders_61 rfl (by rw [hN]; decide) (nI_1 i) ?_
          refine g_goto (tgt := 8) C dX3_lowestBidders_64 (by decide) ?_
          exact ih (i + 1) _ _ _ (by omega) (rnJ_s J hq hrc) hres
        · refine g_iconst (v := 0) (q := 38) C dX3_lowestBidders_37 rfl (by decide) ?_
          exact g_iret C RT9 dX3_lowestBidders_38 (pxi (by rw [rs_m1 (by omega) c_34] at hres; rw [← hres]; rfl))
  refine g_iconst (v := 0) (q := 1) C dX3_lowestBidders_0 rfl (by decide) ?_
  refine g_istore_3 (q := 2) C dX3_lowestBidders_1 rfl (by rw [hN]; decide) rfl ?_
  refine g_iconst (v := 0) (q := 3) C dX3_lowestBidders_2 rfl (by decide) ?_
  refine g_istore_4 (q := 5) C dX3_lowestBidders_3 rfl (by rw [hN]; decide) rfl ?_
  refine g_iconst (v := 0) (q := 6) C dX3_lowestBidders_5 rfl (by decide) ?_
  refine g_istore_5 (q := 8) C dX3_lowestBidders_6 rfl (by rw [hN]; decide) rfl ?_
  exact lp nP 0 0 0 none (by omega) rnJ_0 hR

theorem mx_N {x y : Nat} (hx : x < 2 ^ 31) (hy : y < 2 ^ 31) : (if nI x < nI y then nI y else nI x) = nI (max x y) := by
  by_cases h : x < y
  · rw [if_pos ((nI_ltI hx hy).mpr h), Nat.max_eq_right (by omega)]
  · rw [if_neg (fun z => h ((nI_ltI hx hy).mp z)), Nat.max_eq_left (by omega)]
set_option maxHeartbeats 4000000 in
set_option maxRecDepth 100000 in
theorem m_X3_highestBid (X : XR nF nP fl pa nu dm a r) (W : WP nF nP pa) {t : Nat} {fv : Int32} (ht : t < 2 ^ 20) (hbt : ∀ p, t.testBit p = true → p < nP ∧ mgS pa fv p = true) : MT g bs l yX3_highestBid cX3_highestBid 4 (some .int) 1 0 0 [.ref (ad 0), .int (nI t)] ad dm a b r (PX (some (.int (nI (hbN pa t nP)))) ad dm a b r) := by
  refine mt_of (by decide) [some (.ref (ad 0)), some (.int (nI t)), none, none] rfl (Nat.le_of_ble_eq_true rfl) ?_
  intro E hg hbs hl hN C RT9 hcells hslots hname
  have I := X.1
  have hnF := I.1
  have hnP := I.2.1
  have lp : ∀ (k i : Nat) (hv : Int32), i + k = nP → hv = nI (hbN pa t i) → G E 0 0 ad dm a b r 4 [some (.ref (ad 0)), some (.int (nI t)), some (.int hv), some (.int (nI i))] [] := by
    intro k
    induction k with
    | zero =>
      intro i hv hi hla
      refine g_iload_3 (q := 5) C dX3_highestBid_4 rfl ?_
      refine g_aload_0 (q := 6) C dX3_highestBid_5 rfl ?_
      refine g_geti (q := 9) C f_X3_40 dX3_highestBid_6 rfl rfl (IX.d0 I _ (by decide)) ?_
      refine g_icmp_ge (tgt := 41) (q := 12) C dX3_highestBid_9 rfl (by decide) (fun c_9 => ?_) (fun c_9 => absurd (by rw [X.nP]; exact nI_le (by omega) (by omega)) c_9)
      refine g_iload_2 (q := 42) C dX3_highestBid_41 rfl ?_
      exact g_iret C RT9 dX3_highestBid_42 (pxi (by rw [hla, show i = nP by omega]))
    | succ k ih =>
      intro i hv hi hla
      have hip : i < nP := by omega
      have hh := hbN_le W hbt i
      refine g_iload_3 (q := 5) C dX3_highestBid_4 rfl ?_
      refine g_aload_0 (q := 6) C dX3_highestBid_5 rfl ?_
      refine g_geti (q := 9) C f_X3_40 dX3_highestBid_6 rfl rfl (IX.d0 I _ (by decide)) ?_
      refine g_icmp_ge (tgt := 41) (q := 12) C dX3_highestBid_9 rfl (by decide) (fun c_9 => absurd c_9 (by rw [X.nP]; exact nI_ge (by omega) (by omega))) (fun c_9 => ?_)
      refine g_iload_1 (q := 13) C dX3_highestBid_12 rfl ?_
      refine g_i2l (q := 14) C dX3_highestBid_13 rfl ?_
      refine g_iload_3 (q := 15) C dX3_highestBid_14 rfl ?_
      refine g_cs2i (q := 18) C cs_X3_147 dX3_highestBid_15 rfl (m_X3_has (n := t) (by omega) (by omega) (nI_l (by omega))) (by decide) (Nat.le_of_ble_eq_true rfl) ⟨Nat.zero_le _, Nat.zero_le _⟩ ?_
      refine g_ifeqb (tgt := 35) (q := 21) C dX3_highestBid_18 rfl (by decide) (fun c_18 => ?_) (fun c_18 => ?_)
      · refine g_iinc_3 (v := nI (i + 1)) (q := 38) C dX3_highestBid_35 rfl (by rw [hN]; decide) (nI_1 i) ?_
        refine g_goto (tgt := 4) C dX3_highestBid_38 (by decide) ?_
        first
          | exact ih (i + 1) _ (by omega) (by rw [hla, hbN, if_neg (by rw [c_18]; decide)])
          | exact ih (i + 1) _ (by omega) (by rw [hbN, if_pos c_18])
      · refine g_iload_2 (q := 22) C dX3_highestBid_21 rfl ?_
        refine g_aload_0 (q := 23) C dX3_highestBid_22 rfl ?_
        refine g_getc (q := 26) (m := 2) C f_X3_17 dX3_highestBid_23 rfl rfl (IX.d0 I _ (by decide)) ?_
        refine g_iload_3 (q := 27) C dX3_highestBid_26 rfl ?_
        refine g_aaP (q := 28) C dX3_highestBid_27 rfl rfl (IX.d0 I _ (by decide)) rfl (by omega) (by decide) (XR.rp X (by assumption)) ?_
        refine g_geti (q := 31) C f_X3_151 dX3_highestBid_28 rfl (IX.lp I (by assumption)) (IX.dp I (by assumption)) ?_
        refine g_mmax (q := 34) C cm_X3_221 dX3_highestBid_31 rfl (by decide) (Nat.le_of_ble_eq_true rfl) ⟨Nat.zero_le _, Nat.zero_le _⟩ ?_
        have hb9 := bd_ok W hip (hbt i c_18).2
        rw [hla, X.bd hip, hb9.1, mx_N (x := hbN pa t i) (y := bdN pa i) (by omega) (by omega)]
        refine g_istore_2 (q := 35) C dX3_highestBid_34 rfl (by rw [hN]; decide) rfl ?_
        refine g_iinc_3 (v := nI (i + 1)) (q := 38) C dX3_highestBid_35 rfl (by rw [hN]; decide) (nI_1 i) ?_
        refine g_goto (tgt := 4) C dX3_highestBid_38 (by decide) ?_
        first
          | exact ih (i + 1) _ (by omega) (by rw [hla, hbN, if_neg (by rw [c_18]; decide)])
          | exact ih (i + 1) _ (by omega) (by rw [hbN, if_pos c_18])
  refine g_iconst (v := 0) (q := 1) C dX3_highestBid_0 rfl (by decide) ?_
  refine g_istore_2 (q := 2) C dX3_highestBid_1 rfl (by rw [hN]; decide) rfl ?_
  refine g_iconst (v := 0) (q := 3) C dX3_highestBid_2 rfl (by decide) ?_
  refine g_istore_3 (q := 4) C dX3_highestBid_3 rfl (by rw [hN]; decide) rfl ?_
  exact lp nP 0 0 (by omega) rfl

set_option maxHeartbeats 4000000 in
set_option maxRecDepth 100000 in
theorem m_X3_firstOffer {h v s : Nat} (hh : h ≤ 999) (hv : v ≤ 999) (hs : 1 ≤ s) (hs9 : s ≤ 999) : MT g bs l yX3_firstOffer cX3_firstOffer 4 (some .int) 0 0 0 [.int (nI h), .int (nI v), .int (nI s)] ad dm a b r (PX (some (.int (nI (foN h v s)))) ad dm a b r) := by
  refine mt_of (by decide) [some (.int (nI h)), some (.int (nI v)), some (.int (nI s)), none] rfl (Nat.le_of_ble_eq_true rfl) ?_
  intro E hg hbs hl hN C RT9 hcells hslots hname
  refine g_iload_0 (q := 1) C dX3_firstOffer_0 rfl ?_
  refine g_iload_1 (q := 2) C dX3_firstOffer_1 rfl ?_
  refine g_icmp_le (tgt := 10) (q := 5) C dX3_firstOffer_2 rfl (by decide) (fun c_2 => ?_) (fun c_2 => ?_)
  · refine g_iload_1 (q := 11) C dX3_firstOffer_10 rfl ?_
    exact g_iret C RT9 dX3_firstOffer_11 (pxi (by rw [nI_leI (by omega) (by omega)] at c_2; rw [foN, if_pos c_2]))
  · refine g_iload_2 (q := 6) C dX3_firstOffer_5 rfl ?_
    refine g_iconst (v := 1) (q := 7) C dX3_firstOffer_6 rfl (by decide) ?_
    refine g_icmp_ge (tgt := 12) (q := 10) C dX3_firstOffer_7 rfl (by decide) (fun c_7 => ?_) (fun c_7 => absurd (show (1 : Int32) ≤ nI s by rw [show (1 : Int32) = nI 1 from rfl, nI_leI (by omega) (by omega)]; exact hs) c_7)
    refine g_iload_0 (q := 13) C dX3_firstOffer_12 rfl ?_
    refine g_iload_1 (q := 14) C dX3_firstOffer_13 rfl ?_
    refine g_isub (q := 15) C dX3_firstOffer_14 rfl ?_
    refine g_iload_2 (q := 16) C dX3_firstOffer_15 rfl ?_
    refine g_iadd (q := 17) C dX3_firstOffer_16 rfl ?_
    refine g_iconst (v := 1) (q := 18) C dX3_firstOffer_17 rfl (by decide) ?_
    refine g_isub (q := 19) C dX3_firstOffer_18 rfl ?_
    refine g_iload_2 (q := 20) C dX3_firstOffer_19 rfl ?_
    refine g_idiv (q := 21) C dX3_firstOffer_20 rfl (by intro z; have := (nI_eq (a := s) (b := 0) (by omega) (by omega)).mp z; omega) ?_
    refine g_istore_3 (q := 22) C dX3_firstOffer_21 rfl (by rw [hN]; decide) rfl ?_
    refine g_iload_1 (q := 23) C dX3_firstOffer_22 rfl ?_
    refine g_iload_3 (q := 24) C dX3_firstOffer_23 rfl ?_
    refine g_iload_2 (q := 25) C dX3_firstOffer_24 rfl ?_
    refine g_imul (q := 26) C dX3_firstOffer_25 rfl ?_
    refine g_iadd (q := 27) C dX3_firstOffer_26 rfl ?_
    exact g_iret C RT9 dX3_firstOffer_27 (pxi (by rw [nI_leI (by omega) (by omega)] at c_2; rw [foN, if_neg c_2, pk_sub (by omega), nI_add, show (1 : Int32) = nI 1 from rfl, pk_sub (by omega), pk_div (by omega) (by omega) (by omega), pk_mul, nI_add]))

set_option maxHeartbeats 4000000 in
set_option maxRecDepth 100000 in
theorem xr_loop {E : EN} (C : CX E cX3_rounds yX3_rounds.cls 4) (hN : eN E = 9) {P : PO} (RT9 : RT E 0 0 (some .int) P) {f t o : Nat} {fv v1 s1 ov : Int32} (W : WP nF nP pa) (hnF : nF ≤ 8) (hnP : nP ≤ 20) (ht : t < 2 ^ 20) (ho : o ≤ 999) (hbt : ∀ p, t.testBit p = true → p < nP ∧ mgS pa fv p = true) (hP : ∀ a', XR nF nP fl (byP t (fun _ => nI o) pa nP) nu dm a' r → (∀ m, 100 ≤ m → a' m = a m) → P (some (.int (nI o))) ad dm a' b r) : ∀ (n i : Nat) (a0 : Nat → Nat → Int32), i + n = nP → XR nF nP fl (byP t (fun _ => nI o) pa i) nu dm a0 r → (∀ m, 100 ≤ m → a0 m = a m) → G E 0 0 ad dm a0 b r 96 [some (.ref (ad 0)), some (.int (nI f)), some (.int v1), some (.int s1), some (.ref (ad (20 + f))), some (.int ov), some (.int (nI t)), some (.int (nI o)), some (.int (nI i))] [] := by
  have hWi : ∀ i, i ≤ nP → WP nF nP (byP t (fun _ => nI o) pa i) := fun i hi => WP_by W hnF (fun n h hb => ⟨o, ho, rfl⟩) hi
  intro n
  induction n with
  | zero =>
    intro i a0 hi X hfr
    have I := X.1
    refine g_iload_8 (q := 98) C dX3_rounds_96 rfl ?_
    refine g_aload_0 (q := 99) C dX3_rounds_98 rfl ?_
    refine g_geti (q := 102) C f_X3_40 dX3_rounds_99 rfl rfl (IX.d0 I _ (by decide)) ?_
    refine g_icmp_ge (tgt := 135) (q := 105) C dX3_rounds_102 rfl (by decide) (fun c_102 => ?_) (fun c_102 => absurd (by rw [X.nP]; exact nI_le (by omega) (by omega)) c_102)
    refine g_iload_7 (q := 137) C dX3_rounds_135 rfl ?_
    exact g_iret C RT9 dX3_rounds_137 (by rw [show i = nP by omega] at X; exact hP a0 X hfr)
  | succ n ih =>
    intro i a0 hi X hfr
    have I := X.1
    have hip : i < nP := by omega
    refine g_iload_8 (q := 98) C dX3_rounds_96 rfl ?_
    refine g_aload_0 (q := 99) C dX3_rounds_98 rfl ?_
    refine g_geti (q := 102) C f_X3_40 dX3_rounds_99 rfl rfl (IX.d0 I _ (by decide)) ?_
    refine g_icmp_ge (tgt := 135) (q := 105) C dX3_rounds_102 rfl (by decide) (fun c_102 => absurd c_102 (by rw [X.nP]; exact nI_ge (by omega) (by omega))) (fun c_102 => ?_)
    refine g_iload_6 (q := 107) C dX3_rounds_105 rfl ?_
    refine g_i2l (q := 108) C dX3_rounds_107 rfl ?_
    refine g_iload_8 (q := 110) C dX3_rounds_108 rfl ?_
    refine g_cs2i (q := 113) C cs_X3_147 dX3_rounds_110 rfl (m_X3_has (n := t) (by omega) (by omega) (nI_l (by omega))) (by decide) (Nat.le_of_ble_eq_true rfl) ⟨Nat.zero_le _, Nat.zero_le _⟩ ?_
    refine g_ifeqb (tgt := 129) (q := 116) C dX3_rounds_113 rfl (by decide) (fun c_113 => ?_) (fun c_113 => ?_)
    · refine g_iinc_8 (v := nI (i + 1)) (q := 132) C dX3_rounds_129 rfl (by rw [hN]; decide) (nI_1 i) ?_
      refine g_goto (tgt := 96) C dX3_rounds_132 (by decide) ?_
      first
        | (have X2 := X.pua hip (x := 1) (y := nI o)
           rw [gv_fly (hWi i (by omega)) hip (by rw [byP_ge (by omega)]; exact mg_st (hbt i c_113).2)] at X2
           exact ih (i + 1) _ (by omega) (by rw [byP, if_pos c_113]; exact X2) (fun m hm => by rw [u2_dn (by omega) (by omega)]; exact hfr m hm))
        | exact ih (i + 1) _ (by omega) (by rw [byP, if_neg (by rw [c_113]; decide)]; exact X) hfr
    · refine g_aload_0 (q := 117) C dX3_rounds_116 rfl ?_
      refine g_getc (q := 120) (m := 2) C f_X3_17 dX3_rounds_117 rfl rfl (IX.d0 I _ (by decide)) ?_
      refine g_iload_8 (q := 122) C dX3_rounds_120 rfl ?_
      refine g_aaP (q := 123) C dX3_rounds_122 rfl rfl (IX.d0 I _ (by decide)) rfl (by omega) (by decide) (XR.rp X (by assumption)) ?_
      refine g_iconst (v := 1) (q := 124) C dX3_rounds_123 rfl (by decide) ?_
      refine g_iload_7 (q := 126) C dX3_rounds_124 rfl ?_
      refine g_cv2v (q := 129) C cv_X3_154 dX3_rounds_126 rfl (IX.lp I (by assumption)) (IX.dp I (by assumption)) (m_X2_giveUp I hip _ _) (by decide) (Nat.le_of_ble_eq_true rfl) ⟨Nat.zero_le _, Nat.zero_le _⟩ ?_
      refine g_iinc_8 (v := nI (i + 1)) (q := 132) C dX3_rounds_129 rfl (by rw [hN]; decide) (nI_1 i) ?_
      refine g_goto (tgt := 96) C dX3_rounds_132 (by decide) ?_
      first
        | (have X2 := X.pua hip (x := 1) (y := nI o)
           rw [gv_fly (hWi i (by omega)) hip (by rw [byP_ge (by omega)]; exact mg_st (hbt i c_113).2)] at X2
           exact ih (i + 1) _ (by omega) (by rw [byP, if_pos c_113]; exact X2) (fun m hm => by rw [u2_dn (by omega) (by omega)]; exact hfr m hm))
        | exact ih (i + 1) _ (by omega) (by rw [byP, if_neg (by rw [c_113]; decide)]; exact X) hfr
theorem rx_20 (W : WP nF nP pa) (hn : nP ≤ 20) {f : Int32} {ov u : Nat} (h : rnL pa nP f ov nP 0 0 = some u) : u < 2 ^ 20 := Nat.lt_of_lt_of_le (tb_lt (fun p hp => ((rnL_some W rnJ_0 h).1 p hp).1)) (Nat.pow_le_pow_right (by decide) hn)
theorem rx_lt (W : WP nF nP pa) (hn : nP ≤ 20) {f : Int32} {ov u : Nat} (h : rnL pa nP f ov nP 0 0 = some u) : u < 2 ^ 31 := by
  have := rx_20 W hn h
  omega
theorem rx_pos (W : WP nF nP pa) (F : WF nF fl) (hn : nP ≤ 20) {f u : Nat} (hf : f < nF) (h0 : ¬ ovS fl pa nP f = 0) (h : rnL pa nP (nI f) (ovN fl pa nP f) nP 0 0 = some u) : 0 < u := by
  rcases Nat.eq_zero_or_pos u with e | e
  · exfalso
    subst e
    have h1 := (rnL_some W rnJ_0 h).2.1
    rw [sN_zero (fun p _ => by simp)] at h1
    exact h0 (by rw [ovS_N W F hn hf, show ovN fl pa nP f = 0 by omega]; rfl)
  · exact e
theorem fo_le (h v s : Nat) (hs : 1 ≤ s) : foN h v s ≤ h + v + s := by
  unfold foN
  split
  · omega
  · have := Nat.div_mul_le_self (h - v + s - 1) s
    omega
set_option maxHeartbeats 4000000 in
set_option maxRecDepth 100000 in
theorem m_X3_rounds (X : XR nF nP fl pa nu dm a r) (W : WP nF nP pa) (F : WF nF fl) (f1 v1 s1 : Int32) : MT g bs l yX3_rounds cX3_rounds 9 (some .int) 4 0 0 [.ref (ad 0), .int f1, .int v1, .int s1] ad dm a b r (fun v9 ad0 dm0 a0 b0 r0 => v9 = some (.int (roV fl pa nF nP f1 v1 s1)) ∧ ad0 = ad ∧ dm0 = dm ∧ b0 = b ∧ r0 = r ∧ XR nF nP fl (roP fl pa nF nP f1 v1 s1) nu dm a0 r ∧ ∀ m, 100 ≤ m → a0 m = a m) := by
  refine mt_of (by decide) [some (.ref (ad 0)), some (.int f1), some (.int v1), some (.int s1), none, none, none, none, none] rfl (Nat.le_of_ble_eq_true rfl) ?_
  intro E hg hbs hl hN C RT9 hcells hslots hname
  have I := X.1
  have hnF := I.1
  have hnP := I.2.1
  refine g_aload_0 (q := 1) C dX3_rounds_0 rfl ?_
  refine g_iload_1 (q := 2) C dX3_rounds_1 rfl ?_
  rcases hk : fok nF f1 with _ | _
  · refine g_cv1i (q := 5) C cv_X3_53 dX3_rounds_2 rfl rfl (IX.d0 I _ (by decide)) (m_X3_flightAt_n X hk) (by decide) (Nat.le_of_ble_eq_true rfl) ⟨Nat.zero_le _, Nat.zero_le _⟩ ?_
    refine g_astore_4N (q := 7) C dX3_rounds_5 rfl (by rw [hN]; decide) rfl ?_
    refine g_aload_4N (q := 9) C dX3_rounds_7 rfl ?_
    refine g_ifnullN (tgt := 34) C dX3_rounds_9 (by decide) ?_
    refine g_iconst (v := (-1)) (q := 35) C dX3_rounds_34 rfl (by decide) ?_
    exact g_iret C RT9 dX3_rounds_35 ⟨by rw [roV, if_neg (by first | (simp [hk]; done) | (simp [c_20]; done) | (simp [c_31]; done))], rfl, rfl, rfl, rfl, by rw [roP, if_neg (by first | (simp [hk]; done) | (simp [c_20]; done) | (simp [c_31]; done))]; exact X, fun _ _ => rfl⟩
  · obtain ⟨f, hf, rfl⟩ := fok_t hk (by omega)
    refine g_cv1i (q := 5) C cv_X3_53 dX3_rounds_2 rfl rfl (IX.d0 I _ (by decide)) (m_X3_flightAt_y X hf) (by decide) (Nat.le_of_ble_eq_true rfl) ⟨Nat.zero_le _, Nat.zero_le _⟩ ?_
    refine g_astore_4 (q := 7) C dX3_rounds_5 rfl (by rw [hN]; decide) rfl ?_
    refine g_aload_4 (q := 9) C dX3_rounds_7 rfl ?_
    refine g_ifnull (q := 12) C dX3_rounds_9 rfl ?_
    refine g_iload_2 (q := 13) C dX3_rounds_12 rfl ?_
    refine g_iconst (v := 0) (q := 14) C dX3_rounds_13 rfl (by decide) ?_
    refine g_sipush (v := 999) (q := 17) C dX3_rounds_14 rfl (by decide) ?_
    refine g_cs3i (q := 20) C cs_X3_46 dX3_rounds_17 rfl (m_X3_within _ _ _) (by decide) (Nat.le_of_ble_eq_true rfl) ⟨Nat.zero_le _, Nat.zero_le _⟩ ?_
    refine g_ifeqb (tgt := 34) (q := 23) C dX3_rounds_20 rfl (by decide) (fun c_20 => ?_) (fun c_20 => ?_)
    · refine g_iconst (v := (-1)) (q := 35) C dX3_rounds_34 rfl (by decide) ?_
      exact g_iret C RT9 dX3_rounds_35 ⟨by rw [roV, if_neg (by first | (simp [hk]; done) | (simp [c_20]; done) | (simp [c_31]; done))], rfl, rfl, rfl, rfl, by rw [roP, if_neg (by first | (simp [hk]; done) | (simp [c_20]; done) | (simp [c_31]; done))]; exact X, fun _ _ => rfl⟩
    · refine g_iload_3 (q := 24) C dX3_rounds_23 rfl ?_
      refine g_iconst (v := 1) (q := 25) C dX3_rounds_24 rfl (by decide) ?_
      refine g_sipush (v := 999) (q := 28) C dX3_rounds_25 rfl (by decide) ?_
      refine g_cs3i (q := 31) C cs_X3_46 dX3_rounds_28 rfl (m_X3_within _ _ _) (by decide) (Nat.le_of_ble_eq_true rfl) ⟨Nat.zero_le _, Nat.zero_le _⟩ ?_
      refine g_ifneb (tgt := 36) (q := 34) C dX3_rounds_31 rfl (by decide) (fun c_31 => ?_) (fun c_31 => ?_)
      · have hC : (fok nF (nI f) && inR v1 0 999 && inR s1 1 999) = true := by rw [hk, c_20, c_31]; rfl
        obtain ⟨v1a, v1b⟩ := inR_t c_20
        obtain ⟨s1a, s1b⟩ := inR_t c_31
        obtain ⟨v, hv, rfl⟩ := nI_of (x := v1) (Int32.not_lt.mpr v1a)
        obtain ⟨s, hs, rfl⟩ := nI_of (x := s1) (by rw [i_lt]; rw [i_le] at s1a; have : (1 : Int32).toInt = 1 := rfl; have : (0 : Int32).toInt = 0 := rfl; omega)
        rw [show (999 : Int32) = nI 999 from rfl, nI_leI (by omega) (by omega)] at v1b s1b
        rw [show (1 : Int32) = nI 1 from rfl, nI_leI (by omega) (by omega)] at s1a
        have hovl := ovN_le (fl := fl) W (f := f)
        refine g_aload_0 (q := 37) C dX3_rounds_36 rfl ?_
        refine g_aload_4 (q := 39) C dX3_rounds_37 rfl ?_
        refine g_cv1i (q := 42) C cv_X3_72 dX3_rounds_39 rfl rfl (IX.d0 I _ (by decide)) (m_X3_overOf X W F (by assumption)) (by decide) (Nat.le_of_ble_eq_true rfl) ⟨Nat.zero_le _, Nat.zero_le _⟩ ?_
        refine g_istore_5 (q := 44) C dX3_rounds_42 rfl (by rw [hN]; decide) rfl ?_
        refine g_iload_5 (q := 46) C dX3_rounds_44 rfl ?_
        refine g_if_ne (tgt := 51) (q := 49) C dX3_rounds_46 rfl (by decide) (fun c_46 => ?_) (fun c_46 => ?_)
        · rw [ovS_N W F hnP hf]
          refine g_aload_0 (q := 52) C dX3_rounds_51 rfl ?_
          refine g_aload_4 (q := 54) C dX3_rounds_52 rfl ?_
          refine g_iload_5 (q := 56) C dX3_rounds_54 rfl ?_
          refine g_cv2i (q := 59) C cv_X3_158 dX3_rounds_56 rfl rfl (IX.d0 I _ (by decide)) (m_X3_lowestBidders X W hf (by omega) rfl) (by decide) (Nat.le_of_ble_eq_true rfl) ⟨Nat.zero_le _, Nat.zero_le _⟩ ?_
          refine g_istore_6 (q := 61) C dX3_rounds_59 rfl (by rw [hN]; decide) rfl ?_
          refine g_iload_6 (q := 63) C dX3_rounds_61 rfl ?_
          refine g_if_ne (tgt := 69) (q := 66) C dX3_rounds_63 rfl (by decide) (fun c_63 => ?_) (fun c_63 => ?_)
          · obtain ⟨u, hu⟩ : ∃ u, rnL pa nP (nI f) (ovN fl pa nP f) nP 0 0 = some u := by
              cases h9 : rnL pa nP (nI f) (ovN fl pa nP f) nP 0 0 with
              | none => exact absurd (by rw [h9]; rfl) c_63
              | some u => exact ⟨u, rfl⟩
            rw [hu]
            have hut : u < 2 ^ 20 := rx_20 W hnP hu
            have hbt := (rnL_some W rnJ_0 hu).1
            have hh := hbN_le W hbt nP
            show G E 0 0 _ _ _ _ _ 69 [some (.ref (ad 0)), some (.int (nI f)), some (.int (nI v)), some (.int (nI s)), some (.ref (ad (20 + f))), some (.int (nI (ovN fl pa nP f))), some (.int (nI u)), none, none] []
            refine g_aload_0 (q := 70) C dX3_rounds_69 rfl ?_
            refine g_iload_6 (q := 72) C dX3_rounds_70 rfl ?_
            refine g_cv1i (q := 75) C cv_X3_162 dX3_rounds_72 rfl rfl (IX.d0 I _ (by decide)) (m_X3_highestBid X W hut hbt) (by decide) (Nat.le_of_ble_eq_true rfl) ⟨Nat.zero_le _, Nat.zero_le _⟩ ?_
            refine g_iload_2 (q := 76) C dX3_rounds_75 rfl ?_
            refine g_iload_3 (q := 77) C dX3_rounds_76 rfl ?_
            refine g_cs3i (q := 80) C cs_X3_165 dX3_rounds_77 rfl (m_X3_firstOffer hh v1b s1a s1b) (by decide) (Nat.le_of_ble_eq_true rfl) ⟨Nat.zero_le _, Nat.zero_le _⟩ ?_
            refine g_istore_7 (q := 82) C dX3_rounds_80 rfl (by rw [hN]; decide) rfl ?_
            have hfo := fo_le (hbN pa u nP) v s s1a
            refine g_iload_7 (q := 84) C dX3_rounds_82 rfl ?_
            refine g_sipush (v := 999) (q := 87) C dX3_rounds_84 rfl (by decide) ?_
            refine g_icmp_le (tgt := 93) (q := 90) C dX3_rounds_87 rfl (by decide) (fun c_87 => ?_) (fun c_87 => ?_)
            · refine g_iconst (v := 0) (q := 94) C dX3_rounds_93 rfl (by decide) ?_
              refine g_istore_8 (q := 96) C dX3_rounds_94 rfl (by rw [hN]; decide) rfl ?_
              rw [show (999 : Int32) = nI 999 from rfl, nI_leI (by omega) (by omega)] at c_87
              refine xr_loop C hN RT9 W hnF hnP hut c_87 hbt (fun a' h1 h2 => ⟨?_, rfl, rfl, rfl, rfl, ?_, h2⟩) nP 0 a (by omega) X (fun _ _ => rfl)
              · rw [roV, if_pos hC, cN_nI (by omega), if_neg c_46, cN_nI (by omega), cN_nI (by omega), roK, hu]; dsimp only; rw [if_pos c_87]
              · rw [roP, if_pos hC, cN_nI (by omega), if_neg c_46, cN_nI (by omega), cN_nI (by omega), roK, hu]; dsimp only; rw [if_pos c_87]; exact h1
            · refine g_bipush (v := (-2)) (q := 92) C dX3_rounds_90 rfl (by decide) ?_
              exact g_iret C RT9 dX3_rounds_92 ⟨by rw [show (999 : Int32) = nI 999 from rfl, nI_leI (by omega) (by omega)] at c_87; rw [roV, if_pos hC, cN_nI (by omega), if_neg c_46, cN_nI (by omega), cN_nI (by omega), roK, hu]; dsimp only; rw [if_neg c_87], rfl, rfl, rfl, rfl, by rw [show (999 : Int32) = nI 999 from rfl, nI_leI (by omega) (by omega)] at c_87; rw [roP, if_pos hC, cN_nI (by omega), if_neg c_46, cN_nI (by omega), cN_nI (by omega), roK, hu]; dsimp only; rw [if_neg c_87]; exact X, fun _ _ => rfl⟩
          · have hRn : rnL pa nP (nI f) (ovN fl pa nP f) nP 0 0 = none := by
              cases h9 : rnL pa nP (nI f) (ovN fl pa nP f) nP 0 0 with
              | none => rfl
              | some u => exact absurd (rx_pos W F hnP hf c_46 h9) (by rw [h9] at c_63; rw [(nI_eq (a := u) (b := 0) (rx_lt W hnP h9) (by decide)).mp c_63]; decide)
            refine g_bipush (v := (-2)) (q := 68) C dX3_rounds_66 rfl (by decide) ?_
            exact g_iret C RT9 dX3_rounds_68 ⟨by rw [roV, if_pos hC, cN_nI (by omega), if_neg c_46, cN_nI (by omega), cN_nI (by omega), roK, hRn], rfl, rfl, rfl, rfl, by rw [roP, if_pos hC, cN_nI (by omega), if_neg c_46, cN_nI (by omega), cN_nI (by omega), roK, hRn]; exact X, fun _ _ => rfl⟩
        · refine g_iload_2 (q := 50) C dX3_rounds_49 rfl ?_
          exact g_iret C RT9 dX3_rounds_50 ⟨by rw [roV, if_pos hC, cN_nI (by omega), if_pos c_46], rfl, rfl, rfl, rfl, by rw [roP, if_pos hC, cN_nI (by omega), if_pos c_46]; exact X, fun _ _ => rfl⟩
      · refine g_iconst (v := (-1)) (q := 35) C dX3_rounds_34 rfl (by decide) ?_
        exact g_iret C RT9 dX3_rounds_35 ⟨by rw [roV, if_neg (by first | (simp [hk]; done) | (simp [c_20]; done) | (simp [c_31]; done))], rfl, rfl, rfl, rfl, by rw [roP, if_neg (by first | (simp [hk]; done) | (simp [c_20]; done) | (simp [c_31]; done))]; exact X, fun _ _ => rfl⟩

end R32
