section M11
variable {g : GM} {bs : Nat} {l : Launch} {ad : Nat → Nat} {dm : Nat → Bool} {a : Nat → Nat → Int32} {b : Nat → Nat → Int64} {r : Nat → Nat → Option Nat} {nF nP : Nat}
set_option maxHeartbeats 4000000 in
set_option maxRecDepth 100000 in
theorem m_X4_mayGive (I : IM dm a nF nP) {q : Nat} (hq : q < nP) {x : Int32} (hx : x = nI q) (f : Int32) : MT g bs l yX4_mayGive cX4_mayGive 3 (some .boolean) 1 0 0 [.ref (ad 100), .int x, .int f] ad dm a b r (PX (some (.int (bI (mgS (a 102) f q)))) ad dm a b r) := by
  refine mt_of (by decide) [some (.ref (ad 100)), some (.int x), some (.int f)] rfl (Nat.le_of_ble_eq_true rfl) ?_
  intro E hg hbs hl hN C RT9 hcells hslots hname
  have hnF := I.2.2.1
  have hnP := I.2.2.2.2
  subst hx
  refine g_aload_0 (q := 1) C dX4_mayGive_0 rfl ?_
  refine g_iload_1 (q := 2) C dX4_mayGive_1 rfl ?_
  refine g_iconst (v := 0) (q := 3) C dX4_mayGive_2 rfl (by decide) ?_
  refine g_cv2i (q := 6) C cv_X4_70 dX4_mayGive_3 rfl rfl (IM.d I _ (by decide) (by decide)) (m_X4_get0 I (by omega) rfl) (by decide) (Nat.le_of_ble_eq_true rfl) ⟨Nat.zero_le _, Nat.zero_le _⟩ ?_
  refine g_iload_2 (q := 7) C dX4_mayGive_6 rfl ?_
  refine g_icmp_ne (tgt := 42) (q := 10) C dX4_mayGive_7 rfl (by decide) (fun c_7 => ?_) (fun c_7 => ?_)
  · refine g_iconst (v := 0) (q := 43) C dX4_mayGive_42 rfl (by decide) ?_
    exact g_zret C RT9 dX4_mayGive_43 rfl (pxi (by first | (simp [mgS, bI, c_7, c_16, c_26, c_35]) | (simp [mgS, bI, c_7, c_16, c_26]) | (simp [mgS, bI, c_7, c_16]) | (simp [mgS, bI, c_7])))
  · refine g_aload_0 (q := 11) C dX4_mayGive_10 rfl ?_
    refine g_iload_1 (q := 12) C dX4_mayGive_11 rfl ?_
    refine g_iconst (v := 5) (q := 13) C dX4_mayGive_12 rfl (by decide) ?_
    refine g_cv2i (q := 16) C cv_X4_70 dX4_mayGive_13 rfl rfl (IM.d I _ (by decide) (by decide)) (m_X4_get I (k := 5) (by omega) rfl rfl) (by decide) (Nat.le_of_ble_eq_true rfl) ⟨Nat.zero_le _, Nat.zero_le _⟩ ?_
    refine g_if_ne (tgt := 42) (q := 19) C dX4_mayGive_16 rfl (by decide) (fun c_16 => ?_) (fun c_16 => ?_)
    · refine g_iconst (v := 0) (q := 43) C dX4_mayGive_42 rfl (by decide) ?_
      exact g_zret C RT9 dX4_mayGive_43 rfl (pxi (by first | (simp [mgS, bI, c_7, c_16, c_26, c_35]) | (simp [mgS, bI, c_7, c_16, c_26]) | (simp [mgS, bI, c_7, c_16]) | (simp [mgS, bI, c_7])))
    · refine g_aload_0 (q := 20) C dX4_mayGive_19 rfl ?_
      refine g_iload_1 (q := 21) C dX4_mayGive_20 rfl ?_
      refine g_iconst (v := 3) (q := 22) C dX4_mayGive_21 rfl (by decide) ?_
      refine g_cv2i (q := 25) C cv_X4_70 dX4_mayGive_22 rfl rfl (IM.d I _ (by decide) (by decide)) (m_X4_get I (k := 3) (by omega) rfl rfl) (by decide) (Nat.le_of_ble_eq_true rfl) ⟨Nat.zero_le _, Nat.zero_le _⟩ ?_
      refine g_iconst (v := (-1)) (q := 26) C dX4_mayGive_25 rfl (by decide) ?_
      refine g_icmp_eq (tgt := 42) (q := 29) C dX4_mayGive_26 rfl (by decide) (fun c_26 => ?_) (fun c_26 => ?_)
      · refine g_iconst (v := 0) (q := 43) C dX4_mayGive_42 rfl (by decide) ?_
        exact g_zret C RT9 dX4_mayGive_43 rfl (pxi (by first | (simp [mgS, bI, c_7, c_16, c_26, c_35]) | (simp [mgS, bI, c_7, c_16, c_26]) | (simp [mgS, bI, c_7, c_16]) | (simp [mgS, bI, c_7])))
      · refine g_aload_0 (q := 30) C dX4_mayGive_29 rfl ?_
        refine g_iload_1 (q := 31) C dX4_mayGive_30 rfl ?_
        refine g_iconst (v := 4) (q := 32) C dX4_mayGive_31 rfl (by decide) ?_
        refine g_cv2i (q := 35) C cv_X4_70 dX4_mayGive_32 rfl rfl (IM.d I _ (by decide) (by decide)) (m_X4_get I (k := 4) (by omega) rfl rfl) (by decide) (Nat.le_of_ble_eq_true rfl) ⟨Nat.zero_le _, Nat.zero_le _⟩ ?_
        refine g_if_ne (tgt := 42) (q := 38) C dX4_mayGive_35 rfl (by decide) (fun c_35 => ?_) (fun c_35 => ?_)
        · refine g_iconst (v := 0) (q := 43) C dX4_mayGive_42 rfl (by decide) ?_
          exact g_zret C RT9 dX4_mayGive_43 rfl (pxi (by first | (simp [mgS, bI, c_7, c_16, c_26, c_35]) | (simp [mgS, bI, c_7, c_16, c_26]) | (simp [mgS, bI, c_7, c_16]) | (simp [mgS, bI, c_7])))
        · refine g_iconst (v := 1) (q := 39) C dX4_mayGive_38 rfl (by decide) ?_
          refine g_goto (tgt := 43) C dX4_mayGive_39 (by decide) ?_
          exact g_zret C RT9 dX4_mayGive_43 rfl (pxi (by first | (simp [mgS, bI, c_7, c_16, c_26, c_35]) | (simp [mgS, bI, c_7, c_16, c_26]) | (simp [mgS, bI, c_7, c_16]) | (simp [mgS, bI, c_7])))

set_option maxHeartbeats 4000000 in
set_option maxRecDepth 100000 in
theorem m_X4_lateOf (I : IM dm a nF nP) (W : WP nF nP (a 102)) {q : Nat} (hq : q < nP) {x : Int32} (hx : x = nI q) : MT g bs l yX4_lateOf cX4_lateOf 3 (some .int) 1 0 0 [.ref (ad 100), .int x] ad dm a b r (PX (some (.int (loS (a 101) (a 102) q))) ad dm a b r) := by
  refine mt_of (by decide) [some (.ref (ad 100)), some (.int x), none] rfl (Nat.le_of_ble_eq_true rfl) ?_
  intro E hg hbs hl hN C RT9 hcells hslots hname
  have hnF := I.2.2.1
  have hnP := I.2.2.2.2
  subst hx
  obtain ⟨⟨o, ho, eo⟩, -, -, -, -, -, -, h7, h8, -⟩ := W q hq
  refine g_aload_0 (q := 1) C dX4_lateOf_0 rfl ?_
  refine g_iload_1 (q := 2) C dX4_lateOf_1 rfl ?_
  refine g_bipush (v := 7) (q := 4) C dX4_lateOf_2 rfl (by decide) ?_
  refine g_cv2i (q := 7) C cv_X4_70 dX4_lateOf_4 rfl rfl (IM.d I _ (by decide) (by decide)) (m_X4_get I (k := 7) (by omega) rfl rfl) (by decide) (Nat.le_of_ble_eq_true rfl) ⟨Nat.zero_le _, Nat.zero_le _⟩ ?_
  refine g_iconst (v := (-1)) (q := 8) C dX4_lateOf_7 rfl (by decide) ?_
  refine g_icmp_ne (tgt := 13) (q := 11) C dX4_lateOf_8 rfl (by decide) (fun c_8 => ?_) (fun c_8 => ?_)
  · obtain ⟨i7, hi7, e7⟩ : ∃ i, i < nF ∧ a 102 (9 * q + 7) = nI i := h7.elim (fun h => absurd h c_8) id
    refine g_aload_0 (q := 14) C dX4_lateOf_13 rfl ?_
    refine g_iload_1 (q := 15) C dX4_lateOf_14 rfl ?_
    refine g_bipush (v := 8) (q := 17) C dX4_lateOf_15 rfl (by decide) ?_
    refine g_cv2i (q := 20) C cv_X4_70 dX4_lateOf_17 rfl rfl (IM.d I _ (by decide) (by decide)) (m_X4_get I (k := 8) (by omega) rfl rfl) (by decide) (Nat.le_of_ble_eq_true rfl) ⟨Nat.zero_le _, Nat.zero_le _⟩ ?_
    refine g_iconst (v := (-1)) (q := 21) C dX4_lateOf_20 rfl (by decide) ?_
    refine g_icmp_ne (tgt := 34) (q := 24) C dX4_lateOf_21 rfl (by decide) (fun c_21 => ?_) (fun c_21 => ?_)
    · obtain ⟨i8, hi8, e8⟩ : ∃ i, i < nF ∧ a 102 (9 * q + 8) = nI i := h8.elim (fun h => absurd h c_21) id
      refine g_aload_0 (q := 35) C dX4_lateOf_34 rfl ?_
      refine g_iload_1 (q := 36) C dX4_lateOf_35 rfl ?_
      refine g_bipush (v := 8) (q := 38) C dX4_lateOf_36 rfl (by decide) ?_
      refine g_cv2i (q := 41) C cv_X4_70 dX4_lateOf_38 rfl rfl (IM.d I _ (by decide) (by decide)) (m_X4_get I (k := 8) (by omega) rfl rfl) (by decide) (Nat.le_of_ble_eq_true rfl) ⟨Nat.zero_le _, Nat.zero_le _⟩ ?_
      first | rw [e8] | rw [e7]
      refine g_istore_2 (q := 42) C dX4_lateOf_41 rfl (by rw [hN]; decide) rfl ?_
      refine g_iconst (v := 0) (q := 43) C dX4_lateOf_42 rfl (by decide) ?_
      refine g_aload_0 (q := 44) C dX4_lateOf_43 rfl ?_
      refine g_iload_2 (q := 45) C dX4_lateOf_44 rfl ?_
      refine g_iconst (v := 3) (q := 46) C dX4_lateOf_45 rfl (by decide) ?_
      refine g_cv2i (q := 49) C cv_X4_74 dX4_lateOf_46 rfl rfl (IM.d I _ (by decide) (by decide)) (m_X4_of7 I (k := 3) (by omega) rfl rfl) (by decide) (Nat.le_of_ble_eq_true rfl) ⟨Nat.zero_le _, Nat.zero_le _⟩ ?_
      refine g_aload_0 (q := 50) C dX4_lateOf_49 rfl ?_
      refine g_aload_0 (q := 51) C dX4_lateOf_50 rfl ?_
      refine g_iload_1 (q := 52) C dX4_lateOf_51 rfl ?_
      refine g_iconst (v := 0) (q := 53) C dX4_lateOf_52 rfl (by decide) ?_
      refine g_cv2i (q := 56) C cv_X4_70 dX4_lateOf_53 rfl rfl (IM.d I _ (by decide) (by decide)) (m_X4_get0 I (by omega) rfl) (by decide) (Nat.le_of_ble_eq_true rfl) ⟨Nat.zero_le _, Nat.zero_le _⟩ ?_
      rw [eo]
      refine g_iconst (v := 3) (q := 57) C dX4_lateOf_56 rfl (by decide) ?_
      refine g_cv2i (q := 60) C cv_X4_74 dX4_lateOf_57 rfl rfl (IM.d I _ (by decide) (by decide)) (m_X4_of7 I (k := 3) (by omega) rfl rfl) (by decide) (Nat.le_of_ble_eq_true rfl) ⟨Nat.zero_le _, Nat.zero_le _⟩ ?_
      refine g_isub (q := 61) C dX4_lateOf_60 rfl ?_
      refine g_mmax (q := 64) C cm_X4_81 dX4_lateOf_61 rfl (by decide) (Nat.le_of_ble_eq_true rfl) ⟨Nat.zero_le _, Nat.zero_le _⟩ ?_
      exact g_iret C RT9 dX4_lateOf_64 (pxi (by rw [loS, if_neg c_8]; first | (rw [if_neg c_21, e8, eo, cN_nI (by omega), cN_nI (by omega)]; rfl) | (rw [if_pos c_21, e7, eo, cN_nI (by omega), cN_nI (by omega)]; rfl)))
    · refine g_aload_0 (q := 25) C dX4_lateOf_24 rfl ?_
      refine g_iload_1 (q := 26) C dX4_lateOf_25 rfl ?_
      refine g_bipush (v := 7) (q := 28) C dX4_lateOf_26 rfl (by decide) ?_
      refine g_cv2i (q := 31) C cv_X4_70 dX4_lateOf_28 rfl rfl (IM.d I _ (by decide) (by decide)) (m_X4_get I (k := 7) (by omega) rfl rfl) (by decide) (Nat.le_of_ble_eq_true rfl) ⟨Nat.zero_le _, Nat.zero_le _⟩ ?_
      refine g_goto (tgt := 41) C dX4_lateOf_31 (by decide) ?_
      first | rw [e8] | rw [e7]
      refine g_istore_2 (q := 42) C dX4_lateOf_41 rfl (by rw [hN]; decide) rfl ?_
      refine g_iconst (v := 0) (q := 43) C dX4_lateOf_42 rfl (by decide) ?_
      refine g_aload_0 (q := 44) C dX4_lateOf_43 rfl ?_
      refine g_iload_2 (q := 45) C dX4_lateOf_44 rfl ?_
      refine g_iconst (v := 3) (q := 46) C dX4_lateOf_45 rfl (by decide) ?_
      refine g_cv2i (q := 49) C cv_X4_74 dX4_lateOf_46 rfl rfl (IM.d I _ (by decide) (by decide)) (m_X4_of7 I (k := 3) (by omega) rfl rfl) (by decide) (Nat.le_of_ble_eq_true rfl) ⟨Nat.zero_le _, Nat.zero_le _⟩ ?_
      refine g_aload_0 (q := 50) C dX4_lateOf_49 rfl ?_
      refine g_aload_0 (q := 51) C dX4_lateOf_50 rfl ?_
      refine g_iload_1 (q := 52) C dX4_lateOf_51 rfl ?_
      refine g_iconst (v := 0) (q := 53) C dX4_lateOf_52 rfl (by decide) ?_
      refine g_cv2i (q := 56) C cv_X4_70 dX4_lateOf_53 rfl rfl (IM.d I _ (by decide) (by decide)) (m_X4_get0 I (by omega) rfl) (by decide) (Nat.le_of_ble_eq_true rfl) ⟨Nat.zero_le _, Nat.zero_le _⟩ ?_
      rw [eo]
      refine g_iconst (v := 3) (q := 57) C dX4_lateOf_56 rfl (by decide) ?_
      refine g_cv2i (q := 60) C cv_X4_74 dX4_lateOf_57 rfl rfl (IM.d I _ (by decide) (by decide)) (m_X4_of7 I (k := 3) (by omega) rfl rfl) (by decide) (Nat.le_of_ble_eq_true rfl) ⟨Nat.zero_le _, Nat.zero_le _⟩ ?_
      refine g_isub (q := 61) C dX4_lateOf_60 rfl ?_
      refine g_mmax (q := 64) C cm_X4_81 dX4_lateOf_61 rfl (by decide) (Nat.le_of_ble_eq_true rfl) ⟨Nat.zero_le _, Nat.zero_le _⟩ ?_
      exact g_iret C RT9 dX4_lateOf_64 (pxi (by rw [loS, if_neg c_8]; first | (rw [if_neg c_21, e8, eo, cN_nI (by omega), cN_nI (by omega)]; rfl) | (rw [if_pos c_21, e7, eo, cN_nI (by omega), cN_nI (by omega)]; rfl)))
  · refine g_iconst (v := (-1)) (q := 12) C dX4_lateOf_11 rfl (by decide) ?_
    exact g_iret C RT9 dX4_lateOf_12 (pxi (by rw [loS, if_pos c_8]))

set_option maxHeartbeats 4000000 in
set_option maxRecDepth 100000 in
theorem m_X4_claim (I : IM dm a nF nP) (W : WP nF nP (a 102)) {q : Nat} (hq : q < nP) {x : Int32} (hx : x = nI q) : MT g bs l yX4_claim cX4_claim 5 (some .int) 2 0 0 [.ref (ad 100), .int x] ad dm a b r (PX (some (.int (clS (a 101) (a 102) (a 103) q))) ad dm a b r) := by
  refine mt_of (by decide) [some (.ref (ad 100)), some (.int x), none, none, none] rfl (Nat.le_of_ble_eq_true rfl) ?_
  intro E hg hbs hl hN C RT9 hcells hslots hname
  have hnF := I.2.2.1
  have hnP := I.2.2.2.2
  subst hx
  obtain ⟨⟨o, ho, eo⟩, -⟩ := W q hq
  have J : ¬ a 102 (9 * q + 5) = 0 → ¬ a 102 (9 * q + 5) = 1 → ∀ mv bv : Int32, bv = bsS (a 101) (a 102) (a 103) q → G E 0 0 ad dm a b r 86 [some (.ref (ad 100)), some (.int (nI q)), some (.int mv), none, none] [.int bv] := by
    intro c_6 c_18 mv bv hbv
    subst hbv
    refine g_istore_3 (q := 87) C dX4_claim_86 rfl (by rw [hN]; decide) rfl ?_
    refine g_aload_0 (q := 88) C dX4_claim_87 rfl ?_
    refine g_iload_1 (q := 89) C dX4_claim_88 rfl ?_
    refine g_cv1i (q := 92) C cv_X4_89 dX4_claim_89 rfl rfl (IM.d I _ (by decide) (by decide)) (m_X4_lateOf I W (by assumption) rfl) (by decide) (Nat.le_of_ble_eq_true rfl) ⟨Nat.zero_le _, Nat.zero_le _⟩ ?_
    refine g_istore_4 (q := 94) C dX4_claim_92 rfl (by rw [hN]; decide) rfl ?_
    refine g_iload_4 (q := 96) C dX4_claim_94 rfl ?_
    refine g_iconst (v := (-1)) (q := 97) C dX4_claim_96 rfl (by decide) ?_
    refine g_icmp_eq (tgt := 112) (q := 100) C dX4_claim_97 rfl (by decide) (fun c_97 => ?_) (fun c_97 => ?_)
    · refine g_iload_4 (q := 114) C dX4_claim_112 rfl ?_
      refine g_iconst (v := (-1)) (q := 115) C dX4_claim_114 rfl (by decide) ?_
      refine g_icmp_eq (tgt := 130) (q := 118) C dX4_claim_115 rfl (by decide) (fun c_115 => ?_) (fun c_115 => ?_)
      · refine g_iload_3 (q := 131) C dX4_claim_130 rfl ?_
        refine g_aload_0 (q := 132) C dX4_claim_131 rfl ?_
        refine g_iload_1 (q := 133) C dX4_claim_132 rfl ?_
        refine g_iconst (v := 1) (q := 134) C dX4_claim_133 rfl (by decide) ?_
        refine g_cv2i (q := 137) C cv_X4_70 dX4_claim_134 rfl rfl (IM.d I _ (by decide) (by decide)) (m_X4_get I (k := 1) (by omega) rfl rfl) (by decide) (Nat.le_of_ble_eq_true rfl) ⟨Nat.zero_le _, Nat.zero_le _⟩ ?_
        refine g_imul (q := 138) C dX4_claim_137 rfl ?_
        exact g_iret C RT9 dX4_claim_138 (pxi (by rw [clS, if_neg c_6, if_neg c_18]; first | exact absurd c_97 c_115 | exact absurd c_115 c_97 | rw [if_pos c_97] | rw [if_neg c_97, if_pos (Int32.not_le.mp c_104)] | rw [if_neg c_97, if_neg (Int32.not_lt.mpr c_104), if_pos (Int32.not_le.mp c_123)] | rw [if_neg c_97, if_neg (Int32.not_lt.mpr c_104), if_neg (Int32.not_lt.mpr c_123)]))
      · refine g_iload_4 (q := 120) C dX4_claim_118 rfl ?_
        refine g_sipush (v := 240) (q := 123) C dX4_claim_120 rfl (by decide) ?_
        refine g_icmp_ge (tgt := 130) (q := 126) C dX4_claim_123 rfl (by decide) (fun c_123 => ?_) (fun c_123 => ?_)
        · refine g_iload_3 (q := 131) C dX4_claim_130 rfl ?_
          refine g_aload_0 (q := 132) C dX4_claim_131 rfl ?_
          refine g_iload_1 (q := 133) C dX4_claim_132 rfl ?_
          refine g_iconst (v := 1) (q := 134) C dX4_claim_133 rfl (by decide) ?_
          refine g_cv2i (q := 137) C cv_X4_70 dX4_claim_134 rfl rfl (IM.d I _ (by decide) (by decide)) (m_X4_get I (k := 1) (by omega) rfl rfl) (by decide) (Nat.le_of_ble_eq_true rfl) ⟨Nat.zero_le _, Nat.zero_le _⟩ ?_
          refine g_imul (q := 138) C dX4_claim_137 rfl ?_
          exact g_iret C RT9 dX4_claim_138 (pxi (by rw [clS, if_neg c_6, if_neg c_18]; first | exact absurd c_97 c_115 | exact absurd c_115 c_97 | rw [if_pos c_97] | rw [if_neg c_97, if_pos (Int32.not_le.mp c_104)] | rw [if_neg c_97, if_neg (Int32.not_lt.mpr c_104), if_pos (Int32.not_le.mp c_123)] | rw [if_neg c_97, if_neg (Int32.not_lt.mpr c_104), if_neg (Int32.not_lt.mpr c_123)]))
        · refine g_iload_3 (q := 127) C dX4_claim_126 rfl ?_
          refine g_iconst (v := 2) (q := 128) C dX4_claim_127 rfl (by decide) ?_
          refine g_idiv (q := 129) C dX4_claim_128 rfl (by decide) ?_
          refine g_istore_3 (q := 130) C dX4_claim_129 rfl (by rw [hN]; decide) rfl ?_
          refine g_iload_3 (q := 131) C dX4_claim_130 rfl ?_
          refine g_aload_0 (q := 132) C dX4_claim_131 rfl ?_
          refine g_iload_1 (q := 133) C dX4_claim_132 rfl ?_
          refine g_iconst (v := 1) (q := 134) C dX4_claim_133 rfl (by decide) ?_
          refine g_cv2i (q := 137) C cv_X4_70 dX4_claim_134 rfl rfl (IM.d I _ (by decide) (by decide)) (m_X4_get I (k := 1) (by omega) rfl rfl) (by decide) (Nat.le_of_ble_eq_true rfl) ⟨Nat.zero_le _, Nat.zero_le _⟩ ?_
          refine g_imul (q := 138) C dX4_claim_137 rfl ?_
          exact g_iret C RT9 dX4_claim_138 (pxi (by rw [clS, if_neg c_6, if_neg c_18]; first | exact absurd c_97 c_115 | exact absurd c_115 c_97 | rw [if_pos c_97] | rw [if_neg c_97, if_pos (Int32.not_le.mp c_104)] | rw [if_neg c_97, if_neg (Int32.not_lt.mpr c_104), if_pos (Int32.not_le.mp c_123)] | rw [if_neg c_97, if_neg (Int32.not_lt.mpr c_104), if_neg (Int32.not_lt.mpr c_123)]))
    · refine g_iload_4 (q := 102) C dX4_claim_100 rfl ?_
      refine g_bipush (v := 120) (q := 104) C dX4_claim_102 rfl (by decide) ?_
      refine g_icmp_ge (tgt := 112) (q := 107) C dX4_claim_104 rfl (by decide) (fun c_104 => ?_) (fun c_104 => ?_)
      · refine g_iload_4 (q := 114) C dX4_claim_112 rfl ?_
        refine g_iconst (v := (-1)) (q := 115) C dX4_claim_114 rfl (by decide) ?_
        refine g_icmp_eq (tgt := 130) (q := 118) C dX4_claim_115 rfl (by decide) (fun c_115 => ?_) (fun c_115 => ?_)
        · refine g_iload_3 (q := 131) C dX4_claim_130 rfl ?_
          refine g_aload_0 (q := 132) C dX4_claim_131 rfl ?_
          refine g_iload_1 (q := 133) C dX4_claim_132 rfl ?_
          refine g_iconst (v := 1) (q := 134) C dX4_claim_133 rfl (by decide) ?_
          refine g_cv2i (q := 137) C cv_X4_70 dX4_claim_134 rfl rfl (IM.d I _ (by decide) (by decide)) (m_X4_get I (k := 1) (by omega) rfl rfl) (by decide) (Nat.le_of_ble_eq_true rfl) ⟨Nat.zero_le _, Nat.zero_le _⟩ ?_
          refine g_imul (q := 138) C dX4_claim_137 rfl ?_
          exact g_iret C RT9 dX4_claim_138 (pxi (by rw [clS, if_neg c_6, if_neg c_18]; first | exact absurd c_97 c_115 | exact absurd c_115 c_97 | rw [if_pos c_97] | rw [if_neg c_97, if_pos (Int32.not_le.mp c_104)] | rw [if_neg c_97, if_neg (Int32.not_lt.mpr c_104), if_pos (Int32.not_le.mp c_123)] | rw [if_neg c_97, if_neg (Int32.not_lt.mpr c_104), if_neg (Int32.not_lt.mpr c_123)]))
        · refine g_iload_4 (q := 120) C dX4_claim_118 rfl ?_
          refine g_sipush (v := 240) (q := 123) C dX4_claim_120 rfl (by decide) ?_
          refine g_icmp_ge (tgt := 130) (q := 126) C dX4_claim_123 rfl (by decide) (fun c_123 => ?_) (fun c_123 => ?_)
          · refine g_iload_3 (q := 131) C dX4_claim_130 rfl ?_
            refine g_aload_0 (q := 132) C dX4_claim_131 rfl ?_
            refine g_iload_1 (q := 133) C dX4_claim_132 rfl ?_
            refine g_iconst (v := 1) (q := 134) C dX4_claim_133 rfl (by decide) ?_
            refine g_cv2i (q := 137) C cv_X4_70 dX4_claim_134 rfl rfl (IM.d I _ (by decide) (by decide)) (m_X4_get I (k := 1) (by omega) rfl rfl) (by decide) (Nat.le_of_ble_eq_true rfl) ⟨Nat.zero_le _, Nat.zero_le _⟩ ?_
            refine g_imul (q := 138) C dX4_claim_137 rfl ?_
            exact g_iret C RT9 dX4_claim_138 (pxi (by rw [clS, if_neg c_6, if_neg c_18]; first | exact absurd c_97 c_115 | exact absurd c_115 c_97 | rw [if_pos c_97] | rw [if_neg c_97, if_pos (Int32.not_le.mp c_104)] | rw [if_neg c_97, if_neg (Int32.not_lt.mpr c_104), if_pos (Int32.not_le.mp c_123)] | rw [if_neg c_97, if_neg (Int32.not_lt.mpr c_104), if_neg (Int32.not_lt.mpr c_123)]))
          · refine g_iload_3 (q := 127) C dX4_claim_126 rfl ?_
            refine g_iconst (v := 2) (q := 128) C dX4_claim_127 rfl (by decide) ?_
            refine g_idiv (q := 129) C dX4_claim_128 rfl (by decide) ?_
            refine g_istore_3 (q := 130) C dX4_claim_129 rfl (by rw [hN]; decide) rfl ?_
            refine g_iload_3 (q := 131) C dX4_claim_130 rfl ?_
            refine g_aload_0 (q := 132) C dX4_claim_131 rfl ?_
            refine g_iload_1 (q := 133) C dX4_claim_132 rfl ?_
            refine g_iconst (v := 1) (q := 134) C dX4_claim_133 rfl (by decide) ?_
            refine g_cv2i (q := 137) C cv_X4_70 dX4_claim_134 rfl rfl (IM.d I _ (by decide) (by decide)) (m_X4_get I (k := 1) (by omega) rfl rfl) (by decide) (Nat.le_of_ble_eq_true rfl) ⟨Nat.zero_le _, Nat.zero_le _⟩ ?_
            refine g_imul (q := 138) C dX4_claim_137 rfl ?_
            exact g_iret C RT9 dX4_claim_138 (pxi (by rw [clS, if_neg c_6, if_neg c_18]; first | exact absurd c_97 c_115 | exact absurd c_115 c_97 | rw [if_pos c_97] | rw [if_neg c_97, if_pos (Int32.not_le.mp c_104)] | rw [if_neg c_97, if_neg (Int32.not_lt.mpr c_104), if_pos (Int32.not_le.mp c_123)] | rw [if_neg c_97, if_neg (Int32.not_lt.mpr c_104), if_neg (Int32.not_lt.mpr c_123)]))
      · refine g_iconst (v := 0) (q := 108) C dX4_claim_107 rfl (by decide) ?_
        refine g_istore_3 (q := 109) C dX4_claim_108 rfl (by rw [hN]; decide) rfl ?_
        refine g_goto (tgt := 130) C dX4_claim_109 (by decide) ?_
        refine g_iload_3 (q := 131) C dX4_claim_130 rfl ?_
        refine g_aload_0 (q := 132) C dX4_claim_131 rfl ?_
        refine g_iload_1 (q := 133) C dX4_claim_132 rfl ?_
        refine g_iconst (v := 1) (q := 134) C dX4_claim_133 rfl (by decide) ?_
        refine g_cv2i (q := 137) C cv_X4_70 dX4_claim_134 rfl rfl (IM.d I _ (by decide) (by decide)) (m_X4_get I (k := 1) (by omega) rfl rfl) (by decide) (Nat.le_of_ble_eq_true rfl) ⟨Nat.zero_le _, Nat.zero_le _⟩ ?_
        refine g_imul (q := 138) C dX4_claim_137 rfl ?_
        exact g_iret C RT9 dX4_claim_138 (pxi (by rw [clS, if_neg c_6, if_neg c_18]; first | exact absurd c_97 c_115 | exact absurd c_115 c_97 | rw [if_pos c_97] | rw [if_neg c_97, if_pos (Int32.not_le.mp c_104)] | rw [if_neg c_97, if_neg (Int32.not_lt.mpr c_104), if_pos (Int32.not_le.mp c_123)] | rw [if_neg c_97, if_neg (Int32.not_lt.mpr c_104), if_neg (Int32.not_lt.mpr c_123)]))
  refine g_aload_0 (q := 1) C dX4_claim_0 rfl ?_
  refine g_iload_1 (q := 2) C dX4_claim_1 rfl ?_
  refine g_iconst (v := 5) (q := 3) C dX4_claim_2 rfl (by decide) ?_
  refine g_cv2i (q := 6) C cv_X4_70 dX4_claim_3 rfl rfl (IM.d I _ (by decide) (by decide)) (m_X4_get I (k := 5) (by omega) rfl rfl) (by decide) (Nat.le_of_ble_eq_true rfl) ⟨Nat.zero_le _, Nat.zero_le _⟩ ?_
  refine g_if_ne (tgt := 11) (q := 9) C dX4_claim_6 rfl (by decide) (fun c_6 => ?_) (fun c_6 => ?_)
  · refine g_aload_0 (q := 12) C dX4_claim_11 rfl ?_
    refine g_iload_1 (q := 13) C dX4_claim_12 rfl ?_
    refine g_iconst (v := 5) (q := 14) C dX4_claim_13 rfl (by decide) ?_
    refine g_cv2i (q := 17) C cv_X4_70 dX4_claim_14 rfl rfl (IM.d I _ (by decide) (by decide)) (m_X4_get I (k := 5) (by omega) rfl rfl) (by decide) (Nat.le_of_ble_eq_true rfl) ⟨Nat.zero_le _, Nat.zero_le _⟩ ?_
    refine g_iconst (v := 1) (q := 18) C dX4_claim_17 rfl (by decide) ?_
    refine g_icmp_ne (tgt := 36) (q := 21) C dX4_claim_18 rfl (by decide) (fun c_18 => ?_) (fun c_18 => ?_)
    · refine g_aload_0 (q := 37) C dX4_claim_36 rfl ?_
      refine g_aload_0 (q := 38) C dX4_claim_37 rfl ?_
      refine g_iload_1 (q := 39) C dX4_claim_38 rfl ?_
      refine g_iconst (v := 0) (q := 40) C dX4_claim_39 rfl (by decide) ?_
      refine g_cv2i (q := 43) C cv_X4_70 dX4_claim_40 rfl rfl (IM.d I _ (by decide) (by decide)) (m_X4_get0 I (by omega) rfl) (by decide) (Nat.le_of_ble_eq_true rfl) ⟨Nat.zero_le _, Nat.zero_le _⟩ ?_
      rw [eo]
      refine g_iconst (v := 5) (q := 44) C dX4_claim_43 rfl (by decide) ?_
      refine g_cv2i (q := 47) C cv_X4_74 dX4_claim_44 rfl rfl (IM.d I _ (by decide) (by decide)) (m_X4_of7 I (k := 5) (by omega) rfl rfl) (by decide) (Nat.le_of_ble_eq_true rfl) ⟨Nat.zero_le _, Nat.zero_le _⟩ ?_
      refine g_istore_2 (q := 48) C dX4_claim_47 rfl (by rw [hN]; decide) rfl ?_
      refine g_iload_2 (q := 49) C dX4_claim_48 rfl ?_
      refine g_sipush (v := 1500) (q := 52) C dX4_claim_49 rfl (by decide) ?_
      refine g_icmp_gt (tgt := 64) (q := 55) C dX4_claim_52 rfl (by decide) (fun c_52 => ?_) (fun c_52 => ?_)
      · refine g_iload_2 (q := 65) C dX4_claim_64 rfl ?_
        refine g_sipush (v := 3500) (q := 68) C dX4_claim_65 rfl (by decide) ?_
        refine g_icmp_gt (tgt := 80) (q := 71) C dX4_claim_68 rfl (by decide) (fun c_68 => ?_) (fun c_68 => ?_)
        · refine g_aload_0 (q := 81) C dX4_claim_80 rfl ?_
          refine g_getc (q := 84) (m := 103) C f_X4_16 dX4_claim_81 rfl rfl (IM.d I _ (by decide) (by decide)) ?_
          refine g_iconst (v := 3) (q := 85) C dX4_claim_84 rfl (by decide) ?_
          refine g_ia (q := 86) C dX4_claim_85 rfl rfl (IM.d I _ (by decide) (by decide)) (show _ = nI 3 from rfl) (by decide) (by decide) ?_
          exact J c_6 c_18 _ _ (by first | rw [bsS, eo, cN_nI (by omega), if_pos (Int32.not_lt.mp c_52)] | rw [bsS, eo, cN_nI (by omega), if_neg (Int32.not_le.mpr c_52), if_pos (Int32.not_lt.mp c_68)] | rw [bsS, eo, cN_nI (by omega), if_neg (Int32.not_le.mpr c_52), if_neg (Int32.not_le.mpr c_68)])
        · refine g_aload_0 (q := 72) C dX4_claim_71 rfl ?_
          refine g_getc (q := 75) (m := 103) C f_X4_16 dX4_claim_72 rfl rfl (IM.d I _ (by decide) (by decide)) ?_
          refine g_iconst (v := 2) (q := 76) C dX4_claim_75 rfl (by decide) ?_
          refine g_ia (q := 77) C dX4_claim_76 rfl rfl (IM.d I _ (by decide) (by decide)) (show _ = nI 2 from rfl) (by decide) (by decide) ?_
          refine g_goto (tgt := 86) C dX4_claim_77 (by decide) ?_
          exact J c_6 c_18 _ _ (by first | rw [bsS, eo, cN_nI (by omega), if_pos (Int32.not_lt.mp c_52)] | rw [bsS, eo, cN_nI (by omega), if_neg (Int32.not_le.mpr c_52), if_pos (Int32.not_lt.mp c_68)] | rw [bsS, eo, cN_nI (by omega), if_neg (Int32.not_le.mpr c_52), if_neg (Int32.not_le.mpr c_68)])
      · refine g_aload_0 (q := 56) C dX4_claim_55 rfl ?_
        refine g_getc (q := 59) (m := 103) C f_X4_16 dX4_claim_56 rfl rfl (IM.d I _ (by decide) (by decide)) ?_
        refine g_iconst (v := 1) (q := 60) C dX4_claim_59 rfl (by decide) ?_
        refine g_ia (q := 61) C dX4_claim_60 rfl rfl (IM.d I _ (by decide) (by decide)) (show _ = nI 1 from rfl) (by decide) (by decide) ?_
        refine g_goto (tgt := 86) C dX4_claim_61 (by decide) ?_
        exact J c_6 c_18 _ _ (by first | rw [bsS, eo, cN_nI (by omega), if_pos (Int32.not_lt.mp c_52)] | rw [bsS, eo, cN_nI (by omega), if_neg (Int32.not_le.mpr c_52), if_pos (Int32.not_lt.mp c_68)] | rw [bsS, eo, cN_nI (by omega), if_neg (Int32.not_le.mpr c_52), if_neg (Int32.not_le.mpr c_68)])
    · refine g_aload_0 (q := 22) C dX4_claim_21 rfl ?_
      refine g_iload_1 (q := 23) C dX4_claim_22 rfl ?_
      refine g_bipush (v := 6) (q := 25) C dX4_claim_23 rfl (by decide) ?_
      refine g_cv2i (q := 28) C cv_X4_70 dX4_claim_25 rfl rfl (IM.d I _ (by decide) (by decide)) (m_X4_get I (k := 6) (by omega) rfl rfl) (by decide) (Nat.le_of_ble_eq_true rfl) ⟨Nat.zero_le _, Nat.zero_le _⟩ ?_
      refine g_aload_0 (q := 29) C dX4_claim_28 rfl ?_
      refine g_iload_1 (q := 30) C dX4_claim_29 rfl ?_
      refine g_iconst (v := 1) (q := 31) C dX4_claim_30 rfl (by decide) ?_
      refine g_cv2i (q := 34) C cv_X4_70 dX4_claim_31 rfl rfl (IM.d I _ (by decide) (by decide)) (m_X4_get I (k := 1) (by omega) rfl rfl) (by decide) (Nat.le_of_ble_eq_true rfl) ⟨Nat.zero_le _, Nat.zero_le _⟩ ?_
      refine g_imul (q := 35) C dX4_claim_34 rfl ?_
      exact g_iret C RT9 dX4_claim_35 (pxi (by rw [clS, if_neg c_6, if_pos c_18]))
  · refine g_iconst (v := 0) (q := 10) C dX4_claim_9 rfl (by decide) ?_
    exact g_iret C RT9 dX4_claim_10 (pxi (by rw [clS, if_pos c_6]))

set_option maxHeartbeats 4000000 in
set_option maxRecDepth 100000 in
theorem m_X4_lateBy (I : IM dm a nF nP) (W : WP nF nP (a 102)) {q : Nat} (hq : q < nP) {x : Int32} (hx : x = nI q) (f1 f2 : Int32) : MT g bs l yX4_lateBy cX4_lateBy 6 (some .int) 2 0 0 [.ref (ad 100), .int x, .int f1, .int f2] ad dm a b r (PX (some (.int (lbI (a 101) (a 103) nF (cN (a 102 (9 * q))) f1 f2))) ad dm a b r) := by
  refine mt_of (by decide) [some (.ref (ad 100)), some (.int x), some (.int f1), some (.int f2), none, none] rfl (Nat.le_of_ble_eq_true rfl) ?_
  intro E hg hbs hl hN C RT9 hcells hslots hname
  have hnF := I.2.2.1
  have hnP := I.2.2.2.2
  subst hx
  obtain ⟨o, ho, eo⟩ := (W q hq).1
  have J : ∀ (z : Nat), z < nF → (¬ a 101 (7 * z + 1) = a 101 (7 * o + 1) → -1 = lbI (a 101) (a 103) nF (cN (a 102 (9 * q))) f1 f2) → (a 101 (7 * z + 1) = a 101 (7 * o + 1) → ltS (a 101) o z = lbI (a 101) (a 103) nF (cN (a 102 (9 * q))) f1 f2) → G E 0 0 ad dm a b r 136 [some (.ref (ad 100)), some (.int (nI q)), some (.int f1), some (.int f2), some (.int (nI o)), some (.int (nI z))] [] := by
    intro z hz hf1 hf2
    refine g_aload_0 (q := 137) C dX4_lateBy_136 rfl ?_
    refine g_iload_5 (q := 139) C dX4_lateBy_137 rfl ?_
    refine g_iconst (v := 1) (q := 140) C dX4_lateBy_139 rfl (by decide) ?_
    refine g_cv2i (q := 143) C cv_X4_74 dX4_lateBy_140 rfl rfl (IM.d I _ (by decide) (by decide)) (m_X4_of7 I (k := 1) (by omega) rfl rfl) (by decide) (Nat.le_of_ble_eq_true rfl) ⟨Nat.zero_le _, Nat.zero_le _⟩ ?_
    refine g_aload_0 (q := 144) C dX4_lateBy_143 rfl ?_
    refine g_iload_4 (q := 146) C dX4_lateBy_144 rfl ?_
    refine g_iconst (v := 1) (q := 147) C dX4_lateBy_146 rfl (by decide) ?_
    refine g_cv2i (q := 150) C cv_X4_74 dX4_lateBy_147 rfl rfl (IM.d I _ (by decide) (by decide)) (m_X4_of7 I (k := 1) (by omega) rfl rfl) (by decide) (Nat.le_of_ble_eq_true rfl) ⟨Nat.zero_le _, Nat.zero_le _⟩ ?_
    refine g_icmp_eq (tgt := 155) (q := 153) C dX4_lateBy_150 rfl (by decide) (fun c_150 => ?_) (fun c_150 => ?_)
    · refine g_iconst (v := 0) (q := 156) C dX4_lateBy_155 rfl (by decide) ?_
      refine g_aload_0 (q := 157) C dX4_lateBy_156 rfl ?_
      refine g_iload_5 (q := 159) C dX4_lateBy_157 rfl ?_
      refine g_iconst (v := 3) (q := 160) C dX4_lateBy_159 rfl (by decide) ?_
      refine g_cv2i (q := 163) C cv_X4_74 dX4_lateBy_160 rfl rfl (IM.d I _ (by decide) (by decide)) (m_X4_of7 I (k := 3) (by omega) rfl rfl) (by decide) (Nat.le_of_ble_eq_true rfl) ⟨Nat.zero_le _, Nat.zero_le _⟩ ?_
      refine g_aload_0 (q := 164) C dX4_lateBy_163 rfl ?_
      refine g_iload_4 (q := 166) C dX4_lateBy_164 rfl ?_
      refine g_iconst (v := 3) (q := 167) C dX4_lateBy_166 rfl (by decide) ?_
      refine g_cv2i (q := 170) C cv_X4_74 dX4_lateBy_167 rfl rfl (IM.d I _ (by decide) (by decide)) (m_X4_of7 I (k := 3) (by omega) rfl rfl) (by decide) (Nat.le_of_ble_eq_true rfl) ⟨Nat.zero_le _, Nat.zero_le _⟩ ?_
      refine g_isub (q := 171) C dX4_lateBy_170 rfl ?_
      refine g_mmax (q := 174) C cm_X4_81 dX4_lateBy_171 rfl (by decide) (Nat.le_of_ble_eq_true rfl) ⟨Nat.zero_le _, Nat.zero_le _⟩ ?_
      exact g_iret C RT9 dX4_lateBy_174 (pxi (hf2 c_150))
    · refine g_iconst (v := (-1)) (q := 154) C dX4_lateBy_153 rfl (by decide) ?_
      exact g_iret C RT9 dX4_lateBy_154 (pxi (hf1 c_150))
  refine g_aload_0 (q := 1) C dX4_lateBy_0 rfl ?_
  refine g_iload_1 (q := 2) C dX4_lateBy_1 rfl ?_
  refine g_iconst (v := 0) (q := 3) C dX4_lateBy_2 rfl (by decide) ?_
  refine g_cv2i (q := 6) C cv_X4_70 dX4_lateBy_3 rfl rfl (IM.d I _ (by decide) (by decide)) (m_X4_get0 I (by omega) rfl) (by decide) (Nat.le_of_ble_eq_true rfl) ⟨Nat.zero_le _, Nat.zero_le _⟩ ?_
  rw [eo]
  refine g_istore_4 (q := 8) C dX4_lateBy_6 rfl (by rw [hN]; decide) rfl ?_
  refine g_aload_0 (q := 9) C dX4_lateBy_8 rfl ?_
  refine g_iload_2 (q := 10) C dX4_lateBy_9 rfl ?_
  refine g_cv1i (q := 13) C cv_X4_66 dX4_lateBy_10 rfl rfl (IM.d I _ (by decide) (by decide)) (m_X4_isFlight I _) (by decide) (Nat.le_of_ble_eq_true rfl) ⟨Nat.zero_le _, Nat.zero_le _⟩ ?_
  refine g_ifeqb (tgt := 65) (q := 16) C dX4_lateBy_13 rfl (by decide) (fun c_13 => ?_) (fun c_13 => ?_)
  · refine g_iconst (v := (-1)) (q := 66) C dX4_lateBy_65 rfl (by decide) ?_
    exact g_iret C RT9 dX4_lateBy_66 (pxi (by rw [eo, cN_nI (by omega)]; first | exact lb_f1 c_13 | exact lb_w1 hi hnF (w1_d c_62) | exact lb_w1 hi hnF (w1_c c_46) | exact lb_w1 hi hnF (w1_b c_30) | exact lb_w1 hi hnF (w1_a c_19 (by omega) (by omega))))
  · obtain ⟨i, hi, rfl⟩ := fok_t c_13 (by omega)
    refine g_iload_2 (q := 17) C dX4_lateBy_16 rfl ?_
    refine g_iload_4 (q := 19) C dX4_lateBy_17 rfl ?_
    refine g_icmp_eq (tgt := 65) (q := 22) C dX4_lateBy_19 rfl (by decide) (fun c_19 => ?_) (fun c_19 => ?_)
    · refine g_iconst (v := (-1)) (q := 66) C dX4_lateBy_65 rfl (by decide) ?_
      exact g_iret C RT9 dX4_lateBy_66 (pxi (by rw [eo, cN_nI (by omega)]; first | exact lb_f1 c_13 | exact lb_w1 hi hnF (w1_d c_62) | exact lb_w1 hi hnF (w1_c c_46) | exact lb_w1 hi hnF (w1_b c_30) | exact lb_w1 hi hnF (w1_a c_19 (by omega) (by omega))))
    · refine g_aload_0 (q := 23) C dX4_lateBy_22 rfl ?_
      refine g_iload_2 (q := 24) C dX4_lateBy_23 rfl ?_
      refine g_bipush (v := 6) (q := 26) C dX4_lateBy_24 rfl (by decide) ?_
      refine g_cv2i (q := 29) C cv_X4_74 dX4_lateBy_26 rfl rfl (IM.d I _ (by decide) (by decide)) (m_X4_of7 I (k := 6) (by omega) rfl rfl) (by decide) (Nat.le_of_ble_eq_true rfl) ⟨Nat.zero_le _, Nat.zero_le _⟩ ?_
      refine g_iconst (v := 1) (q := 30) C dX4_lateBy_29 rfl (by decide) ?_
      refine g_icmp_eq (tgt := 65) (q := 33) C dX4_lateBy_30 rfl (by decide) (fun c_30 => ?_) (fun c_30 => ?_)
      · refine g_iconst (v := (-1)) (q := 66) C dX4_lateBy_65 rfl (by decide) ?_
        exact g_iret C RT9 dX4_lateBy_66 (pxi (by rw [eo, cN_nI (by omega)]; first | exact lb_f1 c_13 | exact lb_w1 hi hnF (w1_d c_62) | exact lb_w1 hi hnF (w1_c c_46) | exact lb_w1 hi hnF (w1_b c_30) | exact lb_w1 hi hnF (w1_a c_19 (by omega) (by omega))))
      · refine g_aload_0 (q := 34) C dX4_lateBy_33 rfl ?_
        refine g_iload_2 (q := 35) C dX4_lateBy_34 rfl ?_
        refine g_iconst (v := 0) (q := 36) C dX4_lateBy_35 rfl (by decide) ?_
        refine g_cv2i (q := 39) C cv_X4_74 dX4_lateBy_36 rfl rfl (IM.d I _ (by decide) (by decide)) (m_X4_of70 I (by omega) rfl) (by decide) (Nat.le_of_ble_eq_true rfl) ⟨Nat.zero_le _, Nat.zero_le _⟩ ?_
        refine g_aload_0 (q := 40) C dX4_lateBy_39 rfl ?_
        refine g_iload_4 (q := 42) C dX4_lateBy_40 rfl ?_
        refine g_iconst (v := 0) (q := 43) C dX4_lateBy_42 rfl (by decide) ?_
        refine g_cv2i (q := 46) C cv_X4_74 dX4_lateBy_43 rfl rfl (IM.d I _ (by decide) (by decide)) (m_X4_of70 I (by omega) rfl) (by decide) (Nat.le_of_ble_eq_true rfl) ⟨Nat.zero_le _, Nat.zero_le _⟩ ?_
        refine g_icmp_ne (tgt := 65) (q := 49) C dX4_lateBy_46 rfl (by decide) (fun c_46 => ?_) (fun c_46 => ?_)
        · refine g_iconst (v := (-1)) (q := 66) C dX4_lateBy_65 rfl (by decide) ?_
          exact g_iret C RT9 dX4_lateBy_66 (pxi (by rw [eo, cN_nI (by omega)]; first | exact lb_f1 c_13 | exact lb_w1 hi hnF (w1_d c_62) | exact lb_w1 hi hnF (w1_c c_46) | exact lb_w1 hi hnF (w1_b c_30) | exact lb_w1 hi hnF (w1_a c_19 (by omega) (by omega))))
        · refine g_aload_0 (q := 50) C dX4_lateBy_49 rfl ?_
          refine g_iload_2 (q := 51) C dX4_lateBy_50 rfl ?_
          refine g_iconst (v := 2) (q := 52) C dX4_lateBy_51 rfl (by decide) ?_
          refine g_cv2i (q := 55) C cv_X4_74 dX4_lateBy_52 rfl rfl (IM.d I _ (by decide) (by decide)) (m_X4_of7 I (k := 2) (by omega) rfl rfl) (by decide) (Nat.le_of_ble_eq_true rfl) ⟨Nat.zero_le _, Nat.zero_le _⟩ ?_
          refine g_aload_0 (q := 56) C dX4_lateBy_55 rfl ?_
          refine g_iload_4 (q := 58) C dX4_lateBy_56 rfl ?_
          refine g_iconst (v := 2) (q := 59) C dX4_lateBy_58 rfl (by decide) ?_
          refine g_cv2i (q := 62) C cv_X4_74 dX4_lateBy_59 rfl rfl (IM.d I _ (by decide) (by decide)) (m_X4_of7 I (k := 2) (by omega) rfl rfl) (by decide) (Nat.le_of_ble_eq_true rfl) ⟨Nat.zero_le _, Nat.zero_le _⟩ ?_
          refine g_icmp_ge (tgt := 67) (q := 65) C dX4_lateBy_62 rfl (by decide) (fun c_62 => ?_) (fun c_62 => ?_)
          · refine g_iload_2 (q := 68) C dX4_lateBy_67 rfl ?_
            refine g_istore_5 (q := 70) C dX4_lateBy_68 rfl (by rw [hN]; decide) rfl ?_
            refine g_iload_3 (q := 71) C dX4_lateBy_70 rfl ?_
            refine g_iconst (v := (-1)) (q := 72) C dX4_lateBy_71 rfl (by decide) ?_
            refine g_icmp_eq (tgt := 136) (q := 75) C dX4_lateBy_72 rfl (by decide) (fun c_72 => ?_) (fun c_72 => ?_)
            · first | exact J j hj (fun z => by rw [eo, cN_nI (by omega)]; exact lb_2n hi hj hnF (w1_t c_19 c_30 c_46 c_62) (w2_t c_91 c_106 c_128) z) (fun z => by rw [eo, cN_nI (by omega)]; exact lb_2y hi hj hnF (w1_t c_19 c_30 c_46 c_62) (w2_t c_91 c_106 c_128) z) | exact J i hi (fun z => by rw [eo, cN_nI (by omega)]; exact lb_1n hi hnF (w1_t c_19 c_30 c_46 c_62) c_72 z) (fun z => by rw [eo, cN_nI (by omega)]; exact lb_1y hi hnF (w1_t c_19 c_30 c_46 c_62) c_72 z)
            · refine g_aload_0 (q := 76) C dX4_lateBy_75 rfl ?_
              refine g_iload_3 (q := 77) C dX4_lateBy_76 rfl ?_
              refine g_cv1i (q := 80) C cv_X4_66 dX4_lateBy_77 rfl rfl (IM.d I _ (by decide) (by decide)) (m_X4_isFlight I _) (by decide) (Nat.le_of_ble_eq_true rfl) ⟨Nat.zero_le _, Nat.zero_le _⟩ ?_
              refine g_ifeqb (tgt := 131) (q := 83) C dX4_lateBy_80 rfl (by decide) (fun c_80 => ?_) (fun c_80 => ?_)
              · refine g_iconst (v := (-1)) (q := 132) C dX4_lateBy_131 rfl (by decide) ?_
                exact g_iret C RT9 dX4_lateBy_132 (pxi (by rw [eo, cN_nI (by omega)]; first | exact lb_f2 hi hnF c_72 c_80 | exact lb_w2 hi hj hnF (w2_d c_128) | exact lb_w2 hi hj hnF (w2_c c_106) | exact lb_w2 hi hj hnF (w2_b c_91)))
              · obtain ⟨j, hj, rfl⟩ := fok_t c_80 (by omega)
                refine g_aload_0 (q := 84) C dX4_lateBy_83 rfl ?_
                refine g_iload_3 (q := 85) C dX4_lateBy_84 rfl ?_
                refine g_bipush (v := 6) (q := 87) C dX4_lateBy_85 rfl (by decide) ?_
                refine g_cv2i (q := 90) C cv_X4_74 dX4_lateBy_87 rfl rfl (IM.d I _ (by decide) (by decide)) (m_X4_of7 I (k := 6) (by omega) rfl rfl) (by decide) (Nat.le_of_ble_eq_true rfl) ⟨Nat.zero_le _, Nat.zero_le _⟩ ?_
                refine g_iconst (v := 1) (q := 91) C dX4_lateBy_90 rfl (by decide) ?_
                refine g_icmp_eq (tgt := 131) (q := 94) C dX4_lateBy_91 rfl (by decide) (fun c_91 => ?_) (fun c_91 => ?_)
                · refine g_iconst (v := (-1)) (q := 132) C dX4_lateBy_131 rfl (by decide) ?_
                  exact g_iret C RT9 dX4_lateBy_132 (pxi (by rw [eo, cN_nI (by omega)]; first | exact lb_f2 hi hnF c_72 c_80 | exact lb_w2 hi hj hnF (w2_d c_128) | exact lb_w2 hi hj hnF (w2_c c_106) | exact lb_w2 hi hj hnF (w2_b c_91)))
                · refine g_aload_0 (q := 95) C dX4_lateBy_94 rfl ?_
                  refine g_iload_3 (q := 96) C dX4_lateBy_95 rfl ?_
                  refine g_iconst (v := 0) (q := 97) C dX4_lateBy_96 rfl (by decide) ?_
                  refine g_cv2i (q := 100) C cv_X4_74 dX4_lateBy_97 rfl rfl (IM.d I _ (by decide) (by decide)) (m_X4_of70 I (by omega) rfl) (by decide) (Nat.le_of_ble_eq_true rfl) ⟨Nat.zero_le _, Nat.zero_le _⟩ ?_
                  refine g_aload_0 (q := 101) C dX4_lateBy_100 rfl ?_
                  refine g_iload_2 (q := 102) C dX4_lateBy_101 rfl ?_
                  refine g_iconst (v := 1) (q := 103) C dX4_lateBy_102 rfl (by decide) ?_
                  refine g_cv2i (q := 106) C cv_X4_74 dX4_lateBy_103 rfl rfl (IM.d I _ (by decide) (by decide)) (m_X4_of7 I (k := 1) (by omega) rfl rfl) (by decide) (Nat.le_of_ble_eq_true rfl) ⟨Nat.zero_le _, Nat.zero_le _⟩ ?_
                  refine g_icmp_ne (tgt := 131) (q := 109) C dX4_lateBy_106 rfl (by decide) (fun c_106 => ?_) (fun c_106 => ?_)
                  · refine g_iconst (v := (-1)) (q := 132) C dX4_lateBy_131 rfl (by decide) ?_
                    exact g_iret C RT9 dX4_lateBy_132 (pxi (by rw [eo, cN_nI (by omega)]; first | exact lb_f2 hi hnF c_72 c_80 | exact lb_w2 hi hj hnF (w2_d c_128) | exact lb_w2 hi hj hnF (w2_c c_106) | exact lb_w2 hi hj hnF (w2_b c_91)))
                  · refine g_aload_0 (q := 110) C dX4_lateBy_109 rfl ?_
                    refine g_iload_3 (q := 111) C dX4_lateBy_110 rfl ?_
                    refine g_iconst (v := 2) (q := 112) C dX4_lateBy_111 rfl (by decide) ?_
                    refine g_cv2i (q := 115) C cv_X4_74 dX4_lateBy_112 rfl rfl (IM.d I _ (by decide) (by decide)) (m_X4_of7 I (k := 2) (by omega) rfl rfl) (by decide) (Nat.le_of_ble_eq_true rfl) ⟨Nat.zero_le _, Nat.zero_le _⟩ ?_
                    refine g_aload_0 (q := 116) C dX4_lateBy_115 rfl ?_
                    refine g_iload_2 (q := 117) C dX4_lateBy_116 rfl ?_
                    refine g_iconst (v := 3) (q := 118) C dX4_lateBy_117 rfl (by decide) ?_
                    refine g_cv2i (q := 121) C cv_X4_74 dX4_lateBy_118 rfl rfl (IM.d I _ (by decide) (by decide)) (m_X4_of7 I (k := 3) (by omega) rfl rfl) (by decide) (Nat.le_of_ble_eq_true rfl) ⟨Nat.zero_le _, Nat.zero_le _⟩ ?_
                    refine g_aload_0 (q := 122) C dX4_lateBy_121 rfl ?_
                    refine g_getc (q := 125) (m := 103) C f_X4_16 dX4_lateBy_122 rfl rfl (IM.d I _ (by decide) (by decide)) ?_
                    refine g_iconst (v := 0) (q := 126) C dX4_lateBy_125 rfl (by decide) ?_
                    refine g_ia (q := 127) C dX4_lateBy_126 rfl rfl (IM.d I _ (by decide) (by decide)) (show _ = nI 0 from rfl) (by decide) (by decide) ?_
                    refine g_iadd (q := 128) C dX4_lateBy_127 rfl ?_
                    refine g_icmp_ge (tgt := 133) (q := 131) C dX4_lateBy_128 rfl (by decide) (fun c_128 => ?_) (fun c_128 => ?_)
                    · refine g_iload_3 (q := 134) C dX4_lateBy_133 rfl ?_
                      refine g_istore_5 (q := 136) C dX4_lateBy_134 rfl (by rw [hN]; decide) rfl ?_
                      first | exact J j hj (fun z => by rw [eo, cN_nI (by omega)]; exact lb_2n hi hj hnF (w1_t c_19 c_30 c_46 c_62) (w2_t c_91 c_106 c_128) z) (fun z => by rw [eo, cN_nI (by omega)]; exact lb_2y hi hj hnF (w1_t c_19 c_30 c_46 c_62) (w2_t c_91 c_106 c_128) z) | exact J i hi (fun z => by rw [eo, cN_nI (by omega)]; exact lb_1n hi hnF (w1_t c_19 c_30 c_46 c_62) c_72 z) (fun z => by rw [eo, cN_nI (by omega)]; exact lb_1y hi hnF (w1_t c_19 c_30 c_46 c_62) c_72 z)
                    · refine g_iconst (v := (-1)) (q := 132) C dX4_lateBy_131 rfl (by decide) ?_
                      exact g_iret C RT9 dX4_lateBy_132 (pxi (by rw [eo, cN_nI (by omega)]; first | exact lb_f2 hi hnF c_72 c_80 | exact lb_w2 hi hj hnF (w2_d c_128) | exact lb_w2 hi hj hnF (w2_c c_106) | exact lb_w2 hi hj hnF (w2_b c_91)))
          · refine g_iconst (v := (-1)) (q := 66) C dX4_lateBy_65 rfl (by decide) ?_
            exact g_iret C RT9 dX4_lateBy_66 (pxi (by rw [eo, cN_nI (by omega)]; first | exact lb_f1 c_13 | exact lb_w1 hi hnF (w1_d c_62) | exact lb_w1 hi hnF (w1_c c_46) | exact lb_w1 hi hnF (w1_b c_30) | exact lb_w1 hi hnF (w1_a c_19 (by omega) (by omega))))

set_option maxHeartbeats 4000000 in
set_option maxRecDepth 100000 in
theorem m_X4_strandedMany (I : IM dm a nF nP) : MT g bs l yX4_strandedMany cX4_strandedMany 3 (some .int) 1 0 0 [.ref (ad 100)] ad dm a b r (PX (some (.int (nI (ctS (stc (a 102)) nP)))) ad dm a b r) := by
  refine mt_of (by decide) [some (.ref (ad 100)), none, none] rfl (Nat.le_of_ble_eq_true rfl) ?_
  intro E hg hbs hl hN C RT9 hcells hslots hname
  have hnF := I.2.2.1
  have hnP := I.2.2.2.2
  have lp : ∀ (k i : Nat) (acc : Nat), i + k = nP → acc = ctS (stc (a 102)) i → G E 0 0 ad dm a b r 4 [some (.ref (ad 100)), some (.int (nI acc)), some (.int (nI i))] [] := by
    intro k
    induction k with
    | zero =>
      intro i acc hi hacc
      refine g_iload_2 (q := 5) C dX4_strandedMany_4 rfl ?_
      refine g_aload_0 (q := 6) C dX4_strandedMany_5 rfl ?_
      refine g_geti (q := 9) C f_X4_63 dX4_strandedMany_6 rfl rfl (IM.d I _ (by decide) (by decide)) ?_
      refine g_icmp_ge (tgt := 41) (q := 12) C dX4_strandedMany_9 rfl (by decide) (fun c_9 => ?_) (fun c_9 => absurd (by rw [I.nP]; exact nI_le (by omega) (by omega)) c_9)
      refine g_iload_1 (q := 42) C dX4_strandedMany_41 rfl ?_
      exact g_iret C RT9 dX4_strandedMany_42 (pxi (by rw [hacc, show i = nP by omega]))
    | succ k ih =>
      intro i acc hi hacc
      refine g_iload_2 (q := 5) C dX4_strandedMany_4 rfl ?_
      refine g_aload_0 (q := 6) C dX4_strandedMany_5 rfl ?_
      refine g_geti (q := 9) C f_X4_63 dX4_strandedMany_6 rfl rfl (IM.d I _ (by decide) (by decide)) ?_
      refine g_icmp_ge (tgt := 41) (q := 12) C dX4_strandedMany_9 rfl (by decide) (fun c_9 => absurd c_9 (by rw [I.nP]; exact nI_ge (by omega) (by omega))) (fun c_9 => ?_)
      refine g_aload_0 (q := 13) C dX4_strandedMany_12 rfl ?_
      refine g_iload_2 (q := 14) C dX4_strandedMany_13 rfl ?_
      refine g_iconst (v := 5) (q := 15) C dX4_strandedMany_14 rfl (by decide) ?_
      refine g_cv2i (q := 18) C cv_X4_70 dX4_strandedMany_15 rfl rfl (IM.d I _ (by decide) (by decide)) (m_X4_get I (k := 5) (by omega) rfl rfl) (by decide) (Nat.le_of_ble_eq_true rfl) ⟨Nat.zero_le _, Nat.zero_le _⟩ ?_
      refine g_if_le (tgt := 35) (q := 21) C dX4_strandedMany_18 rfl (by decide) (fun c_18 => ?_) (fun c_18 => ?_)
      · refine g_iinc_2 (v := nI (i + 1)) (q := 38) C dX4_strandedMany_35 rfl (by rw [hN]; decide) (nI_1 i) ?_
        refine g_goto (tgt := 4) C dX4_strandedMany_38 (by decide) ?_
        exact ih (i + 1) _ (by omega) (by first | (simp [ctS, stc, hacc, c_18, c_29]) | (simp [ctS, stc, hacc, Int32.not_lt.mpr c_18]))
      · refine g_aload_0 (q := 22) C dX4_strandedMany_21 rfl ?_
        refine g_iload_2 (q := 23) C dX4_strandedMany_22 rfl ?_
        refine g_bipush (v := 7) (q := 25) C dX4_strandedMany_23 rfl (by decide) ?_
        refine g_cv2i (q := 28) C cv_X4_70 dX4_strandedMany_25 rfl rfl (IM.d I _ (by decide) (by decide)) (m_X4_get I (k := 7) (by omega) rfl rfl) (by decide) (Nat.le_of_ble_eq_true rfl) ⟨Nat.zero_le _, Nat.zero_le _⟩ ?_
        refine g_iconst (v := (-1)) (q := 29) C dX4_strandedMany_28 rfl (by decide) ?_
        refine g_icmp_ne (tgt := 35) (q := 32) C dX4_strandedMany_29 rfl (by decide) (fun c_29 => ?_) (fun c_29 => ?_)
        · refine g_iinc_2 (v := nI (i + 1)) (q := 38) C dX4_strandedMany_35 rfl (by rw [hN]; decide) (nI_1 i) ?_
          refine g_goto (tgt := 4) C dX4_strandedMany_38 (by decide) ?_
          exact ih (i + 1) _ (by omega) (by first | (simp [ctS, stc, hacc, c_18, c_29]) | (simp [ctS, stc, hacc, Int32.not_lt.mpr c_18]))
        · refine g_iinc_1 (v := nI (acc + 1)) (q := 35) C dX4_strandedMany_32 rfl (by rw [hN]; decide) (nI_1 acc) ?_
          refine g_iinc_2 (v := nI (i + 1)) (q := 38) C dX4_strandedMany_35 rfl (by rw [hN]; decide) (nI_1 i) ?_
          refine g_goto (tgt := 4) C dX4_strandedMany_38 (by decide) ?_
          exact ih (i + 1) _ (by omega) (by first | (simp [ctS, stc, hacc, c_18, c_29]) | (simp [ctS, stc, hacc, Int32.not_lt.mpr c_18]))
  refine g_iconst (v := 0) (q := 1) C dX4_strandedMany_0 rfl (by decide) ?_
  refine g_istore_1 (q := 2) C dX4_strandedMany_1 rfl (by rw [hN]; decide) rfl ?_
  refine g_iconst (v := 0) (q := 3) C dX4_strandedMany_2 rfl (by decide) ?_
  refine g_istore_2 (q := 4) C dX4_strandedMany_3 rfl (by rw [hN]; decide) rfl ?_
  exact lp nP 0 0 (by omega) rfl

set_option maxHeartbeats 4000000 in
set_option maxRecDepth 100000 in
theorem m_X4_stranded (I : IM dm a nF nP) {a1 : Nat → Nat → Int32} (ha : a1 = u2 a 100 5 0) : MT g bs l yX4_stranded cX4_stranded 1 (some .int) 2 0 0 [.ref (ad 100)] ad dm a b r (PX (some (.int (nI (ctS (stc (a1 102)) nP)))) ad dm a1 b r) := by
  refine mt_of (by decide) [some (.ref (ad 100))] rfl (Nat.le_of_ble_eq_true rfl) ?_
  intro E hg hbs hl hN C RT9 hcells hslots hname
  refine g_aload_0 (q := 1) C dX4_stranded_0 rfl ?_
  refine g_iconst (v := 0) (q := 2) C dX4_stranded_1 rfl (by decide) ?_
  refine g_puti (q := 5) C p_X4_52 dX4_stranded_2 rfl rfl (IM.d I _ (by decide) (by decide)) rfl rfl ?_
  rw [← ha]
  have I : IM dm a1 nF nP := by rw [ha]; exact I.th
  refine g_aload_0 (q := 6) C dX4_stranded_5 rfl ?_
  refine g_cv0i (q := 9) C cv_X4_136 dX4_stranded_6 rfl rfl (IM.d I _ (by decide) (by decide)) (m_X4_strandedMany I) (by decide) (Nat.le_of_ble_eq_true rfl) ⟨Nat.zero_le _, Nat.zero_le _⟩ ?_
  exact g_iret C RT9 dX4_stranded_9 (px rfl)

set_option maxHeartbeats 4000000 in
set_option maxRecDepth 100000 in
theorem m_X4_told (I : IM dm a nF nP) {a1 : Nat → Nat → Int32} (ha : a1 = u2 a 100 5 0) (f1 what : Int32) : MT g bs l yX4_told cX4_told 5 (some .int) 3 0 0 [.ref (ad 100), .int f1, .int what] ad dm a b r (PX (some (.int (tdS (a1 101) (a1 102) nF nP f1 what))) ad dm a1 b r) := by
  refine mt_of (by decide) [some (.ref (ad 100)), some (.int f1), some (.int what), none, none] rfl (Nat.le_of_ble_eq_true rfl) ?_
  intro E hg hbs hl hN C RT9 hcells hslots hname
  have hnF := I.2.2.1
  have hnP := I.2.2.2.2
  have lp : IM dm a1 nF nP → what = 4 → fok nF f1 = true → ∀ (k i : Nat) (acc : Int32), i + k = nP → acc = smS (a1 102) (msc (a1 102) f1) i → G E 0 0 ad dm a1 b r 84 [some (.ref (ad 100)), some (.int f1), some (.int what), some (.int acc), some (.int (nI i))] [] := by
    intro I hw c_10
    have lp : ∀ (k i : Nat) (acc : Int32), i + k = nP → acc = smS (a1 102) (msc (a1 102) f1) i → G E 0 0 ad dm a1 b r 84 [some (.ref (ad 100)), some (.int f1), some (.int what), some (.int acc), some (.int (nI i))] [] := by
      intro k
      induction k with
      | zero =>
        intro i acc hi hacc
        refine g_iload_4 (q := 86) C dX4_told_84 rfl ?_
        refine g_aload_0 (q := 87) C dX4_told_86 rfl ?_
        refine g_geti (q := 90) C f_X4_63 dX4_told_87 rfl rfl (IM.d I _ (by decide) (by decide)) ?_
        refine g_icmp_ge (tgt := 141) (q := 93) C dX4_told_90 rfl (by decide) (fun c_90 => ?_) (fun c_90 => absurd (by rw [I.nP]; exact nI_le (by omega) (by omega)) c_90)
        refine g_iload_3 (q := 142) C dX4_told_141 rfl ?_
        exact g_iret C RT9 dX4_told_142 (pxi (by rw [tdS, if_pos c_10]; rw [hw, if_neg (by decide), if_neg (by decide), if_neg (by decide), if_neg (by decide), if_pos rfl, hacc, show i = nP by omega]))
      | succ k ih =>
        intro i acc hi hacc
        refine g_iload_4 (q := 86) C dX4_told_84 rfl ?_
        refine g_aload_0 (q := 87) C dX4_told_86 rfl ?_
        refine g_geti (q := 90) C f_X4_63 dX4_told_87 rfl rfl (IM.d I _ (by decide) (by decide)) ?_
        refine g_icmp_ge (tgt := 141) (q := 93) C dX4_told_90 rfl (by decide) (fun c_90 => absurd c_90 (by rw [I.nP]; exact nI_ge (by omega) (by omega))) (fun c_90 => ?_)
        refine g_aload_0 (q := 94) C dX4_told_93 rfl ?_
        refine g_iload_4 (q := 96) C dX4_told_94 rfl ?_
        refine g_iconst (v := 0) (q := 97) C dX4_told_96 rfl (by decide) ?_
        refine g_cv2i (q := 100) C cv_X4_70 dX4_told_97 rfl rfl (IM.d I _ (by decide) (by decide)) (m_X4_get0 I (by omega) rfl) (by decide) (Nat.le_of_ble_eq_true rfl) ⟨Nat.zero_le _, Nat.zero_le _⟩ ?_
        refine g_iload_1 (q := 101) C dX4_told_100 rfl ?_
        refine g_icmp_ne (tgt := 135) (q := 104) C dX4_told_101 rfl (by decide) (fun c_101 => ?_) (fun c_101 => ?_)
        · refine g_iinc_4 (v := nI (i + 1)) (q := 138) C dX4_told_135 rfl (by rw [hN]; decide) (nI_1 i) ?_
          refine g_goto (tgt := 84) C dX4_told_138 (by decide) ?_
          exact ih (i + 1) _ (by omega) (by first | (simp [smS, msc, hacc, c_101, c_112, c_122]) | (simp [smS, msc, hacc, c_101, c_112]) | (simp [smS, msc, hacc, c_101]))
        · refine g_aload_0 (q := 105) C dX4_told_104 rfl ?_
          refine g_iload_4 (q := 107) C dX4_told_105 rfl ?_
          refine g_iconst (v := 4) (q := 108) C dX4_told_107 rfl (by decide) ?_
          refine g_cv2i (q := 111) C cv_X4_70 dX4_told_108 rfl rfl (IM.d I _ (by decide) (by decide)) (m_X4_get I (k := 4) (by omega) rfl rfl) (by decide) (Nat.le_of_ble_eq_true rfl) ⟨Nat.zero_le _, Nat.zero_le _⟩ ?_
          refine g_iconst (v := 1) (q := 112) C dX4_told_111 rfl (by decide) ?_
          refine g_icmp_ne (tgt := 135) (q := 115) C dX4_told_112 rfl (by decide) (fun c_112 => ?_) (fun c_112 => ?_)
          · refine g_iinc_4 (v := nI (i + 1)) (q := 138) C dX4_told_135 rfl (by rw [hN]; decide) (nI_1 i) ?_
            refine g_goto (tgt := 84) C dX4_told_138 (by decide) ?_
            exact ih (i + 1) _ (by omega) (by first | (simp [smS, msc, hacc, c_101, c_112, c_122]) | (simp [smS, msc, hacc, c_101, c_112]) | (simp [smS, msc, hacc, c_101]))
          · refine g_aload_0 (q := 116) C dX4_told_115 rfl ?_
            refine g_iload_4 (q := 118) C dX4_told_116 rfl ?_
            refine g_iconst (v := 5) (q := 119) C dX4_told_118 rfl (by decide) ?_
            refine g_cv2i (q := 122) C cv_X4_70 dX4_told_119 rfl rfl (IM.d I _ (by decide) (by decide)) (m_X4_get I (k := 5) (by omega) rfl rfl) (by decide) (Nat.le_of_ble_eq_true rfl) ⟨Nat.zero_le _, Nat.zero_le _⟩ ?_
            refine g_if_ne (tgt := 135) (q := 125) C dX4_told_122 rfl (by decide) (fun c_122 => ?_) (fun c_122 => ?_)
            · refine g_iinc_4 (v := nI (i + 1)) (q := 138) C dX4_told_135 rfl (by rw [hN]; decide) (nI_1 i) ?_
              refine g_goto (tgt := 84) C dX4_told_138 (by decide) ?_
              exact ih (i + 1) _ (by omega) (by first | (simp [smS, msc, hacc, c_101, c_112, c_122]) | (simp [smS, msc, hacc, c_101, c_112]) | (simp [smS, msc, hacc, c_101]))
            · refine g_iload_3 (q := 126) C dX4_told_125 rfl ?_
              refine g_aload_0 (q := 127) C dX4_told_126 rfl ?_
              refine g_iload_4 (q := 129) C dX4_told_127 rfl ?_
              refine g_iconst (v := 1) (q := 130) C dX4_told_129 rfl (by decide) ?_
              refine g_cv2i (q := 133) C cv_X4_70 dX4_told_130 rfl rfl (IM.d I _ (by decide) (by decide)) (m_X4_get I (k := 1) (by omega) rfl rfl) (by decide) (Nat.le_of_ble_eq_true rfl) ⟨Nat.zero_le _, Nat.zero_le _⟩ ?_
              refine g_iadd (q := 134) C dX4_told_133 rfl ?_
              refine g_istore_3 (q := 135) C dX4_told_134 rfl (by rw [hN]; decide) rfl ?_
              refine g_iinc_4 (v := nI (i + 1)) (q := 138) C dX4_told_135 rfl (by rw [hN]; decide) (nI_1 i) ?_
              refine g_goto (tgt := 84) C dX4_told_138 (by decide) ?_
              exact ih (i + 1) _ (by omega) (by first | (simp [smS, msc, hacc, c_101, c_112, c_122]) | (simp [smS, msc, hacc, c_101, c_112]) | (simp [smS, msc, hacc, c_101]))
    exact lp
  refine g_aload_0 (q := 1) C dX4_told_0 rfl ?_
  refine g_iconst (v := 0) (q := 2) C dX4_told_1 rfl (by decide) ?_
  refine g_puti (q := 5) C p_X4_52 dX4_told_2 rfl rfl (IM.d I _ (by decide) (by decide)) rfl rfl ?_
  rw [← ha]
  have I : IM dm a1 nF nP := by rw [ha]; exact I.th
  refine g_aload_0 (q := 6) C dX4_told_5 rfl ?_
  refine g_iload_1 (q := 7) C dX4_told_6 rfl ?_
  refine g_cv1i (q := 10) C cv_X4_66 dX4_told_7 rfl rfl (IM.d I _ (by decide) (by decide)) (m_X4_isFlight I _) (by decide) (Nat.le_of_ble_eq_true rfl) ⟨Nat.zero_le _, Nat.zero_le _⟩ ?_
  refine g_ifneb (tgt := 15) (q := 13) C dX4_told_10 rfl (by decide) (fun c_10 => ?_) (fun c_10 => ?_)
  · obtain ⟨f, hf, rfl⟩ := fok_t c_10 (by omega)
    refine g_iload_2 (q := 16) C dX4_told_15 rfl ?_
    by_cases sw_0 : what = 0
    · subst sw_0
      refine g_tableIn (tgt := 52) C dX4_told_16 (by decide) (by decide) rfl (by decide) ?_
      refine g_aload_0 (q := 53) C dX4_told_52 rfl ?_
      refine g_iload_1 (q := 54) C dX4_told_53 rfl ?_
      refine g_cv1i (q := 57) C cv_X4_77 dX4_told_54 rfl rfl (IM.d I _ (by decide) (by decide)) (m_X4_load I _) (by decide) (Nat.le_of_ble_eq_true rfl) ⟨Nat.zero_le _, Nat.zero_le _⟩ ?_
      exact g_iret C RT9 dX4_told_57 (pxi (by rw [tdS, if_pos c_10]; rfl))
    by_cases sw_1 : what = 1
    · subst sw_1
      refine g_tableIn (tgt := 58) C dX4_told_16 (by decide) (by decide) rfl (by decide) ?_
      refine g_aload_0 (q := 59) C dX4_told_58 rfl ?_
      refine g_iload_1 (q := 60) C dX4_told_59 rfl ?_
      refine g_cv1i (q := 63) C cv_X4_86 dX4_told_60 rfl rfl (IM.d I _ (by decide) (by decide)) (m_X4_over I (by assumption) rfl) (by decide) (Nat.le_of_ble_eq_true rfl) ⟨Nat.zero_le _, Nat.zero_le _⟩ ?_
      exact g_iret C RT9 dX4_told_63 (pxi (by rw [tdS, if_pos c_10]; rw [if_neg (by decide), if_pos rfl, cN_nI (by omega)]))
    by_cases sw_2 : what = 2
    · subst sw_2
      refine g_tableIn (tgt := 64) C dX4_told_16 (by decide) (by decide) rfl (by decide) ?_
      refine g_aload_0 (q := 65) C dX4_told_64 rfl ?_
      refine g_iload_1 (q := 66) C dX4_told_65 rfl ?_
      refine g_iconst (v := 4) (q := 67) C dX4_told_66 rfl (by decide) ?_
      refine g_cv2i (q := 70) C cv_X4_74 dX4_told_67 rfl rfl (IM.d I _ (by decide) (by decide)) (m_X4_of7 I (k := 4) (by omega) rfl rfl) (by decide) (Nat.le_of_ble_eq_true rfl) ⟨Nat.zero_le _, Nat.zero_le _⟩ ?_
      exact g_iret C RT9 dX4_told_70 (pxi (by rw [tdS, if_pos c_10]; rw [if_neg (by decide), if_neg (by decide), if_pos rfl, cN_nI (by omega)]))
    by_cases sw_3 : what = 3
    · subst sw_3
      refine g_tableIn (tgt := 71) C dX4_told_16 (by decide) (by decide) rfl (by decide) ?_
      refine g_aload_0 (q := 72) C dX4_told_71 rfl ?_
      refine g_iload_1 (q := 73) C dX4_told_72 rfl ?_
      refine g_bipush (v := 6) (q := 75) C dX4_told_73 rfl (by decide) ?_
      refine g_cv2i (q := 78) C cv_X4_74 dX4_told_75 rfl rfl (IM.d I _ (by decide) (by decide)) (m_X4_of7 I (k := 6) (by omega) rfl rfl) (by decide) (Nat.le_of_ble_eq_true rfl) ⟨Nat.zero_le _, Nat.zero_le _⟩ ?_
      exact g_iret C RT9 dX4_told_78 (pxi (by rw [tdS, if_pos c_10]; rw [if_neg (by decide), if_neg (by decide), if_neg (by decide), if_pos rfl, cN_nI (by omega)]))
    by_cases sw_4 : what = 4
    · subst sw_4
      refine g_tableIn (tgt := 79) C dX4_told_16 (by decide) (by decide) rfl (by decide) ?_
      refine g_iconst (v := 0) (q := 80) C dX4_told_79 rfl (by decide) ?_
      refine g_istore_3 (q := 81) C dX4_told_80 rfl (by rw [hN]; decide) rfl ?_
      refine g_iconst (v := 0) (q := 82) C dX4_told_81 rfl (by decide) ?_
      refine g_istore_4 (q := 84) C dX4_told_82 rfl (by rw [hN]; decide) rfl ?_
      exact lp I rfl c_10 nP 0 0 (by omega) rfl
    refine g_tableOut (tgt := 143) C dX4_told_16 (sw_out5 sw_0 sw_1 sw_2 sw_3 sw_4) (by decide) ?_
    refine g_iconst (v := (-1)) (q := 144) C dX4_told_143 rfl (by decide) ?_
    exact g_iret C RT9 dX4_told_144 (pxi (by rw [tdS, if_pos c_10]; rw [if_neg sw_0, if_neg sw_1, if_neg sw_2, if_neg sw_3, if_neg sw_4]))
  · refine g_iconst (v := (-1)) (q := 14) C dX4_told_13 rfl (by decide) ?_
    exact g_iret C RT9 dX4_told_14 (pxi (by rw [tdS, if_neg (by rw [c_10]; decide)]))

set_option maxHeartbeats 4000000 in
set_option maxRecDepth 100000 in
theorem m_X4_of (I : IM dm a nF nP) {a1 : Nat → Nat → Int32} (ha : a1 = u2 a 100 5 0) (W : WP nF nP (a1 102)) (p1 what : Int32) : MT g bs l yX4_of cX4_of 3 (some .int) 3 0 0 [.ref (ad 100), .int p1, .int what] ad dm a b r (fun v ad0 dm0 a0 b0 r0 => ad0 = ad ∧ dm0 = dm ∧ b0 = b ∧ r0 = r ∧ ((ofK nP p1 what = true ∧ a0 = a1 ∧ v = some (.int (ofS (a1 101) (a1 102) (a1 103) (cN p1) what))) ∨ (ofK nP p1 what = false ∧ a0 = u2 a1 100 5 1 ∧ v = some (.int 0)))) := by
  refine mt_of (by decide) [some (.ref (ad 100)), some (.int p1), some (.int what)] rfl (Nat.le_of_ble_eq_true rfl) ?_
  intro E hg hbs hl hN C RT9 hcells hslots hname
  have hnF := I.2.2.1
  have hnP := I.2.2.2.2
  refine g_aload_0 (q := 1) C dX4_of_0 rfl ?_
  refine g_iconst (v := 0) (q := 2) C dX4_of_1 rfl (by decide) ?_
  refine g_puti (q := 5) C p_X4_52 dX4_of_2 rfl rfl (IM.d I _ (by decide) (by decide)) rfl rfl ?_
  rw [← ha]
  have I : IM dm a1 nF nP := by rw [ha]; exact I.th
  refine g_aload_0 (q := 6) C dX4_of_5 rfl ?_
  refine g_iload_1 (q := 7) C dX4_of_6 rfl ?_
  refine g_cv1i (q := 10) C cv_X4_92 dX4_of_7 rfl rfl (IM.d I _ (by decide) (by decide)) (m_X4_isParty I _) (by decide) (Nat.le_of_ble_eq_true rfl) ⟨Nat.zero_le _, Nat.zero_le _⟩ ?_
  refine g_ifeqb (tgt := 23) (q := 13) C dX4_of_10 rfl (by decide) (fun c_10 => ?_) (fun c_10 => ?_)
  · refine g_aload_0 (q := 24) C dX4_of_23 rfl ?_
    refine g_iconst (v := 1) (q := 25) C dX4_of_24 rfl (by decide) ?_
    refine g_puti (q := 28) C p_X4_52 dX4_of_25 rfl rfl (IM.d I _ (by decide) (by decide)) rfl rfl ?_
    refine g_iconst (v := 0) (q := 29) C dX4_of_28 rfl (by decide) ?_
    exact g_iret C RT9 dX4_of_29 ⟨rfl, rfl, rfl, rfl, Or.inr ⟨by first | (rw [ofK, c_10]; rfl) | (rw [ofK, c_20, Bool.and_false]), rfl, rfl⟩⟩
  · obtain ⟨q, hq, rfl⟩ := fok_t c_10 (by omega)
    refine g_iload_2 (q := 14) C dX4_of_13 rfl ?_
    refine g_iconst (v := 0) (q := 15) C dX4_of_14 rfl (by decide) ?_
    refine g_bipush (v := 7) (q := 17) C dX4_of_15 rfl (by decide) ?_
    refine g_cs3i (q := 20) C cs_X4_59 dX4_of_17 rfl (m_X4_in _ _ _) (by decide) (Nat.le_of_ble_eq_true rfl) ⟨Nat.zero_le _, Nat.zero_le _⟩ ?_
    refine g_ifneb (tgt := 30) (q := 23) C dX4_of_20 rfl (by decide) (fun c_20 => ?_) (fun c_20 => ?_)
    · refine g_iload_2 (q := 31) C dX4_of_30 rfl ?_
      by_cases sw_0 : what = 0
      · subst sw_0
        refine g_tableIn (tgt := 72) C dX4_of_31 (by decide) (by decide) rfl (by decide) ?_
        refine g_aload_0 (q := 73) C dX4_of_72 rfl ?_
        refine g_iload_1 (q := 74) C dX4_of_73 rfl ?_
        refine g_iconst (v := 5) (q := 75) C dX4_of_74 rfl (by decide) ?_
        refine g_cv2i (q := 78) C cv_X4_70 dX4_of_75 rfl rfl (IM.d I _ (by decide) (by decide)) (m_X4_get I (k := 5) (by omega) rfl rfl) (by decide) (Nat.le_of_ble_eq_true rfl) ⟨Nat.zero_le _, Nat.zero_le _⟩ ?_
        exact g_iret C RT9 dX4_of_78 ⟨rfl, rfl, rfl, rfl, (Or.inl ⟨by rw [ofK, c_10, c_20]; rfl, rfl, by rw [ofS, cN_nI (by omega), if_pos rfl]⟩)⟩
      by_cases sw_1 : what = 1
      · subst sw_1
        refine g_tableIn (tgt := 79) C dX4_of_31 (by decide) (by decide) rfl (by decide) ?_
        refine g_aload_0 (q := 80) C dX4_of_79 rfl ?_
        refine g_iload_1 (q := 81) C dX4_of_80 rfl ?_
        refine g_iconst (v := 0) (q := 82) C dX4_of_81 rfl (by decide) ?_
        refine g_cv2i (q := 85) C cv_X4_70 dX4_of_82 rfl rfl (IM.d I _ (by decide) (by decide)) (m_X4_get0 I (by omega) rfl) (by decide) (Nat.le_of_ble_eq_true rfl) ⟨Nat.zero_le _, Nat.zero_le _⟩ ?_
        exact g_iret C RT9 dX4_of_85 ⟨rfl, rfl, rfl, rfl, (Or.inl ⟨by rw [ofK, c_10, c_20]; rfl, rfl, by rw [ofS, cN_nI (by omega), if_neg (by decide), if_pos rfl]⟩)⟩
      by_cases sw_2 : what = 2
      · subst sw_2
        refine g_tableIn (tgt := 86) C dX4_of_31 (by decide) (by decide) rfl (by decide) ?_
        refine g_aload_0 (q := 87) C dX4_of_86 rfl ?_
        refine g_iload_1 (q := 88) C dX4_of_87 rfl ?_
        refine g_iconst (v := 1) (q := 89) C dX4_of_88 rfl (by decide) ?_
        refine g_cv2i (q := 92) C cv_X4_70 dX4_of_89 rfl rfl (IM.d I _ (by decide) (by decide)) (m_X4_get I (k := 1) (by omega) rfl rfl) (by decide) (Nat.le_of_ble_eq_true rfl) ⟨Nat.zero_le _, Nat.zero_le _⟩ ?_
        exact g_iret C RT9 dX4_of_92 ⟨rfl, rfl, rfl, rfl, (Or.inl ⟨by rw [ofK, c_10, c_20]; rfl, rfl, by rw [ofS, cN_nI (by omega), if_neg (by decide), if_neg (by decide), if_pos rfl]⟩)⟩
      by_cases sw_3 : what = 3
      · subst sw_3
        refine g_tableIn (tgt := 93) C dX4_of_31 (by decide) (by decide) rfl (by decide) ?_
        refine g_aload_0 (q := 94) C dX4_of_93 rfl ?_
        refine g_iload_1 (q := 95) C dX4_of_94 rfl ?_
        refine g_bipush (v := 6) (q := 97) C dX4_of_95 rfl (by decide) ?_
        refine g_cv2i (q := 100) C cv_X4_70 dX4_of_97 rfl rfl (IM.d I _ (by decide) (by decide)) (m_X4_get I (k := 6) (by omega) rfl rfl) (by decide) (Nat.le_of_ble_eq_true rfl) ⟨Nat.zero_le _, Nat.zero_le _⟩ ?_
        exact g_iret C RT9 dX4_of_100 ⟨rfl, rfl, rfl, rfl, (Or.inl ⟨by rw [ofK, c_10, c_20]; rfl, rfl, by rw [ofS, cN_nI (by omega), if_neg (by decide), if_neg (by decide), if_neg (by decide), if_pos rfl]⟩)⟩
      by_cases sw_4 : what = 4
      · subst sw_4
        refine g_tableIn (tgt := 101) C dX4_of_31 (by decide) (by decide) rfl (by decide) ?_
        refine g_aload_0 (q := 102) C dX4_of_101 rfl ?_
        refine g_iload_1 (q := 103) C dX4_of_102 rfl ?_
        refine g_bipush (v := 7) (q := 105) C dX4_of_103 rfl (by decide) ?_
        refine g_cv2i (q := 108) C cv_X4_70 dX4_of_105 rfl rfl (IM.d I _ (by decide) (by decide)) (m_X4_get I (k := 7) (by omega) rfl rfl) (by decide) (Nat.le_of_ble_eq_true rfl) ⟨Nat.zero_le _, Nat.zero_le _⟩ ?_
        exact g_iret C RT9 dX4_of_108 ⟨rfl, rfl, rfl, rfl, (Or.inl ⟨by rw [ofK, c_10, c_20]; rfl, rfl, by rw [ofS, cN_nI (by omega), if_neg (by decide), if_neg (by decide), if_neg (by decide), if_neg (by decide), if_pos rfl]⟩)⟩
      by_cases sw_5 : what = 5
      · subst sw_5
        refine g_tableIn (tgt := 109) C dX4_of_31 (by decide) (by decide) rfl (by decide) ?_
        refine g_aload_0 (q := 110) C dX4_of_109 rfl ?_
        refine g_iload_1 (q := 111) C dX4_of_110 rfl ?_
        refine g_bipush (v := 8) (q := 113) C dX4_of_111 rfl (by decide) ?_
        refine g_cv2i (q := 116) C cv_X4_70 dX4_of_113 rfl rfl (IM.d I _ (by decide) (by decide)) (m_X4_get I (k := 8) (by omega) rfl rfl) (by decide) (Nat.le_of_ble_eq_true rfl) ⟨Nat.zero_le _, Nat.zero_le _⟩ ?_
        exact g_iret C RT9 dX4_of_116 ⟨rfl, rfl, rfl, rfl, (Or.inl ⟨by rw [ofK, c_10, c_20]; rfl, rfl, by rw [ofS, cN_nI (by omega), if_neg (by decide), if_neg (by decide), if_neg (by decide), if_neg (by decide), if_neg (by decide), if_pos rfl]⟩)⟩
      by_cases sw_6 : what = 6
      · subst sw_6
        refine g_tableIn (tgt := 117) C dX4_of_31 (by decide) (by decide) rfl (by decide) ?_
        refine g_aload_0 (q := 118) C dX4_of_117 rfl ?_
        refine g_iload_1 (q := 119) C dX4_of_118 rfl ?_
        refine g_cv1i (q := 122) C cv_X4_89 dX4_of_119 rfl rfl (IM.d I _ (by decide) (by decide)) (m_X4_lateOf I W (by assumption) rfl) (by decide) (Nat.le_of_ble_eq_true rfl) ⟨Nat.zero_le _, Nat.zero_le _⟩ ?_
        exact g_iret C RT9 dX4_of_122 ⟨rfl, rfl, rfl, rfl, (Or.inl ⟨by rw [ofK, c_10, c_20]; rfl, rfl, by rw [ofS, cN_nI (by omega), if_neg (by decide), if_neg (by decide), if_neg (by decide), if_neg (by decide), if_neg (by decide), if_neg (by decide), if_pos rfl]⟩)⟩
      refine g_tableOut (tgt := 123) C dX4_of_31 (sw_out7 sw_0 sw_1 sw_2 sw_3 sw_4 sw_5 sw_6) (by decide) ?_
      refine g_aload_0 (q := 124) C dX4_of_123 rfl ?_
      refine g_iload_1 (q := 125) C dX4_of_124 rfl ?_
      refine g_cv1i (q := 128) C cv_X4_95 dX4_of_125 rfl rfl (IM.d I _ (by decide) (by decide)) (m_X4_claim I W (by assumption) rfl) (by decide) (Nat.le_of_ble_eq_true rfl) ⟨Nat.zero_le _, Nat.zero_le _⟩ ?_
      exact g_iret C RT9 dX4_of_128 ⟨rfl, rfl, rfl, rfl, (Or.inl ⟨by rw [ofK, c_10, c_20]; rfl, rfl, by rw [ofS, cN_nI (by omega), if_neg sw_0, if_neg sw_1, if_neg sw_2, if_neg sw_3, if_neg sw_4, if_neg sw_5, if_neg sw_6]⟩)⟩
    · refine g_aload_0 (q := 24) C dX4_of_23 rfl ?_
      refine g_iconst (v := 1) (q := 25) C dX4_of_24 rfl (by decide) ?_
      refine g_puti (q := 28) C p_X4_52 dX4_of_25 rfl rfl (IM.d I _ (by decide) (by decide)) rfl rfl ?_
      refine g_iconst (v := 0) (q := 29) C dX4_of_28 rfl (by decide) ?_
      exact g_iret C RT9 dX4_of_29 ⟨rfl, rfl, rfl, rfl, Or.inr ⟨by first | (rw [ofK, c_10]; rfl) | (rw [ofK, c_20, Bool.and_false]), rfl, rfl⟩⟩

set_option maxHeartbeats 4000000 in
set_option maxRecDepth 100000 in
theorem m_X4_late (I : IM dm a nF nP) {a1 : Nat → Nat → Int32} (ha : a1 = u2 a 100 5 0) (W : WP nF nP (a1 102)) (p1 f1 f2 : Int32) : MT g bs l yX4_late cX4_late 4 (some .int) 3 0 0 [.ref (ad 100), .int p1, .int f1, .int f2] ad dm a b r (PX (some (.int (if fok nP p1 = true then lbI (a1 101) (a1 103) nF (cN (a1 102 (9 * cN p1))) f1 f2 else -1))) ad dm a1 b r) := by
  refine mt_of (by decide) [some (.ref (ad 100)), some (.int p1), some (.int f1), some (.int f2)] rfl (Nat.le_of_ble_eq_true rfl) ?_
  intro E hg hbs hl hN C RT9 hcells hslots hname
  have hnF := I.2.2.1
  have hnP := I.2.2.2.2
  refine g_aload_0 (q := 1) C dX4_late_0 rfl ?_
  refine g_iconst (v := 0) (q := 2) C dX4_late_1 rfl (by decide) ?_
  refine g_puti (q := 5) C p_X4_52 dX4_late_2 rfl rfl (IM.d I _ (by decide) (by decide)) rfl rfl ?_
  rw [← ha]
  have I : IM dm a1 nF nP := by rw [ha]; exact I.th
  refine g_aload_0 (q := 6) C dX4_late_5 rfl ?_
  refine g_iload_1 (q := 7) C dX4_late_6 rfl ?_
  refine g_cv1i (q := 10) C cv_X4_92 dX4_late_7 rfl rfl (IM.d I _ (by decide) (by decide)) (m_X4_isParty I _) (by decide) (Nat.le_of_ble_eq_true rfl) ⟨Nat.zero_le _, Nat.zero_le _⟩ ?_
  refine g_ifeqb (tgt := 23) (q := 13) C dX4_late_10 rfl (by decide) (fun c_10 => ?_) (fun c_10 => ?_)
  · refine g_iconst (v := (-1)) (q := 24) C dX4_late_23 rfl (by decide) ?_
    exact g_iret C RT9 dX4_late_24 (pxi (by first | (rw [if_pos c_10, cN_nI (by omega)]) | (rw [if_neg (by rw [c_10]; decide)])))
  · obtain ⟨q, hq, rfl⟩ := fok_t c_10 (by omega)
    refine g_aload_0 (q := 14) C dX4_late_13 rfl ?_
    refine g_iload_1 (q := 15) C dX4_late_14 rfl ?_
    refine g_iload_2 (q := 16) C dX4_late_15 rfl ?_
    refine g_iload_3 (q := 17) C dX4_late_16 rfl ?_
    refine g_cv3i (q := 20) C cv_X4_114 dX4_late_17 rfl rfl (IM.d I _ (by decide) (by decide)) (m_X4_lateBy I W (by assumption) rfl _ _) (by decide) (Nat.le_of_ble_eq_true rfl) ⟨Nat.zero_le _, Nat.zero_le _⟩ ?_
    refine g_goto (tgt := 24) C dX4_late_20 (by decide) ?_
    exact g_iret C RT9 dX4_late_24 (pxi (by first | (rw [if_pos c_10, cN_nI (by omega)]) | (rw [if_neg (by rw [c_10]; decide)])))

set_option maxHeartbeats 4000000 in
set_option maxRecDepth 100000 in
theorem m_X4_off (I : IM dm a nF nP) {a1 : Nat → Nat → Int32} (ha : a1 = u2 a 100 5 0) (f1 z : Int32) : MT g bs l yX4_off cX4_off 3 (some .boolean) 2 0 0 [.ref (ad 100), .int f1, .int z] ad dm a b r (fun v ad0 dm0 a0 b0 r0 => ad0 = ad ∧ dm0 = dm ∧ b0 = b ∧ r0 = r ∧ ((fok nF f1 = true ∧ a0 = u2 a1 101 (7 * cN f1 + 6) (if z = 0 then 0 else 1) ∧ v = some (.int 1)) ∨ (fok nF f1 = false ∧ a0 = a1 ∧ v = some (.int 0)))) := by
  refine mt_of (by decide) [some (.ref (ad 100)), some (.int f1), some (.int z)] rfl (Nat.le_of_ble_eq_true rfl) ?_
  intro E hg hbs hl hN C RT9 hcells hslots hname
  have hnF := I.2.2.1
  have hnP := I.2.2.2.2
  refine g_aload_0 (q := 1) C dX4_off_0 rfl ?_
  refine g_iconst (v := 0) (q := 2) C dX4_off_1 rfl (by decide) ?_
  refine g_puti (q := 5) C p_X4_52 dX4_off_2 rfl rfl (IM.d I _ (by decide) (by decide)) rfl rfl ?_
  rw [← ha]
  have I : IM dm a1 nF nP := by rw [ha]; exact I.th
  refine g_aload_0 (q := 6) C dX4_off_5 rfl ?_
  refine g_iload_1 (q := 7) C dX4_off_6 rfl ?_
  refine g_cv1i (q := 10) C cv_X4_66 dX4_off_7 rfl rfl (IM.d I _ (by decide) (by decide)) (m_X4_isFlight I _) (by decide) (Nat.le_of_ble_eq_true rfl) ⟨Nat.zero_le _, Nat.zero_le _⟩ ?_
  refine g_ifneb (tgt := 15) (q := 13) C dX4_off_10 rfl (by decide) (fun c_10 => ?_) (fun c_10 => ?_)
  · obtain ⟨f, hf, rfl⟩ := fok_t c_10 (by omega)
    refine g_aload_0 (q := 16) C dX4_off_15 rfl ?_
    refine g_getc (q := 19) (m := 101) C f_X4_9 dX4_off_16 rfl rfl (IM.d I _ (by decide) (by decide)) ?_
    refine g_bipush (v := 7) (q := 21) C dX4_off_19 rfl (by decide) ?_
    refine g_iload_1 (q := 22) C dX4_off_21 rfl ?_
    refine g_imul (q := 23) C dX4_off_22 rfl ?_
    refine g_bipush (v := 6) (q := 25) C dX4_off_23 rfl (by decide) ?_
    refine g_iadd (q := 26) C dX4_off_25 rfl ?_
    refine g_iload_2 (q := 27) C dX4_off_26 rfl ?_
    refine g_if_eq (tgt := 34) (q := 30) C dX4_off_27 rfl (by decide) (fun c_27 => ?_) (fun c_27 => ?_)
    · refine g_iconst (v := 0) (q := 35) C dX4_off_34 rfl (by decide) ?_
      refine g_iast (q := 36) C dX4_off_35 rfl rfl (IM.d I _ (by decide) (by decide)) (ix7 f 6) (by omega) (by decide) ?_
      refine g_iconst (v := 1) (q := 37) C dX4_off_36 rfl (by decide) ?_
      exact g_zret C RT9 dX4_off_37 rfl ⟨rfl, rfl, rfl, rfl, Or.inl ⟨c_10, by rw [cN_nI (by omega)]; first | rw [if_pos c_27] | rw [if_neg c_27], rfl⟩⟩
    · refine g_iconst (v := 1) (q := 31) C dX4_off_30 rfl (by decide) ?_
      refine g_goto (tgt := 35) C dX4_off_31 (by decide) ?_
      refine g_iast (q := 36) C dX4_off_35 rfl rfl (IM.d I _ (by decide) (by decide)) (ix7 f 6) (by omega) (by decide) ?_
      refine g_iconst (v := 1) (q := 37) C dX4_off_36 rfl (by decide) ?_
      exact g_zret C RT9 dX4_off_37 rfl ⟨rfl, rfl, rfl, rfl, Or.inl ⟨c_10, by rw [cN_nI (by omega)]; first | rw [if_pos c_27] | rw [if_neg c_27], rfl⟩⟩
  · refine g_iconst (v := 0) (q := 14) C dX4_off_13 rfl (by decide) ?_
    exact g_zret C RT9 dX4_off_14 rfl ⟨rfl, rfl, rfl, rfl, Or.inr ⟨c_10, rfl, rfl⟩⟩

set_option maxHeartbeats 4000000 in
set_option maxRecDepth 100000 in
theorem m_X4_set (I : IM dm a nF nP) {a1 : Nat → Nat → Int32} (ha : a1 = u2 a 100 5 0) (what z : Int32) : MT g bs l yX4_set cX4_set 4 (some .int) 2 0 0 [.ref (ad 100), .int what, .int z] ad dm a b r (fun v ad0 dm0 a0 b0 r0 => ad0 = ad ∧ dm0 = dm ∧ b0 = b ∧ r0 = r ∧ ((seK what z = true ∧ a0 = u2 a1 103 (cN what) z ∧ v = some (.int (a1 103 (cN what)))) ∨ (seK what z = false ∧ a0 = a1 ∧ v = some (.int (-1))))) := by
  refine mt_of (by decide) [some (.ref (ad 100)), some (.int what), some (.int z), none] rfl (Nat.le_of_ble_eq_true rfl) ?_
  intro E hg hbs hl hN C RT9 hcells hslots hname
  have hnF := I.2.2.1
  have hnP := I.2.2.2.2
  refine g_aload_0 (q := 1) C dX4_set_0 rfl ?_
  refine g_iconst (v := 0) (q := 2) C dX4_set_1 rfl (by decide) ?_
  refine g_puti (q := 5) C p_X4_52 dX4_set_2 rfl rfl (IM.d I _ (by decide) (by decide)) rfl rfl ?_
  rw [← ha]
  have I : IM dm a1 nF nP := by rw [ha]; exact I.th
  refine g_iload_1 (q := 6) C dX4_set_5 rfl ?_
  refine g_iconst (v := 0) (q := 7) C dX4_set_6 rfl (by decide) ?_
  refine g_iconst (v := 3) (q := 8) C dX4_set_7 rfl (by decide) ?_
  refine g_cs3i (q := 11) C cs_X4_59 dX4_set_8 rfl (m_X4_in _ _ _) (by decide) (Nat.le_of_ble_eq_true rfl) ⟨Nat.zero_le _, Nat.zero_le _⟩ ?_
  refine g_ifeqb (tgt := 35) (q := 14) C dX4_set_11 rfl (by decide) (fun c_11 => ?_) (fun c_11 => ?_)
  · refine g_iconst (v := (-1)) (q := 36) C dX4_set_35 rfl (by decide) ?_
    exact g_iret C RT9 dX4_set_36 ⟨rfl, rfl, rfl, rfl, Or.inr ⟨by first | (rw [seK, c_11]; rfl) | (rw [seK, c_11, if_pos c_17, c_32]; rfl) | (rw [seK, c_11, if_neg c_17, c_32]; rfl), rfl, rfl⟩⟩
  · refine g_iload_2 (q := 15) C dX4_set_14 rfl ?_
    refine g_iconst (v := 0) (q := 16) C dX4_set_15 rfl (by decide) ?_
    refine g_iload_1 (q := 17) C dX4_set_16 rfl ?_
    refine g_if_ne (tgt := 26) (q := 20) C dX4_set_17 rfl (by decide) (fun c_17 => ?_) (fun c_17 => ?_)
    · refine g_sipush (v := 9999) (q := 29) C dX4_set_26 rfl (by decide) ?_
      refine g_cs3i (q := 32) C cs_X4_59 dX4_set_29 rfl (m_X4_in _ _ _) (by decide) (Nat.le_of_ble_eq_true rfl) ⟨Nat.zero_le _, Nat.zero_le _⟩ ?_
      refine g_ifneb (tgt := 37) (q := 35) C dX4_set_32 rfl (by decide) (fun c_32 => ?_) (fun c_32 => ?_)
      · obtain ⟨n, hn, rfl⟩ : ∃ n : Nat, n < 4 ∧ what = nI n := fok_t (n := 4) c_11 (by decide)
        refine g_aload_0 (q := 38) C dX4_set_37 rfl ?_
        refine g_getc (q := 41) (m := 103) C f_X4_16 dX4_set_38 rfl rfl (IM.d I _ (by decide) (by decide)) ?_
        refine g_iload_1 (q := 42) C dX4_set_41 rfl ?_
        refine g_ia (q := 43) C dX4_set_42 rfl rfl (IM.d I _ (by decide) (by decide)) rfl (by omega) (by decide) ?_
        refine g_istore_3 (q := 44) C dX4_set_43 rfl (by rw [hN]; decide) rfl ?_
        refine g_aload_0 (q := 45) C dX4_set_44 rfl ?_
        refine g_getc (q := 48) (m := 103) C f_X4_16 dX4_set_45 rfl rfl (IM.d I _ (by decide) (by decide)) ?_
        refine g_iload_1 (q := 49) C dX4_set_48 rfl ?_
        refine g_iload_2 (q := 50) C dX4_set_49 rfl ?_
        refine g_iast (q := 51) C dX4_set_50 rfl rfl (IM.d I _ (by decide) (by decide)) rfl (by omega) (by decide) ?_
        refine g_iload_3 (q := 52) C dX4_set_51 rfl ?_
        exact g_iret C RT9 dX4_set_52 ⟨rfl, rfl, rfl, rfl, Or.inl ⟨by first | (rw [seK, c_11, if_pos c_17, c_32]; rfl) | (rw [seK, c_11, if_neg c_17, c_32]; rfl), by rw [cN_nI (by omega)], by rw [cN_nI (by omega)]⟩⟩
      · refine g_iconst (v := (-1)) (q := 36) C dX4_set_35 rfl (by decide) ?_
        exact g_iret C RT9 dX4_set_36 ⟨rfl, rfl, rfl, rfl, Or.inr ⟨by first | (rw [seK, c_11]; rfl) | (rw [seK, c_11, if_pos c_17, c_32]; rfl) | (rw [seK, c_11, if_neg c_17, c_32]; rfl), rfl, rfl⟩⟩
    · refine g_sipush (v := 300) (q := 23) C dX4_set_20 rfl (by decide) ?_
      refine g_goto (tgt := 29) C dX4_set_23 (by decide) ?_
      refine g_cs3i (q := 32) C cs_X4_59 dX4_set_29 rfl (m_X4_in _ _ _) (by decide) (Nat.le_of_ble_eq_true rfl) ⟨Nat.zero_le _, Nat.zero_le _⟩ ?_
      refine g_ifneb (tgt := 37) (q := 35) C dX4_set_32 rfl (by decide) (fun c_32 => ?_) (fun c_32 => ?_)
      · obtain ⟨n, hn, rfl⟩ : ∃ n : Nat, n < 4 ∧ what = nI n := fok_t (n := 4) c_11 (by decide)
        refine g_aload_0 (q := 38) C dX4_set_37 rfl ?_
        refine g_getc (q := 41) (m := 103) C f_X4_16 dX4_set_38 rfl rfl (IM.d I _ (by decide) (by decide)) ?_
        refine g_iload_1 (q := 42) C dX4_set_41 rfl ?_
        refine g_ia (q := 43) C dX4_set_42 rfl rfl (IM.d I _ (by decide) (by decide)) rfl (by omega) (by decide) ?_
        refine g_istore_3 (q := 44) C dX4_set_43 rfl (by rw [hN]; decide) rfl ?_
        refine g_aload_0 (q := 45) C dX4_set_44 rfl ?_
        refine g_getc (q := 48) (m := 103) C f_X4_16 dX4_set_45 rfl rfl (IM.d I _ (by decide) (by decide)) ?_
        refine g_iload_1 (q := 49) C dX4_set_48 rfl ?_
        refine g_iload_2 (q := 50) C dX4_set_49 rfl ?_
        refine g_iast (q := 51) C dX4_set_50 rfl rfl (IM.d I _ (by decide) (by decide)) rfl (by omega) (by decide) ?_
        refine g_iload_3 (q := 52) C dX4_set_51 rfl ?_
        exact g_iret C RT9 dX4_set_52 ⟨rfl, rfl, rfl, rfl, Or.inl ⟨by first | (rw [seK, c_11, if_pos c_17, c_32]; rfl) | (rw [seK, c_11, if_neg c_17, c_32]; rfl), by rw [cN_nI (by omega)], by rw [cN_nI (by omega)]⟩⟩
      · refine g_iconst (v := (-1)) (q := 36) C dX4_set_35 rfl (by decide) ?_
        exact g_iret C RT9 dX4_set_36 ⟨rfl, rfl, rfl, rfl, Or.inr ⟨by first | (rw [seK, c_11]; rfl) | (rw [seK, c_11, if_pos c_17, c_32]; rfl) | (rw [seK, c_11, if_neg c_17, c_32]; rfl), rfl, rfl⟩⟩

end M11
