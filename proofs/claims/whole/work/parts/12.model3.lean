section M12
variable {g : GM} {bs : Nat} {l : Launch} {ad : Nat → Nat} {dm : Nat → Bool} {a : Nat → Nat → Int32} {b : Nat → Nat → Int64} {r : Nat → Nat → Option Nat} {nF nP : Nat}
set_option maxHeartbeats 4000000 in
set_option maxRecDepth 100000 in
theorem m_X4_give (I : IM dm a nF nP) {q : Nat} (hq : q < nP) {x : Int32} (hx : x = nI q) (v : Int32) : MT g bs l yX4_give cX4_give 3 none 1 0 0 [.ref (ad 100), .int x, .int v] ad dm a b r (PX none ad dm (up1 a 102 (gvP (a 102) q 1 v)) b r) := by
  refine mt_of (by decide) [some (.ref (ad 100)), some (.int x), some (.int v)] rfl (Nat.le_of_ble_eq_true rfl) ?_
  intro E hg hbs hl hN C RT9 hcells hslots hname
  have hnF := I.2.2.1
  have hnP := I.2.2.2.2
  subst hx
  refine g_aload_0 (q := 1) C dX4_give_0 rfl ?_
  refine g_iload_1 (q := 2) C dX4_give_1 rfl ?_
  refine g_iconst (v := 5) (q := 3) C dX4_give_2 rfl (by decide) ?_
  refine g_iconst (v := 1) (q := 4) C dX4_give_3 rfl (by decide) ?_
  refine g_cv3v (q := 7) C cv_X4_106 dX4_give_4 rfl rfl (IM.d I _ (by decide) (by decide)) (m_X4_put I (k := 5) (by omega) rfl rfl _) (by decide) (Nat.le_of_ble_eq_true rfl) ⟨Nat.zero_le _, Nat.zero_le _⟩ ?_
  have I := I.u (n := 102) (k := 9 * q + 5) (x := 1) (by decide)
  refine g_aload_0 (q := 8) C dX4_give_7 rfl ?_
  refine g_iload_1 (q := 9) C dX4_give_8 rfl ?_
  refine g_bipush (v := 6) (q := 11) C dX4_give_9 rfl (by decide) ?_
  refine g_iload_2 (q := 12) C dX4_give_11 rfl ?_
  refine g_cv3v (q := 15) C cv_X4_106 dX4_give_12 rfl rfl (IM.d I _ (by decide) (by decide)) (m_X4_put I (k := 6) (by omega) rfl rfl _) (by decide) (Nat.le_of_ble_eq_true rfl) ⟨Nat.zero_le _, Nat.zero_le _⟩ ?_
  have I := I.u (n := 102) (k := 9 * q + 6) (x := v) (by decide)
  refine g_aload_0 (q := 16) C dX4_give_15 rfl ?_
  refine g_iload_1 (q := 17) C dX4_give_16 rfl ?_
  refine g_bipush (v := 7) (q := 19) C dX4_give_17 rfl (by decide) ?_
  refine g_iconst (v := (-1)) (q := 20) C dX4_give_19 rfl (by decide) ?_
  refine g_cv3v (q := 23) C cv_X4_106 dX4_give_20 rfl rfl (IM.d I _ (by decide) (by decide)) (m_X4_put I (k := 7) (by omega) rfl rfl _) (by decide) (Nat.le_of_ble_eq_true rfl) ⟨Nat.zero_le _, Nat.zero_le _⟩ ?_
  have I := I.u (n := 102) (k := 9 * q + 7) (x := -1) (by decide)
  refine g_aload_0 (q := 24) C dX4_give_23 rfl ?_
  refine g_iload_1 (q := 25) C dX4_give_24 rfl ?_
  refine g_bipush (v := 8) (q := 27) C dX4_give_25 rfl (by decide) ?_
  refine g_iconst (v := (-1)) (q := 28) C dX4_give_27 rfl (by decide) ?_
  refine g_cv3v (q := 31) C cv_X4_106 dX4_give_28 rfl rfl (IM.d I _ (by decide) (by decide)) (m_X4_put I (k := 8) (by omega) rfl rfl _) (by decide) (Nat.le_of_ble_eq_true rfl) ⟨Nat.zero_le _, Nat.zero_le _⟩ ?_
  exact g_vret C RT9 dX4_give_31 ⟨rfl, rfl, rfl, by rw [show u2 a 102 (9 * q + 5) 1 = up1 a 102 _ from u2_up', u2_up, u2_up, u2_up]; rfl, rfl, rfl⟩

theorem in26 {w : Int32} (h : inR w 2 6 = true) : w = 2 ∨ w = 3 ∨ w = 4 ∨ w = 5 ∨ w = 6 := by
  obtain ⟨h1, h2⟩ := inR_t h
  rw [i_le] at h1 h2
  have e2 : (2 : Int32).toInt = 2 := rfl
  have e6 : (6 : Int32).toInt = 6 := rfl
  simp only [i_eq]
  rw [show (2 : Int32).toInt = 2 from rfl, show (3 : Int32).toInt = 3 from rfl, show (4 : Int32).toInt = 4 from rfl, show (5 : Int32).toInt = 5 from rfl, show (6 : Int32).toInt = 6 from rfl]
  omega
set_option maxHeartbeats 4000000 in
set_option maxRecDepth 100000 in
theorem m_X4_count (I : IM dm a nF nP) {a1 : Nat → Nat → Int32} (ha : a1 = u2 a 100 5 0) (W : WP nF nP (a1 102)) (what : Int32) : MT g bs l yX4_count cX4_count 6 (some .int) 3 0 0 [.ref (ad 100), .int what] ad dm a b r (PX (some (.int (cnS (a1 101) (a1 102) (a1 103) nF nP what))) ad dm a1 b r) := by
  refine mt_of (by decide) [some (.ref (ad 100)), some (.int what), none, none, none, none] rfl (Nat.le_of_ble_eq_true rfl) ?_
  intro E hg hbs hl hN C RT9 hcells hslots hname
  have hnF := I.2.2.1
  have hnP := I.2.2.2.2
  have lp2 : IM dm a1 nF nP → ∀ (k i : Nat) (acc : Int32) (e4 e5 : Option Value), what = 2 → i + k = nP → acc = smS (a1 102) (cnc (a1 101) (a1 102) 2) i → G E 0 0 ad dm a1 b r 40 [some (.ref (ad 100)), some (.int 2), some (.int acc), some (.int (nI i)), e4, e5] [] := by
    intro I k i acc e4 e5 hw
    subst hw
    revert i acc e4 e5
    revert k
    have lp : ∀ (k i : Nat) (acc : Int32) (e4 e5 : Option Value), i + k = nP → acc = smS (a1 102) (cnc (a1 101) (a1 102) 2) i → G E 0 0 ad dm a1 b r 40 [some (.ref (ad 100)), some (.int 2), some (.int acc), some (.int (nI i)), e4, e5] [] := by
      intro k
      induction k with
      | zero =>
        intro i acc e4 e5 hi hacc
        refine g_iload_3 (q := 41) C dX4_count_40 rfl ?_
        refine g_aload_0 (q := 42) C dX4_count_41 rfl ?_
        refine g_geti (q := 45) C f_X4_63 dX4_count_42 rfl rfl (IM.d I _ (by decide) (by decide)) ?_
        refine g_icmp_ge (tgt := 165) (q := 48) C dX4_count_45 rfl (by decide) (fun c_45 => ?_) (fun c_45 => absurd (by rw [I.nP]; exact nI_le (by omega) (by omega)) c_45)
        refine g_iload_2 (q := 166) C dX4_count_165 rfl ?_
        exact g_iret C RT9 dX4_count_166 (pxi (by rw [cnS, if_neg (by decide), if_neg (by decide), if_pos (by decide), if_neg (by decide), hacc, show i = nP by omega]))
      | succ k ih =>
        intro i acc e4 e5 hi hacc
        obtain ⟨o, ho, eo⟩ := (W i (by omega)).1
        have hip : i < nP := by omega
        refine g_iload_3 (q := 41) C dX4_count_40 rfl ?_
        refine g_aload_0 (q := 42) C dX4_count_41 rfl ?_
        refine g_geti (q := 45) C f_X4_63 dX4_count_42 rfl rfl (IM.d I _ (by decide) (by decide)) ?_
        refine g_icmp_ge (tgt := 165) (q := 48) C dX4_count_45 rfl (by decide) (fun c_45 => absurd c_45 (by rw [I.nP]; exact nI_ge (by omega) (by omega))) (fun c_45 => ?_)
        refine g_aload_0 (q := 49) C dX4_count_48 rfl ?_
        refine g_iload_3 (q := 50) C dX4_count_49 rfl ?_
        refine g_iconst (v := 5) (q := 51) C dX4_count_50 rfl (by decide) ?_
        refine g_cv2i (q := 54) C cv_X4_70 dX4_count_51 rfl rfl (IM.d I _ (by decide) (by decide)) (m_X4_get I (k := 5) (by omega) rfl rfl) (by decide) (Nat.le_of_ble_eq_true rfl) ⟨Nat.zero_le _, Nat.zero_le _⟩ ?_
        refine g_istore_4 (q := 56) C dX4_count_54 rfl (by rw [hN]; decide) rfl ?_
        refine g_iload_1 (q := 57) C dX4_count_56 rfl ?_
        refine g_iconst (v := 2) (q := 58) C dX4_count_57 rfl (by decide) ?_
        refine g_icmp_ne (tgt := 81) (q := 61) C dX4_count_58 rfl (by decide) (fun c_58 => absurd rfl c_58) (fun c_58 => ?_)
        refine g_iload_4 (q := 63) C dX4_count_61 rfl ?_
        refine g_if_ne (tgt := 81) (q := 66) C dX4_count_63 rfl (by decide) (fun c_63 => ?_) (fun c_63 => ?_)
        · refine g_iload_1 (q := 82) C dX4_count_81 rfl ?_
          refine g_iconst (v := 3) (q := 83) C dX4_count_82 rfl (by decide) ?_
          refine g_icmp_ne (tgt := 92) (q := 86) C dX4_count_83 rfl (by decide) (fun c_83 => ?_) (fun c_83 => absurd c_83 (by decide))
          refine g_iload_1 (q := 93) C dX4_count_92 rfl ?_
          refine g_iconst (v := 4) (q := 94) C dX4_count_93 rfl (by decide) ?_
          refine g_icmp_ne (tgt := 103) (q := 97) C dX4_count_94 rfl (by decide) (fun c_94 => ?_) (fun c_94 => absurd c_94 (by decide))
          refine g_iload_1 (q := 104) C dX4_count_103 rfl ?_
          refine g_iconst (v := 5) (q := 105) C dX4_count_104 rfl (by decide) ?_
          refine g_icmp_ne (tgt := 128) (q := 108) C dX4_count_105 rfl (by decide) (fun c_105 => ?_) (fun c_105 => absurd c_105 (by decide))
          refine g_iconst (v := 0) (q := 129) C dX4_count_128 rfl (by decide) ?_
          refine g_istore_5 (q := 131) C dX4_count_129 rfl (by rw [hN]; decide) rfl ?_
          refine g_iload_5 (q := 133) C dX4_count_131 rfl ?_
          refine g_if_eq (tgt := 145) (q := 136) C dX4_count_133 rfl (by decide) (fun _ => ?_) (fun c_133 => absurd rfl c_133)
          refine g_iload_1 (q := 146) C dX4_count_145 rfl ?_
          refine g_bipush (v := 6) (q := 148) C dX4_count_146 rfl (by decide) ?_
          refine g_icmp_ne (tgt := 159) (q := 151) C dX4_count_148 rfl (by decide) (fun c_148 => ?_) (fun c_148 => absurd c_148 (by decide))
          refine g_iinc_3 (v := nI (i + 1)) (q := 162) C dX4_count_159 rfl (by rw [hN]; decide) (nI_1 i) ?_
          refine g_goto (tgt := 40) C dX4_count_162 (by decide) ?_
          exact ih (i + 1) _ _ _ (by omega) (by first | (simp [smS, cnc_2, hacc, c_63, c_78, eo, cN_nI (show o < 2 ^ 31 by omega)]) | (simp [smS, cnc_2, hacc, c_63]))
        · refine g_aload_0 (q := 67) C dX4_count_66 rfl ?_
          refine g_aload_0 (q := 68) C dX4_count_67 rfl ?_
          refine g_iload_3 (q := 69) C dX4_count_68 rfl ?_
          refine g_iconst (v := 0) (q := 70) C dX4_count_69 rfl (by decide) ?_
          refine g_cv2i (q := 73) C cv_X4_70 dX4_count_70 rfl rfl (IM.d I _ (by decide) (by decide)) (m_X4_get0 I (by omega) rfl) (by decide) (Nat.le_of_ble_eq_true rfl) ⟨Nat.zero_le _, Nat.zero_le _⟩ ?_
          rw [eo]
          refine g_bipush (v := 6) (q := 75) C dX4_count_73 rfl (by decide) ?_
          refine g_cv2i (q := 78) C cv_X4_74 dX4_count_75 rfl rfl (IM.d I _ (by decide) (by decide)) (m_X4_of7 I (k := 6) (by omega) rfl rfl) (by decide) (Nat.le_of_ble_eq_true rfl) ⟨Nat.zero_le _, Nat.zero_le _⟩ ?_
          refine g_if_eq (tgt := 124) (q := 81) C dX4_count_78 rfl (by decide) (fun c_78 => ?_) (fun c_78 => ?_)
          · refine g_iconst (v := 1) (q := 125) C dX4_count_124 rfl (by decide) ?_
            refine g_goto (tgt := 129) C dX4_count_125 (by decide) ?_
            refine g_istore_5 (q := 131) C dX4_count_129 rfl (by rw [hN]; decide) rfl ?_
            refine g_iload_5 (q := 133) C dX4_count_131 rfl ?_
            refine g_if_eq (tgt := 145) (q := 136) C dX4_count_133 rfl (by decide) (fun c_133 => absurd c_133 (by decide)) (fun _ => ?_)
            refine g_iload_2 (q := 137) C dX4_count_136 rfl ?_
            refine g_aload_0 (q := 138) C dX4_count_137 rfl ?_
            refine g_iload_3 (q := 139) C dX4_count_138 rfl ?_
            refine g_iconst (v := 1) (q := 140) C dX4_count_139 rfl (by decide) ?_
            refine g_cv2i (q := 143) C cv_X4_70 dX4_count_140 rfl rfl (IM.d I _ (by decide) (by decide)) (m_X4_get I (k := 1) (by omega) rfl rfl) (by decide) (Nat.le_of_ble_eq_true rfl) ⟨Nat.zero_le _, Nat.zero_le _⟩ ?_
            refine g_iadd (q := 144) C dX4_count_143 rfl ?_
            refine g_istore_2 (q := 145) C dX4_count_144 rfl (by rw [hN]; decide) rfl ?_
            refine g_iload_1 (q := 146) C dX4_count_145 rfl ?_
            refine g_bipush (v := 6) (q := 148) C dX4_count_146 rfl (by decide) ?_
            refine g_icmp_ne (tgt := 159) (q := 151) C dX4_count_148 rfl (by decide) (fun c_148 => ?_) (fun c_148 => absurd c_148 (by decide))
            refine g_iinc_3 (v := nI (i + 1)) (q := 162) C dX4_count_159 rfl (by rw [hN]; decide) (nI_1 i) ?_
            refine g_goto (tgt := 40) C dX4_count_162 (by decide) ?_
            exact ih (i + 1) _ _ _ (by omega) (by first | (simp [smS, cnc_2, hacc, c_63, c_78, eo, cN_nI (show o < 2 ^ 31 by omega)]) | (simp [smS, cnc_2, hacc, c_63]))
          · refine g_iload_1 (q := 82) C dX4_count_81 rfl ?_
            refine g_iconst (v := 3) (q := 83) C dX4_count_82 rfl (by decide) ?_
            refine g_icmp_ne (tgt := 92) (q := 86) C dX4_count_83 rfl (by decide) (fun c_83 => ?_) (fun c_83 => absurd c_83 (by decide))
            refine g_iload_1 (q := 93) C dX4_count_92 rfl ?_
            refine g_iconst (v := 4) (q := 94) C dX4_count_93 rfl (by decide) ?_
            refine g_icmp_ne (tgt := 103) (q := 97) C dX4_count_94 rfl (by decide) (fun c_94 => ?_) (fun c_94 => absurd c_94 (by decide))
            refine g_iload_1 (q := 104) C dX4_count_103 rfl ?_
            refine g_iconst (v := 5) (q := 105) C dX4_count_104 rfl (by decide) ?_
            refine g_icmp_ne (tgt := 128) (q := 108) C dX4_count_105 rfl (by decide) (fun c_105 => ?_) (fun c_105 => absurd c_105 (by decide))
            refine g_iconst (v := 0) (q := 129) C dX4_count_128 rfl (by decide) ?_
            refine g_istore_5 (q := 131) C dX4_count_129 rfl (by rw [hN]; decide) rfl ?_
            refine g_iload_5 (q := 133) C dX4_count_131 rfl ?_
            refine g_if_eq (tgt := 145) (q := 136) C dX4_count_133 rfl (by decide) (fun _ => ?_) (fun c_133 => absurd rfl c_133)
            refine g_iload_1 (q := 146) C dX4_count_145 rfl ?_
            refine g_bipush (v := 6) (q := 148) C dX4_count_146 rfl (by decide) ?_
            refine g_icmp_ne (tgt := 159) (q := 151) C dX4_count_148 rfl (by decide) (fun c_148 => ?_) (fun c_148 => absurd c_148 (by decide))
            refine g_iinc_3 (v := nI (i + 1)) (q := 162) C dX4_count_159 rfl (by rw [hN]; decide) (nI_1 i) ?_
            refine g_goto (tgt := 40) C dX4_count_162 (by decide) ?_
            exact ih (i + 1) _ _ _ (by omega) (by first | (simp [smS, cnc_2, hacc, c_63, c_78, eo, cN_nI (show o < 2 ^ 31 by omega)]) | (simp [smS, cnc_2, hacc, c_63]))
    exact lp
  have lp3 : IM dm a1 nF nP → ∀ (k i : Nat) (acc : Int32) (e4 e5 : Option Value), what = 3 → i + k = nP → acc = smS (a1 102) (cnc (a1 101) (a1 102) 3) i → G E 0 0 ad dm a1 b r 40 [some (.ref (ad 100)), some (.int 3), some (.int acc), some (.int (nI i)), e4, e5] [] := by
    intro I k i acc e4 e5 hw
    subst hw
    revert i acc e4 e5
    revert k
    have lp : ∀ (k i : Nat) (acc : Int32) (e4 e5 : Option Value), i + k = nP → acc = smS (a1 102) (cnc (a1 101) (a1 102) 3) i → G E 0 0 ad dm a1 b r 40 [some (.ref (ad 100)), some (.int 3), some (.int acc), some (.int (nI i)), e4, e5] [] := by
      intro k
      induction k with
      | zero =>
        intro i acc e4 e5 hi hacc
        refine g_iload_3 (q := 41) C dX4_count_40 rfl ?_
        refine g_aload_0 (q := 42) C dX4_count_41 rfl ?_
        refine g_geti (q := 45) C f_X4_63 dX4_count_42 rfl rfl (IM.d I _ (by decide) (by decide)) ?_
        refine g_icmp_ge (tgt := 165) (q := 48) C dX4_count_45 rfl (by decide) (fun c_45 => ?_) (fun c_45 => absurd (by rw [I.nP]; exact nI_le (by omega) (by omega)) c_45)
        refine g_iload_2 (q := 166) C dX4_count_165 rfl ?_
        exact g_iret C RT9 dX4_count_166 (pxi (by rw [cnS, if_neg (by decide), if_neg (by decide), if_pos (by decide), if_neg (by decide), hacc, show i = nP by omega]))
      | succ k ih =>
        intro i acc e4 e5 hi hacc
        obtain ⟨o, ho, eo⟩ := (W i (by omega)).1
        have hip : i < nP := by omega
        refine g_iload_3 (q := 41) C dX4_count_40 rfl ?_
        refine g_aload_0 (q := 42) C dX4_count_41 rfl ?_
        refine g_geti (q := 45) C f_X4_63 dX4_count_42 rfl rfl (IM.d I _ (by decide) (by decide)) ?_
        refine g_icmp_ge (tgt := 165) (q := 48) C dX4_count_45 rfl (by decide) (fun c_45 => absurd c_45 (by rw [I.nP]; exact nI_ge (by omega) (by omega))) (fun c_45 => ?_)
        refine g_aload_0 (q := 49) C dX4_count_48 rfl ?_
        refine g_iload_3 (q := 50) C dX4_count_49 rfl ?_
        refine g_iconst (v := 5) (q := 51) C dX4_count_50 rfl (by decide) ?_
        refine g_cv2i (q := 54) C cv_X4_70 dX4_count_51 rfl rfl (IM.d I _ (by decide) (by decide)) (m_X4_get I (k := 5) (by omega) rfl rfl) (by decide) (Nat.le_of_ble_eq_true rfl) ⟨Nat.zero_le _, Nat.zero_le _⟩ ?_
        refine g_istore_4 (q := 56) C dX4_count_54 rfl (by rw [hN]; decide) rfl ?_
        refine g_iload_1 (q := 57) C dX4_count_56 rfl ?_
        refine g_iconst (v := 2) (q := 58) C dX4_count_57 rfl (by decide) ?_
        refine g_icmp_ne (tgt := 81) (q := 61) C dX4_count_58 rfl (by decide) (fun c_58 => ?_) (fun c_58 => absurd c_58 (by decide))
        refine g_iload_1 (q := 82) C dX4_count_81 rfl ?_
        refine g_iconst (v := 3) (q := 83) C dX4_count_82 rfl (by decide) ?_
        refine g_icmp_ne (tgt := 92) (q := 86) C dX4_count_83 rfl (by decide) (fun c_83 => absurd rfl c_83) (fun c_83 => ?_)
        refine g_iload_4 (q := 88) C dX4_count_86 rfl ?_
        refine g_iconst (v := 1) (q := 89) C dX4_count_88 rfl (by decide) ?_
        refine g_icmp_eq (tgt := 124) (q := 92) C dX4_count_89 rfl (by decide) (fun c_89 => ?_) (fun c_89 => ?_)
        · refine g_iconst (v := 1) (q := 125) C dX4_count_124 rfl (by decide) ?_
          refine g_goto (tgt := 129) C dX4_count_125 (by decide) ?_
          refine g_istore_5 (q := 131) C dX4_count_129 rfl (by rw [hN]; decide) rfl ?_
          refine g_iload_5 (q := 133) C dX4_count_131 rfl ?_
          refine g_if_eq (tgt := 145) (q := 136) C dX4_count_133 rfl (by decide) (fun c_133 => absurd c_133 (by decide)) (fun _ => ?_)
          refine g_iload_2 (q := 137) C dX4_count_136 rfl ?_
          refine g_aload_0 (q := 138) C dX4_count_137 rfl ?_
          refine g_iload_3 (q := 139) C dX4_count_138 rfl ?_
          refine g_iconst (v := 1) (q := 140) C dX4_count_139 rfl (by decide) ?_
          refine g_cv2i (q := 143) C cv_X4_70 dX4_count_140 rfl rfl (IM.d I _ (by decide) (by decide)) (m_X4_get I (k := 1) (by omega) rfl rfl) (by decide) (Nat.le_of_ble_eq_true rfl) ⟨Nat.zero_le _, Nat.zero_le _⟩ ?_
          refine g_iadd (q := 144) C dX4_count_143 rfl ?_
          refine g_istore_2 (q := 145) C dX4_count_144 rfl (by rw [hN]; decide) rfl ?_
          refine g_iload_1 (q := 146) C dX4_count_145 rfl ?_
          refine g_bipush (v := 6) (q := 148) C dX4_count_146 rfl (by decide) ?_
          refine g_icmp_ne (tgt := 159) (q := 151) C dX4_count_148 rfl (by decide) (fun c_148 => ?_) (fun c_148 => absurd c_148 (by decide))
          refine g_iinc_3 (v := nI (i + 1)) (q := 162) C dX4_count_159 rfl (by rw [hN]; decide) (nI_1 i) ?_
          refine g_goto (tgt := 40) C dX4_count_162 (by decide) ?_
          exact ih (i + 1) _ _ _ (by omega) (by first | (simp [smS, cnc_3, hacc, c_89]))
        · refine g_iload_1 (q := 93) C dX4_count_92 rfl ?_
          refine g_iconst (v := 4) (q := 94) C dX4_count_93 rfl (by decide) ?_
          refine g_icmp_ne (tgt := 103) (q := 97) C dX4_count_94 rfl (by decide) (fun c_94 => ?_) (fun c_94 => absurd c_94 (by decide))
          refine g_iload_1 (q := 104) C dX4_count_103 rfl ?_
          refine g_iconst (v := 5) (q := 105) C dX4_count_104 rfl (by decide) ?_
          refine g_icmp_ne (tgt := 128) (q := 108) C dX4_count_105 rfl (by decide) (fun c_105 => ?_) (fun c_105 => absurd c_105 (by decide))
          refine g_iconst (v := 0) (q := 129) C dX4_count_128 rfl (by decide) ?_
          refine g_istore_5 (q := 131) C dX4_count_129 rfl (by rw [hN]; decide) rfl ?_
          refine g_iload_5 (q := 133) C dX4_count_131 rfl ?_
          refine g_if_eq (tgt := 145) (q := 136) C dX4_count_133 rfl (by decide) (fun _ => ?_) (fun c_133 => absurd rfl c_133)
          refine g_iload_1 (q := 146) C dX4_count_145 rfl ?_
          refine g_bipush (v := 6) (q := 148) C dX4_count_146 rfl (by decide) ?_
          refine g_icmp_ne (tgt := 159) (q := 151) C dX4_count_148 rfl (by decide) (fun c_148 => ?_) (fun c_148 => absurd c_148 (by decide))
          refine g_iinc_3 (v := nI (i + 1)) (q := 162) C dX4_count_159 rfl (by rw [hN]; decide) (nI_1 i) ?_
          refine g_goto (tgt := 40) C dX4_count_162 (by decide) ?_
          exact ih (i + 1) _ _ _ (by omega) (by first | (simp [smS, cnc_3, hacc, c_89]))
    exact lp
  have lp4 : IM dm a1 nF nP → ∀ (k i : Nat) (acc : Int32) (e4 e5 : Option Value), what = 4 → i + k = nP → acc = smS (a1 102) (cnc (a1 101) (a1 102) 4) i → G E 0 0 ad dm a1 b r 40 [some (.ref (ad 100)), some (.int 4), some (.int acc), some (.int (nI i)), e4, e5] [] := by
    intro I k i acc e4 e5 hw
    subst hw
    revert i acc e4 e5
    revert k
    have lp : ∀ (k i : Nat) (acc : Int32) (e4 e5 : Option Value), i + k = nP → acc = smS (a1 102) (cnc (a1 101) (a1 102) 4) i → G E 0 0 ad dm a1 b r 40 [some (.ref (ad 100)), some (.int 4), some (.int acc), some (.int (nI i)), e4, e5] [] := by
      intro k
      induction k with
      | zero =>
        intro i acc e4 e5 hi hacc
        refine g_iload_3 (q := 41) C dX4_count_40 rfl ?_
        refine g_aload_0 (q := 42) C dX4_count_41 rfl ?_
        refine g_geti (q := 45) C f_X4_63 dX4_count_42 rfl rfl (IM.d I _ (by decide) (by decide)) ?_
        refine g_icmp_ge (tgt := 165) (q := 48) C dX4_count_45 rfl (by decide) (fun c_45 => ?_) (fun c_45 => absurd (by rw [I.nP]; exact nI_le (by omega) (by omega)) c_45)
        refine g_iload_2 (q := 166) C dX4_count_165 rfl ?_
        exact g_iret C RT9 dX4_count_166 (pxi (by rw [cnS, if_neg (by decide), if_neg (by decide), if_pos (by decide), if_neg (by decide), hacc, show i = nP by omega]))
      | succ k ih =>
        intro i acc e4 e5 hi hacc
        obtain ⟨o, ho, eo⟩ := (W i (by omega)).1
        have hip : i < nP := by omega
        refine g_iload_3 (q := 41) C dX4_count_40 rfl ?_
        refine g_aload_0 (q := 42) C dX4_count_41 rfl ?_
        refine g_geti (q := 45) C f_X4_63 dX4_count_42 rfl rfl (IM.d I _ (by decide) (by decide)) ?_
        refine g_icmp_ge (tgt := 165) (q := 48) C dX4_count_45 rfl (by decide) (fun c_45 => absurd c_45 (by rw [I.nP]; exact nI_ge (by omega) (by omega))) (fun c_45 => ?_)
        refine g_aload_0 (q := 49) C dX4_count_48 rfl ?_
        refine g_iload_3 (q := 50) C dX4_count_49 rfl ?_
        refine g_iconst (v := 5) (q := 51) C dX4_count_50 rfl (by decide) ?_
        refine g_cv2i (q := 54) C cv_X4_70 dX4_count_51 rfl rfl (IM.d I _ (by decide) (by decide)) (m_X4_get I (k := 5) (by omega) rfl rfl) (by decide) (Nat.le_of_ble_eq_true rfl) ⟨Nat.zero_le _, Nat.zero_le _⟩ ?_
        refine g_istore_4 (q := 56) C dX4_count_54 rfl (by rw [hN]; decide) rfl ?_
        refine g_iload_1 (q := 57) C dX4_count_56 rfl ?_
        refine g_iconst (v := 2) (q := 58) C dX4_count_57 rfl (by decide) ?_
        refine g_icmp_ne (tgt := 81) (q := 61) C dX4_count_58 rfl (by decide) (fun c_58 => ?_) (fun c_58 => absurd c_58 (by decide))
        refine g_iload_1 (q := 82) C dX4_count_81 rfl ?_
        refine g_iconst (v := 3) (q := 83) C dX4_count_82 rfl (by decide) ?_
        refine g_icmp_ne (tgt := 92) (q := 86) C dX4_count_83 rfl (by decide) (fun c_83 => ?_) (fun c_83 => absurd c_83 (by decide))
        refine g_iload_1 (q := 93) C dX4_count_92 rfl ?_
        refine g_iconst (v := 4) (q := 94) C dX4_count_93 rfl (by decide) ?_
        refine g_icmp_ne (tgt := 103) (q := 97) C dX4_count_94 rfl (by decide) (fun c_94 => absurd rfl c_94) (fun c_94 => ?_)
        refine g_iload_4 (q := 99) C dX4_count_97 rfl ?_
        refine g_iconst (v := 2) (q := 100) C dX4_count_99 rfl (by decide) ?_
        refine g_icmp_eq (tgt := 124) (q := 103) C dX4_count_100 rfl (by decide) (fun c_100 => ?_) (fun c_100 => ?_)
        · refine g_iconst (v := 1) (q := 125) C dX4_count_124 rfl (by decide) ?_
          refine g_goto (tgt := 129) C dX4_count_125 (by decide) ?_
          refine g_istore_5 (q := 131) C dX4_count_129 rfl (by rw [hN]; decide) rfl ?_
          refine g_iload_5 (q := 133) C dX4_count_131 rfl ?_
          refine g_if_eq (tgt := 145) (q := 136) C dX4_count_133 rfl (by decide) (fun c_133 => absurd c_133 (by decide)) (fun _ => ?_)
          refine g_iload_2 (q := 137) C dX4_count_136 rfl ?_
          refine g_aload_0 (q := 138) C dX4_count_137 rfl ?_
          refine g_iload_3 (q := 139) C dX4_count_138 rfl ?_
          refine g_iconst (v := 1) (q := 140) C dX4_count_139 rfl (by decide) ?_
          refine g_cv2i (q := 143) C cv_X4_70 dX4_count_140 rfl rfl (IM.d I _ (by decide) (by decide)) (m_X4_get I (k := 1) (by omega) rfl rfl) (by decide) (Nat.le_of_ble_eq_true rfl) ⟨Nat.zero_le _, Nat.zero_le _⟩ ?_
          refine g_iadd (q := 144) C dX4_count_143 rfl ?_
          refine g_istore_2 (q := 145) C dX4_count_144 rfl (by rw [hN]; decide) rfl ?_
          refine g_iload_1 (q := 146) C dX4_count_145 rfl ?_
          refine g_bipush (v := 6) (q := 148) C dX4_count_146 rfl (by decide) ?_
          refine g_icmp_ne (tgt := 159) (q := 151) C dX4_count_148 rfl (by decide) (fun c_148 => ?_) (fun c_148 => absurd c_148 (by decide))
          refine g_iinc_3 (v := nI (i + 1)) (q := 162) C dX4_count_159 rfl (by rw [hN]; decide) (nI_1 i) ?_
          refine g_goto (tgt := 40) C dX4_count_162 (by decide) ?_
          exact ih (i + 1) _ _ _ (by omega) (by first | (simp [smS, cnc_4, hacc, c_100]))
        · refine g_iload_1 (q := 104) C dX4_count_103 rfl ?_
          refine g_iconst (v := 5) (q := 105) C dX4_count_104 rfl (by decide) ?_
          refine g_icmp_ne (tgt := 128) (q := 108) C dX4_count_105 rfl (by decide) (fun c_105 => ?_) (fun c_105 => absurd c_105 (by decide))
          refine g_iconst (v := 0) (q := 129) C dX4_count_128 rfl (by decide) ?_
          refine g_istore_5 (q := 131) C dX4_count_129 rfl (by rw [hN]; decide) rfl ?_
          refine g_iload_5 (q := 133) C dX4_count_131 rfl ?_
          refine g_if_eq (tgt := 145) (q := 136) C dX4_count_133 rfl (by decide) (fun _ => ?_) (fun c_133 => absurd rfl c_133)
          refine g_iload_1 (q := 146) C dX4_count_145 rfl ?_
          refine g_bipush (v := 6) (q := 148) C dX4_count_146 rfl (by decide) ?_
          refine g_icmp_ne (tgt := 159) (q := 151) C dX4_count_148 rfl (by decide) (fun c_148 => ?_) (fun c_148 => absurd c_148 (by decide))
          refine g_iinc_3 (v := nI (i + 1)) (q := 162) C dX4_count_159 rfl (by rw [hN]; decide) (nI_1 i) ?_
          refine g_goto (tgt := 40) C dX4_count_162 (by decide) ?_
          exact ih (i + 1) _ _ _ (by omega) (by first | (simp [smS, cnc_4, hacc, c_100]))
    exact lp
  have lp5 : IM dm a1 nF nP → ∀ (k i : Nat) (acc : Int32) (e4 e5 : Option Value), what = 5 → i + k = nP → acc = smS (a1 102) (cnc (a1 101) (a1 102) 5) i → G E 0 0 ad dm a1 b r 40 [some (.ref (ad 100)), some (.int 5), some (.int acc), some (.int (nI i)), e4, e5] [] := by
    intro I k i acc e4 e5 hw
    subst hw
    revert i acc e4 e5
    revert k
    have lp : ∀ (k i : Nat) (acc : Int32) (e4 e5 : Option Value), i + k = nP → acc = smS (a1 102) (cnc (a1 101) (a1 102) 5) i → G E 0 0 ad dm a1 b r 40 [some (.ref (ad 100)), some (.int 5), some (.int acc), some (.int (nI i)), e4, e5] [] := by
      intro k
      induction k with
      | zero =>
        intro i acc e4 e5 hi hacc
        refine g_iload_3 (q := 41) C dX4_count_40 rfl ?_
        refine g_aload_0 (q := 42) C dX4_count_41 rfl ?_
        refine g_geti (q := 45) C f_X4_63 dX4_count_42 rfl rfl (IM.d I _ (by decide) (by decide)) ?_
        refine g_icmp_ge (tgt := 165) (q := 48) C dX4_count_45 rfl (by decide) (fun c_45 => ?_) (fun c_45 => absurd (by rw [I.nP]; exact nI_le (by omega) (by omega)) c_45)
        refine g_iload_2 (q := 166) C dX4_count_165 rfl ?_
        exact g_iret C RT9 dX4_count_166 (pxi (by rw [cnS, if_neg (by decide), if_neg (by decide), if_pos (by decide), if_neg (by decide), hacc, show i = nP by omega]))
      | succ k ih =>
        intro i acc e4 e5 hi hacc
        obtain ⟨o, ho, eo⟩ := (W i (by omega)).1
        have hip : i < nP := by omega
        refine g_iload_3 (q := 41) C dX4_count_40 rfl ?_
        refine g_aload_0 (q := 42) C dX4_count_41 rfl ?_
        refine g_geti (q := 45) C f_X4_63 dX4_count_42 rfl rfl (IM.d I _ (by decide) (by decide)) ?_
        refine g_icmp_ge (tgt := 165) (q := 48) C dX4_count_45 rfl (by decide) (fun c_45 => absurd c_45 (by rw [I.nP]; exact nI_ge (by omega) (by omega))) (fun c_45 => ?_)
        refine g_aload_0 (q := 49) C dX4_count_48 rfl ?_
        refine g_iload_3 (q := 50) C dX4_count_49 rfl ?_
        refine g_iconst (v := 5) (q := 51) C dX4_count_50 rfl (by decide) ?_
        refine g_cv2i (q := 54) C cv_X4_70 dX4_count_51 rfl rfl (IM.d I _ (by decide) (by decide)) (m_X4_get I (k := 5) (by omega) rfl rfl) (by decide) (Nat.le_of_ble_eq_true rfl) ⟨Nat.zero_le _, Nat.zero_le _⟩ ?_
        refine g_istore_4 (q := 56) C dX4_count_54 rfl (by rw [hN]; decide) rfl ?_
        refine g_iload_1 (q := 57) C dX4_count_56 rfl ?_
        refine g_iconst (v := 2) (q := 58) C dX4_count_57 rfl (by decide) ?_
        refine g_icmp_ne (tgt := 81) (q := 61) C dX4_count_58 rfl (by decide) (fun c_58 => ?_) (fun c_58 => absurd c_58 (by decide))
        refine g_iload_1 (q := 82) C dX4_count_81 rfl ?_
        refine g_iconst (v := 3) (q := 83) C dX4_count_82 rfl (by decide) ?_
        refine g_icmp_ne (tgt := 92) (q := 86) C dX4_count_83 rfl (by decide) (fun c_83 => ?_) (fun c_83 => absurd c_83 (by decide))
        refine g_iload_1 (q := 93) C dX4_count_92 rfl ?_
        refine g_iconst (v := 4) (q := 94) C dX4_count_93 rfl (by decide) ?_
        refine g_icmp_ne (tgt := 103) (q := 97) C dX4_count_94 rfl (by decide) (fun c_94 => ?_) (fun c_94 => absurd c_94 (by decide))
        refine g_iload_1 (q := 104) C dX4_count_103 rfl ?_
        refine g_iconst (v := 5) (q := 105) C dX4_count_104 rfl (by decide) ?_
        refine g_icmp_ne (tgt := 128) (q := 108) C dX4_count_105 rfl (by decide) (fun c_105 => absurd rfl c_105) (fun c_105 => ?_)
        refine g_iload_4 (q := 110) C dX4_count_108 rfl ?_
        refine g_if_le (tgt := 128) (q := 113) C dX4_count_110 rfl (by decide) (fun c_110 => ?_) (fun c_110 => ?_)
        · refine g_iconst (v := 0) (q := 129) C dX4_count_128 rfl (by decide) ?_
          refine g_istore_5 (q := 131) C dX4_count_129 rfl (by rw [hN]; decide) rfl ?_
          refine g_iload_5 (q := 133) C dX4_count_131 rfl ?_
          refine g_if_eq (tgt := 145) (q := 136) C dX4_count_133 rfl (by decide) (fun _ => ?_) (fun c_133 => absurd rfl c_133)
          refine g_iload_1 (q := 146) C dX4_count_145 rfl ?_
          refine g_bipush (v := 6) (q := 148) C dX4_count_146 rfl (by decide) ?_
          refine g_icmp_ne (tgt := 159) (q := 151) C dX4_count_148 rfl (by decide) (fun c_148 => ?_) (fun c_148 => absurd c_148 (by decide))
          refine g_iinc_3 (v := nI (i + 1)) (q := 162) C dX4_count_159 rfl (by rw [hN]; decide) (nI_1 i) ?_
          refine g_goto (tgt := 40) C dX4_count_162 (by decide) ?_
          exact ih (i + 1) _ _ _ (by omega) (by first | (simp [smS, cnc_5, hacc, c_110, c_121]) | (simp [smS, cnc_5, hacc, Int32.not_lt.mpr c_110]))
        · refine g_aload_0 (q := 114) C dX4_count_113 rfl ?_
          refine g_iload_3 (q := 115) C dX4_count_114 rfl ?_
          refine g_bipush (v := 7) (q := 117) C dX4_count_115 rfl (by decide) ?_
          refine g_cv2i (q := 120) C cv_X4_70 dX4_count_117 rfl rfl (IM.d I _ (by decide) (by decide)) (m_X4_get I (k := 7) (by omega) rfl rfl) (by decide) (Nat.le_of_ble_eq_true rfl) ⟨Nat.zero_le _, Nat.zero_le _⟩ ?_
          refine g_iconst (v := (-1)) (q := 121) C dX4_count_120 rfl (by decide) ?_
          refine g_icmp_eq (tgt := 128) (q := 124) C dX4_count_121 rfl (by decide) (fun c_121 => ?_) (fun c_121 => ?_)
          · refine g_iconst (v := 0) (q := 129) C dX4_count_128 rfl (by decide) ?_
            refine g_istore_5 (q := 131) C dX4_count_129 rfl (by rw [hN]; decide) rfl ?_
            refine g_iload_5 (q := 133) C dX4_count_131 rfl ?_
            refine g_if_eq (tgt := 145) (q := 136) C dX4_count_133 rfl (by decide) (fun _ => ?_) (fun c_133 => absurd rfl c_133)
            refine g_iload_1 (q := 146) C dX4_count_145 rfl ?_
            refine g_bipush (v := 6) (q := 148) C dX4_count_146 rfl (by decide) ?_
            refine g_icmp_ne (tgt := 159) (q := 151) C dX4_count_148 rfl (by decide) (fun c_148 => ?_) (fun c_148 => absurd c_148 (by decide))
            refine g_iinc_3 (v := nI (i + 1)) (q := 162) C dX4_count_159 rfl (by rw [hN]; decide) (nI_1 i) ?_
            refine g_goto (tgt := 40) C dX4_count_162 (by decide) ?_
            exact ih (i + 1) _ _ _ (by omega) (by first | (simp [smS, cnc_5, hacc, c_110, c_121]) | (simp [smS, cnc_5, hacc, Int32.not_lt.mpr c_110]))
          · refine g_iconst (v := 1) (q := 125) C dX4_count_124 rfl (by decide) ?_
            refine g_goto (tgt := 129) C dX4_count_125 (by decide) ?_
            refine g_istore_5 (q := 131) C dX4_count_129 rfl (by rw [hN]; decide) rfl ?_
            refine g_iload_5 (q := 133) C dX4_count_131 rfl ?_
            refine g_if_eq (tgt := 145) (q := 136) C dX4_count_133 rfl (by decide) (fun c_133 => absurd c_133 (by decide)) (fun _ => ?_)
            refine g_iload_2 (q := 137) C dX4_count_136 rfl ?_
            refine g_aload_0 (q := 138) C dX4_count_137 rfl ?_
            refine g_iload_3 (q := 139) C dX4_count_138 rfl ?_
            refine g_iconst (v := 1) (q := 140) C dX4_count_139 rfl (by decide) ?_
            refine g_cv2i (q := 143) C cv_X4_70 dX4_count_140 rfl rfl (IM.d I _ (by decide) (by decide)) (m_X4_get I (k := 1) (by omega) rfl rfl) (by decide) (Nat.le_of_ble_eq_true rfl) ⟨Nat.zero_le _, Nat.zero_le _⟩ ?_
            refine g_iadd (q := 144) C dX4_count_143 rfl ?_
            refine g_istore_2 (q := 145) C dX4_count_144 rfl (by rw [hN]; decide) rfl ?_
            refine g_iload_1 (q := 146) C dX4_count_145 rfl ?_
            refine g_bipush (v := 6) (q := 148) C dX4_count_146 rfl (by decide) ?_
            refine g_icmp_ne (tgt := 159) (q := 151) C dX4_count_148 rfl (by decide) (fun c_148 => ?_) (fun c_148 => absurd c_148 (by decide))
            refine g_iinc_3 (v := nI (i + 1)) (q := 162) C dX4_count_159 rfl (by rw [hN]; decide) (nI_1 i) ?_
            refine g_goto (tgt := 40) C dX4_count_162 (by decide) ?_
            exact ih (i + 1) _ _ _ (by omega) (by first | (simp [smS, cnc_5, hacc, c_110, c_121]) | (simp [smS, cnc_5, hacc, Int32.not_lt.mpr c_110]))
    exact lp
  have lp6 : IM dm a1 nF nP → ∀ (k i : Nat) (acc : Int32) (e4 e5 : Option Value), what = 6 → i + k = nP → acc = csS (a1 101) (a1 102) (a1 103) i → G E 0 0 ad dm a1 b r 40 [some (.ref (ad 100)), some (.int 6), some (.int acc), some (.int (nI i)), e4, e5] [] := by
    intro I k i acc e4 e5 hw
    subst hw
    revert i acc e4 e5
    revert k
    have lp : ∀ (k i : Nat) (acc : Int32) (e4 e5 : Option Value), i + k = nP → acc = csS (a1 101) (a1 102) (a1 103) i → G E 0 0 ad dm a1 b r 40 [some (.ref (ad 100)), some (.int 6), some (.int acc), some (.int (nI i)), e4, e5] [] := by
      intro k
      induction k with
      | zero =>
        intro i acc e4 e5 hi hacc
        refine g_iload_3 (q := 41) C dX4_count_40 rfl ?_
        refine g_aload_0 (q := 42) C dX4_count_41 rfl ?_
        refine g_geti (q := 45) C f_X4_63 dX4_count_42 rfl rfl (IM.d I _ (by decide) (by decide)) ?_
        refine g_icmp_ge (tgt := 165) (q := 48) C dX4_count_45 rfl (by decide) (fun c_45 => ?_) (fun c_45 => absurd (by rw [I.nP]; exact nI_le (by omega) (by omega)) c_45)
        refine g_iload_2 (q := 166) C dX4_count_165 rfl ?_
        exact g_iret C RT9 dX4_count_166 (pxi (by rw [cnS, if_neg (by decide), if_neg (by decide), if_pos (by decide), if_pos rfl, hacc, show i = nP by omega]))
      | succ k ih =>
        intro i acc e4 e5 hi hacc
        obtain ⟨o, ho, eo⟩ := (W i (by omega)).1
        have hip : i < nP := by omega
        refine g_iload_3 (q := 41) C dX4_count_40 rfl ?_
        refine g_aload_0 (q := 42) C dX4_count_41 rfl ?_
        refine g_geti (q := 45) C f_X4_63 dX4_count_42 rfl rfl (IM.d I _ (by decide) (by decide)) ?_
        refine g_icmp_ge (tgt := 165) (q := 48) C dX4_count_45 rfl (by decide) (fun c_45 => absurd c_45 (by rw [I.nP]; exact nI_ge (by omega) (by omega))) (fun c_45 => ?_)
        refine g_aload_0 (q := 49) C dX4_count_48 rfl ?_
        refine g_iload_3 (q := 50) C dX4_count_49 rfl ?_
        refine g_iconst (v := 5) (q := 51) C dX4_count_50 rfl (by decide) ?_
        refine g_cv2i (q := 54) C cv_X4_70 dX4_count_51 rfl rfl (IM.d I _ (by decide) (by decide)) (m_X4_get I (k := 5) (by omega) rfl rfl) (by decide) (Nat.le_of_ble_eq_true rfl) ⟨Nat.zero_le _, Nat.zero_le _⟩ ?_
        refine g_istore_4 (q := 56) C dX4_count_54 rfl (by rw [hN]; decide) rfl ?_
        refine g_iload_1 (q := 57) C dX4_count_56 rfl ?_
        refine g_iconst (v := 2) (q := 58) C dX4_count_57 rfl (by decide) ?_
        refine g_icmp_ne (tgt := 81) (q := 61) C dX4_count_58 rfl (by decide) (fun c_58 => ?_) (fun c_58 => absurd c_58 (by decide))
        refine g_iload_1 (q := 82) C dX4_count_81 rfl ?_
        refine g_iconst (v := 3) (q := 83) C dX4_count_82 rfl (by decide) ?_
        refine g_icmp_ne (tgt := 92) (q := 86) C dX4_count_83 rfl (by decide) (fun c_83 => ?_) (fun c_83 => absurd c_83 (by decide))
        refine g_iload_1 (q := 93) C dX4_count_92 rfl ?_
        refine g_iconst (v := 4) (q := 94) C dX4_count_93 rfl (by decide) ?_
        refine g_icmp_ne (tgt := 103) (q := 97) C dX4_count_94 rfl (by decide) (fun c_94 => ?_) (fun c_94 => absurd c_94 (by decide))
        refine g_iload_1 (q := 104) C dX4_count_103 rfl ?_
        refine g_iconst (v := 5) (q := 105) C dX4_count_104 rfl (by decide) ?_
        refine g_icmp_ne (tgt := 128) (q := 108) C dX4_count_105 rfl (by decide) (fun c_105 => ?_) (fun c_105 => absurd c_105 (by decide))
        refine g_iconst (v := 0) (q := 129) C dX4_count_128 rfl (by decide) ?_
        refine g_istore_5 (q := 131) C dX4_count_129 rfl (by rw [hN]; decide) rfl ?_
        refine g_iload_5 (q := 133) C dX4_count_131 rfl ?_
        refine g_if_eq (tgt := 145) (q := 136) C dX4_count_133 rfl (by decide) (fun _ => ?_) (fun c_133 => absurd rfl c_133)
        refine g_iload_1 (q := 146) C dX4_count_145 rfl ?_
        refine g_bipush (v := 6) (q := 148) C dX4_count_146 rfl (by decide) ?_
        refine g_icmp_ne (tgt := 159) (q := 151) C dX4_count_148 rfl (by decide) (fun c_148 => absurd rfl c_148) (fun c_148 => ?_)
        refine g_iload_2 (q := 152) C dX4_count_151 rfl ?_
        refine g_aload_0 (q := 153) C dX4_count_152 rfl ?_
        refine g_iload_3 (q := 154) C dX4_count_153 rfl ?_
        refine g_cv1i (q := 157) C cv_X4_95 dX4_count_154 rfl rfl (IM.d I _ (by decide) (by decide)) (m_X4_claim I W (by assumption) rfl) (by decide) (Nat.le_of_ble_eq_true rfl) ⟨Nat.zero_le _, Nat.zero_le _⟩ ?_
        refine g_iadd (q := 158) C dX4_count_157 rfl ?_
        refine g_istore_2 (q := 159) C dX4_count_158 rfl (by rw [hN]; decide) rfl ?_
        refine g_iinc_3 (v := nI (i + 1)) (q := 162) C dX4_count_159 rfl (by rw [hN]; decide) (nI_1 i) ?_
        refine g_goto (tgt := 40) C dX4_count_162 (by decide) ?_
        exact ih (i + 1) _ _ _ (by omega) (by first | (rw [csS, hacc]))
    exact lp
  refine g_aload_0 (q := 1) C dX4_count_0 rfl ?_
  refine g_iconst (v := 0) (q := 2) C dX4_count_1 rfl (by decide) ?_
  refine g_puti (q := 5) C p_X4_52 dX4_count_2 rfl rfl (IM.d I _ (by decide) (by decide)) rfl rfl ?_
  rw [← ha]
  have I : IM dm a1 nF nP := by rw [ha]; exact I.th
  refine g_iload_1 (q := 6) C dX4_count_5 rfl ?_
  refine g_if_ne (tgt := 14) (q := 9) C dX4_count_6 rfl (by decide) (fun c_6 => ?_) (fun c_6 => ?_)
  · refine g_iload_1 (q := 15) C dX4_count_14 rfl ?_
    refine g_iconst (v := 1) (q := 16) C dX4_count_15 rfl (by decide) ?_
    refine g_icmp_ne (tgt := 24) (q := 19) C dX4_count_16 rfl (by decide) (fun c_16 => ?_) (fun c_16 => ?_)
    · refine g_iload_1 (q := 25) C dX4_count_24 rfl ?_
      refine g_iconst (v := 2) (q := 26) C dX4_count_25 rfl (by decide) ?_
      refine g_bipush (v := 6) (q := 28) C dX4_count_26 rfl (by decide) ?_
      refine g_cs3i (q := 31) C cs_X4_59 dX4_count_28 rfl (m_X4_in _ _ _) (by decide) (Nat.le_of_ble_eq_true rfl) ⟨Nat.zero_le _, Nat.zero_le _⟩ ?_
      refine g_ifneb (tgt := 36) (q := 34) C dX4_count_31 rfl (by decide) (fun c_31 => ?_) (fun c_31 => ?_)
      · have hw : what = 2 ∨ what = 3 ∨ what = 4 ∨ what = 5 ∨ what = 6 := in26 c_31
        refine g_iconst (v := 0) (q := 37) C dX4_count_36 rfl (by decide) ?_
        refine g_istore_2 (q := 38) C dX4_count_37 rfl (by rw [hN]; decide) rfl ?_
        refine g_iconst (v := 0) (q := 39) C dX4_count_38 rfl (by decide) ?_
        refine g_istore_3 (q := 40) C dX4_count_39 rfl (by rw [hN]; decide) rfl ?_
        rcases hw with rfl | rfl | rfl | rfl | rfl
        · exact lp2 I nP 0 _ _ _ rfl (by omega) rfl
        · exact lp3 I nP 0 _ _ _ rfl (by omega) rfl
        · exact lp4 I nP 0 _ _ _ rfl (by omega) rfl
        · exact lp5 I nP 0 _ _ _ rfl (by omega) rfl
        · exact lp6 I nP 0 _ _ _ rfl (by omega) rfl
      · refine g_iconst (v := (-1)) (q := 35) C dX4_count_34 rfl (by decide) ?_
        exact g_iret C RT9 dX4_count_35 (pxi (by rw [cnS, if_neg c_6, if_neg c_16, if_neg (by rw [c_31]; decide)]))
    · refine g_aload_0 (q := 20) C dX4_count_19 rfl ?_
      refine g_geti (q := 23) C f_X4_63 dX4_count_20 rfl rfl (IM.d I _ (by decide) (by decide)) ?_
      exact g_iret C RT9 dX4_count_23 (pxi (by rw [I.nP, c_16]; rfl))
  · refine g_aload_0 (q := 10) C dX4_count_9 rfl ?_
    refine g_geti (q := 13) C f_X4_56 dX4_count_10 rfl rfl (IM.d I _ (by decide) (by decide)) ?_
    exact g_iret C RT9 dX4_count_13 (pxi (by rw [I.nF, c_6]; rfl))

theorem unc_0 {fl pa : Nat → Int32} {p : Nat} (h : pa (9 * p + 7) = -1) : unc fl pa p = false := by simp [unc, h]
theorem unc_1 {fl pa : Nat → Int32} {p i : Nat} (h : ¬ pa (9 * p + 7) = -1) (e : pa (9 * p + 7) = nI i) (hi : i < 8) (h2 : ¬ fl (7 * i + 6) = 0) : unc fl pa p = true := by
  unfold unc
  rw [decide_eq_true h, e, cN_nI (by omega), decide_eq_false h2]
  rfl
theorem unc_2 {fl pa : Nat → Int32} {p i : Nat} (h : ¬ pa (9 * p + 7) = -1) (e : pa (9 * p + 7) = nI i) (hi : i < 8) (h2 : fl (7 * i + 6) = 0) (h3 : pa (9 * p + 8) = -1) : unc fl pa p = false := by
  unfold unc
  rw [decide_eq_true h, e, cN_nI (by omega), decide_eq_true h2, decide_eq_true h3]
  rfl
theorem unc_3 {fl pa : Nat → Int32} {p i j : Nat} (h : ¬ pa (9 * p + 7) = -1) (e : pa (9 * p + 7) = nI i) (hi : i < 8) (h2 : fl (7 * i + 6) = 0) (h3 : ¬ pa (9 * p + 8) = -1) (e8 : pa (9 * p + 8) = nI j) (hj : j < 8) (h4 : ¬ fl (7 * j + 6) = 0) : unc fl pa p = true := by
  unfold unc
  rw [decide_eq_true h, decide_eq_false h3, e, e8, cN_nI (by omega), cN_nI (by omega), decide_eq_true h2, decide_eq_false h4]
  rfl
theorem unc_4 {fl pa : Nat → Int32} {p i j : Nat} (h : ¬ pa (9 * p + 7) = -1) (e : pa (9 * p + 7) = nI i) (hi : i < 8) (h2 : fl (7 * i + 6) = 0) (h3 : ¬ pa (9 * p + 8) = -1) (e8 : pa (9 * p + 8) = nI j) (hj : j < 8) (h4 : fl (7 * j + 6) = 0) : unc fl pa p = false := by
  unfold unc
  rw [decide_eq_true h, decide_eq_false h3, e, e8, cN_nI (by omega), cN_nI (by omega), decide_eq_true h2, decide_eq_true h4]
  rfl
theorem unc_c {fl pa pb : Nat → Int32} {p : Nat} (h7 : pb (9 * p + 7) = pa (9 * p + 7)) (h8 : pb (9 * p + 8) = pa (9 * p + 8)) : unc fl pb p = unc fl pa p := by
  unfold unc
  rw [h7, h8]
set_option maxHeartbeats 4000000 in
set_option maxRecDepth 100000 in
theorem m_X4_undo (I : IM dm a nF nP) {a1 : Nat → Nat → Int32} (ha : a1 = u2 a 100 5 0) (W : WP nF nP (a1 102)) : MT g bs l yX4_undo cX4_undo 3 (some .int) 2 0 0 [.ref (ad 100)] ad dm a b r (PX (some (.int (nI (ctS (unc (a1 101) (a1 102)) nP)))) ad dm (up1 a1 102 (unP (unc (a1 101) (a1 102)) (a1 102) nP)) b r) := by
  refine mt_of (by decide) [some (.ref (ad 100)), none, none] rfl (Nat.le_of_ble_eq_true rfl) ?_
  intro E hg hbs hl hN C RT9 hcells hslots hname
  have hnF := I.2.2.1
  have hnP := I.2.2.2.2
  have lq : IM dm a1 nF nP → ∀ (k i acc : Nat) (a0 : Nat → Nat → Int32), i + k = nP → a0 = up1 a1 102 (unP (unc (a1 101) (a1 102)) (a1 102) i) → acc = ctS (unc (a1 101) (a1 102)) i → G E 0 0 ad dm a0 b r 9 [some (.ref (ad 100)), some (.int (nI acc)), some (.int (nI i))] [] := by
    intro I
    have lp : ∀ (k i : Nat) (acc : Nat) (a0 : Nat → Nat → Int32), i + k = nP → a0 = up1 a1 102 (unP (unc (a1 101) (a1 102)) (a1 102) i) → acc = ctS (unc (a1 101) (a1 102)) i → G E 0 0 ad dm a0 b r 9 [some (.ref (ad 100)), some (.int (nI acc)), some (.int (nI i))] [] := by
      intro k
      induction k with
      | zero =>
        intro i acc a0 hi h0 hacc
        have I := I.up (n := 102) (f := unP (unc (a1 101) (a1 102)) (a1 102) i) (by decide)
        rw [← h0] at I
        refine g_iload_2 (q := 10) C dX4_undo_9 rfl ?_
        refine g_aload_0 (q := 11) C dX4_undo_10 rfl ?_
        refine g_geti (q := 14) C f_X4_63 dX4_undo_11 rfl rfl (IM.d I _ (by decide) (by decide)) ?_
        refine g_icmp_ge (tgt := 102) (q := 17) C dX4_undo_14 rfl (by decide) (fun c_14 => ?_) (fun c_14 => absurd (by rw [I.nP]; exact nI_le (by omega) (by omega)) c_14)
        refine g_iload_1 (q := 103) C dX4_undo_102 rfl ?_
        exact g_iret C RT9 dX4_undo_103 ⟨by rw [hacc, show i = nP by omega], rfl, rfl, by rw [h0, show i = nP by omega], rfl, rfl⟩
      | succ k ih =>
        intro i acc a0 hi h0 hacc
        have I := I.up (n := 102) (f := unP (unc (a1 101) (a1 102)) (a1 102) i) (by decide)
        rw [← h0] at I
        have e0 : ∀ k, k < 9 → a0 102 (9 * i + k) = a1 102 (9 * i + k) := fun k hk => by rw [h0, up1_s]; exact unP_ge (by omega)
        have hip : i < nP := by omega
        have hu : unc (a0 101) (a0 102) i = unc (a1 101) (a1 102) i := by rw [show a0 101 = a1 101 by rw [h0]; rfl]; exact unc_c (e0 7 (by decide)) (e0 8 (by decide))
        have h7 : wv nF (a0 102 (9 * i + 7)) := by rw [e0 7 (by decide)]; exact (W i hip).2.2.2.2.2.2.2.1
        have h8 : wv nF (a0 102 (9 * i + 8)) := by rw [e0 8 (by decide)]; exact (W i hip).2.2.2.2.2.2.2.2.1
        have DO : unc (a0 101) (a0 102) i = true → G E 0 0 ad dm (u2 (u2 a0 102 (9 * i + 7) (-1)) 102 (9 * i + 8) (-1)) b r 9 [some (.ref (ad 100)), some (.int (nI (acc + 1))), some (.int (nI (i + 1)))] [] := fun hc => ih (i + 1) _ _ (by omega) (by rw [h0, u2_up, u2_up, unP, if_pos (hu ▸ hc)]) (by rw [ctS, if_pos (hu ▸ hc), hacc])
        have SK : unc (a0 101) (a0 102) i = false → G E 0 0 ad dm a0 b r 9 [some (.ref (ad 100)), some (.int (nI acc)), some (.int (nI (i + 1)))] [] := fun hc => ih (i + 1) _ _ (by omega) (by rw [h0, unP, if_neg (by rw [← hu, hc]; decide)]) (by rw [ctS, if_neg (by rw [← hu, hc]; decide), hacc])
        refine g_iload_2 (q := 10) C dX4_undo_9 rfl ?_
        refine g_aload_0 (q := 11) C dX4_undo_10 rfl ?_
        refine g_geti (q := 14) C f_X4_63 dX4_undo_11 rfl rfl (IM.d I _ (by decide) (by decide)) ?_
        refine g_icmp_ge (tgt := 102) (q := 17) C dX4_undo_14 rfl (by decide) (fun c_14 => absurd c_14 (by rw [I.nP]; exact nI_ge (by omega) (by omega))) (fun c_14 => ?_)
        refine g_aload_0 (q := 18) C dX4_undo_17 rfl ?_
        refine g_iload_2 (q := 19) C dX4_undo_18 rfl ?_
        refine g_bipush (v := 7) (q := 21) C dX4_undo_19 rfl (by decide) ?_
        refine g_cv2i (q := 24) C cv_X4_70 dX4_undo_21 rfl rfl (IM.d I _ (by decide) (by decide)) (m_X4_get I (k := 7) (by omega) rfl rfl) (by decide) (Nat.le_of_ble_eq_true rfl) ⟨Nat.zero_le _, Nat.zero_le _⟩ ?_
        refine g_iconst (v := (-1)) (q := 25) C dX4_undo_24 rfl (by decide) ?_
        refine g_icmp_ne (tgt := 31) (q := 28) C dX4_undo_25 rfl (by decide) (fun c_25 => ?_) (fun c_25 => ?_)
        · obtain ⟨i7, hi7, e7⟩ : ∃ i7, i7 < nF ∧ a0 102 (9 * i + 7) = nI i7 := h7.elim (fun h => absurd h c_25) id
          refine g_aload_0 (q := 32) C dX4_undo_31 rfl ?_
          refine g_aload_0 (q := 33) C dX4_undo_32 rfl ?_
          refine g_iload_2 (q := 34) C dX4_undo_33 rfl ?_
          refine g_bipush (v := 7) (q := 36) C dX4_undo_34 rfl (by decide) ?_
          refine g_cv2i (q := 39) C cv_X4_70 dX4_undo_36 rfl rfl (IM.d I _ (by decide) (by decide)) (m_X4_get I (k := 7) (by omega) rfl rfl) (by decide) (Nat.le_of_ble_eq_true rfl) ⟨Nat.zero_le _, Nat.zero_le _⟩ ?_
          rw [e7]
          refine g_bipush (v := 6) (q := 41) C dX4_undo_39 rfl (by decide) ?_
          refine g_cv2i (q := 44) C cv_X4_74 dX4_undo_41 rfl rfl (IM.d I _ (by decide) (by decide)) (m_X4_of7 I (k := 6) (by omega) rfl rfl) (by decide) (Nat.le_of_ble_eq_true rfl) ⟨Nat.zero_le _, Nat.zero_le _⟩ ?_
          refine g_if_ne (tgt := 77) (q := 47) C dX4_undo_44 rfl (by decide) (fun c_44 => ?_) (fun c_44 => ?_)
          · refine g_aload_0 (q := 78) C dX4_undo_77 rfl ?_
            refine g_iload_2 (q := 79) C dX4_undo_78 rfl ?_
            refine g_bipush (v := 7) (q := 81) C dX4_undo_79 rfl (by decide) ?_
            refine g_iconst (v := (-1)) (q := 82) C dX4_undo_81 rfl (by decide) ?_
            refine g_cv3v (q := 85) C cv_X4_106 dX4_undo_82 rfl rfl (IM.d I _ (by decide) (by decide)) (m_X4_put I (k := 7) (by omega) rfl rfl _) (by decide) (Nat.le_of_ble_eq_true rfl) ⟨Nat.zero_le _, Nat.zero_le _⟩ ?_
            have I := I.u (n := 102) (k := 9 * i + 7) (x := -1) (by decide)
            refine g_aload_0 (q := 86) C dX4_undo_85 rfl ?_
            refine g_iload_2 (q := 87) C dX4_undo_86 rfl ?_
            refine g_bipush (v := 8) (q := 89) C dX4_undo_87 rfl (by decide) ?_
            refine g_iconst (v := (-1)) (q := 90) C dX4_undo_89 rfl (by decide) ?_
            refine g_cv3v (q := 93) C cv_X4_106 dX4_undo_90 rfl rfl (IM.d I _ (by decide) (by decide)) (m_X4_put I (k := 8) (by omega) rfl rfl _) (by decide) (Nat.le_of_ble_eq_true rfl) ⟨Nat.zero_le _, Nat.zero_le _⟩ ?_
            refine g_iinc_1 (v := nI (acc + 1)) (q := 96) C dX4_undo_93 rfl (by rw [hN]; decide) (nI_1 acc) ?_
            refine g_iinc_2 (v := nI (i + 1)) (q := 99) C dX4_undo_96 rfl (by rw [hN]; decide) (nI_1 i) ?_
            refine g_goto (tgt := 9) C dX4_undo_99 (by decide) ?_
            first | exact DO (by first | exact unc_1 c_25 e7 (by omega) c_44 | exact unc_3 c_25 e7 (by omega) c_44 c_55 e8 (by omega) c_71) | exact SK (by first | exact unc_0 c_25 | exact unc_2 c_25 e7 (by omega) c_44 c_55 | exact unc_4 c_25 e7 (by omega) c_44 c_55 e8 (by omega) c_71)
          · refine g_aload_0 (q := 48) C dX4_undo_47 rfl ?_
            refine g_iload_2 (q := 49) C dX4_undo_48 rfl ?_
            refine g_bipush (v := 8) (q := 51) C dX4_undo_49 rfl (by decide) ?_
            refine g_cv2i (q := 54) C cv_X4_70 dX4_undo_51 rfl rfl (IM.d I _ (by decide) (by decide)) (m_X4_get I (k := 8) (by omega) rfl rfl) (by decide) (Nat.le_of_ble_eq_true rfl) ⟨Nat.zero_le _, Nat.zero_le _⟩ ?_
            refine g_iconst (v := (-1)) (q := 55) C dX4_undo_54 rfl (by decide) ?_
            refine g_icmp_eq (tgt := 96) (q := 58) C dX4_undo_55 rfl (by decide) (fun c_55 => ?_) (fun c_55 => ?_)
            · refine g_iinc_2 (v := nI (i + 1)) (q := 99) C dX4_undo_96 rfl (by rw [hN]; decide) (nI_1 i) ?_
              refine g_goto (tgt := 9) C dX4_undo_99 (by decide) ?_
              first | exact DO (by first | exact unc_1 c_25 e7 (by omega) c_44 | exact unc_3 c_25 e7 (by omega) c_44 c_55 e8 (by omega) c_71) | exact SK (by first | exact unc_0 c_25 | exact unc_2 c_25 e7 (by omega) c_44 c_55 | exact unc_4 c_25 e7 (by omega) c_44 c_55 e8 (by omega) c_71)
            · obtain ⟨i8, hi8, e8⟩ : ∃ i8, i8 < nF ∧ a0 102 (9 * i + 8) = nI i8 := h8.elim (fun h => absurd h c_55) id
              refine g_aload_0 (q := 59) C dX4_undo_58 rfl ?_
              refine g_aload_0 (q := 60) C dX4_undo_59 rfl ?_
              refine g_iload_2 (q := 61) C dX4_undo_60 rfl ?_
              refine g_bipush (v := 8) (q := 63) C dX4_undo_61 rfl (by decide) ?_
              refine g_cv2i (q := 66) C cv_X4_70 dX4_undo_63 rfl rfl (IM.d I _ (by decide) (by decide)) (m_X4_get I (k := 8) (by omega) rfl rfl) (by decide) (Nat.le_of_ble_eq_true rfl) ⟨Nat.zero_le _, Nat.zero_le _⟩ ?_
              rw [e8]
              refine g_bipush (v := 6) (q := 68) C dX4_undo_66 rfl (by decide) ?_
              refine g_cv2i (q := 71) C cv_X4_74 dX4_undo_68 rfl rfl (IM.d I _ (by decide) (by decide)) (m_X4_of7 I (k := 6) (by omega) rfl rfl) (by decide) (Nat.le_of_ble_eq_true rfl) ⟨Nat.zero_le _, Nat.zero_le _⟩ ?_
              refine g_if_ne (tgt := 77) (q := 74) C dX4_undo_71 rfl (by decide) (fun c_71 => ?_) (fun c_71 => ?_)
              · refine g_aload_0 (q := 78) C dX4_undo_77 rfl ?_
                refine g_iload_2 (q := 79) C dX4_undo_78 rfl ?_
                refine g_bipush (v := 7) (q := 81) C dX4_undo_79 rfl (by decide) ?_
                refine g_iconst (v := (-1)) (q := 82) C dX4_undo_81 rfl (by decide) ?_
                refine g_cv3v (q := 85) C cv_X4_106 dX4_undo_82 rfl rfl (IM.d I _ (by decide) (by decide)) (m_X4_put I (k := 7) (by omega) rfl rfl _) (by decide) (Nat.le_of_ble_eq_true rfl) ⟨Nat.zero_le _, Nat.zero_le _⟩ ?_
                have I := I.u (n := 102) (k := 9 * i + 7) (x := -1) (by decide)
                refine g_aload_0 (q := 86) C dX4_undo_85 rfl ?_
                refine g_iload_2 (q := 87) C dX4_undo_86 rfl ?_
                refine g_bipush (v := 8) (q := 89) C dX4_undo_87 rfl (by decide) ?_
                refine g_iconst (v := (-1)) (q := 90) C dX4_undo_89 rfl (by decide) ?_
                refine g_cv3v (q := 93) C cv_X4_106 dX4_undo_90 rfl rfl (IM.d I _ (by decide) (by decide)) (m_X4_put I (k := 8) (by omega) rfl rfl _) (by decide) (Nat.le_of_ble_eq_true rfl) ⟨Nat.zero_le _, Nat.zero_le _⟩ ?_
                refine g_iinc_1 (v := nI (acc + 1)) (q := 96) C dX4_undo_93 rfl (by rw [hN]; decide) (nI_1 acc) ?_
                refine g_iinc_2 (v := nI (i + 1)) (q := 99) C dX4_undo_96 rfl (by rw [hN]; decide) (nI_1 i) ?_
                refine g_goto (tgt := 9) C dX4_undo_99 (by decide) ?_
                first | exact DO (by first | exact unc_1 c_25 e7 (by omega) c_44 | exact unc_3 c_25 e7 (by omega) c_44 c_55 e8 (by omega) c_71) | exact SK (by first | exact unc_0 c_25 | exact unc_2 c_25 e7 (by omega) c_44 c_55 | exact unc_4 c_25 e7 (by omega) c_44 c_55 e8 (by omega) c_71)
              · refine g_goto (tgt := 96) C dX4_undo_74 (by decide) ?_
                refine g_iinc_2 (v := nI (i + 1)) (q := 99) C dX4_undo_96 rfl (by rw [hN]; decide) (nI_1 i) ?_
                refine g_goto (tgt := 9) C dX4_undo_99 (by decide) ?_
                first | exact DO (by first | exact unc_1 c_25 e7 (by omega) c_44 | exact unc_3 c_25 e7 (by omega) c_44 c_55 e8 (by omega) c_71) | exact SK (by first | exact unc_0 c_25 | exact unc_2 c_25 e7 (by omega) c_44 c_55 | exact unc_4 c_25 e7 (by omega) c_44 c_55 e8 (by omega) c_71)
        · refine g_goto (tgt := 96) C dX4_undo_28 (by decide) ?_
          refine g_iinc_2 (v := nI (i + 1)) (q := 99) C dX4_undo_96 rfl (by rw [hN]; decide) (nI_1 i) ?_
          refine g_goto (tgt := 9) C dX4_undo_99 (by decide) ?_
          first | exact DO (by first | exact unc_1 c_25 e7 (by omega) c_44 | exact unc_3 c_25 e7 (by omega) c_44 c_55 e8 (by omega) c_71) | exact SK (by first | exact unc_0 c_25 | exact unc_2 c_25 e7 (by omega) c_44 c_55 | exact unc_4 c_25 e7 (by omega) c_44 c_55 e8 (by omega) c_71)
    exact lp
  refine g_aload_0 (q := 1) C dX4_undo_0 rfl ?_
  refine g_iconst (v := 0) (q := 2) C dX4_undo_1 rfl (by decide) ?_
  refine g_puti (q := 5) C p_X4_52 dX4_undo_2 rfl rfl (IM.d I _ (by decide) (by decide)) rfl rfl ?_
  rw [← ha]
  have I : IM dm a1 nF nP := by rw [ha]; exact I.th
  refine g_iconst (v := 0) (q := 6) C dX4_undo_5 rfl (by decide) ?_
  refine g_istore_1 (q := 7) C dX4_undo_6 rfl (by rw [hN]; decide) rfl ?_
  refine g_iconst (v := 0) (q := 8) C dX4_undo_7 rfl (by decide) ?_
  refine g_istore_2 (q := 9) C dX4_undo_8 rfl (by rw [hN]; decide) rfl ?_
  exact lq I nP 0 0 _ (by omega) (by rw [unP]; exact up1_id.symm) rfl

end M12
