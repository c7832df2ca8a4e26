section M10
variable {g : GM} {bs : Nat} {l : Launch} {ad : Nat → Nat} {dm : Nat → Bool} {a : Nat → Nat → Int32} {b : Nat → Nat → Int64} {r : Nat → Nat → Option Nat} {nF nP : Nat}
set_option maxHeartbeats 4000000 in
set_option maxRecDepth 100000 in
theorem m_X4_in (v x y : Int32) : MT g bs l yX4_in cX4_in 3 (some .boolean) 0 0 0 [.int v, .int x, .int y] ad dm a b r (PX (some (.int (bI (inR v x y)))) ad dm a b r) := by
  refine mt_of (by decide) [some (.int v), some (.int x), some (.int y)] rfl (Nat.le_of_ble_eq_true rfl) ?_
  intro E hg hbs hl hN C RT9 hcells hslots hname
  refine g_iload_0 (q := 1) C dX4_in_0 rfl ?_
  refine g_iload_1 (q := 2) C dX4_in_1 rfl ?_
  refine g_icmp_lt (tgt := 14) (q := 5) C dX4_in_2 rfl (by decide) (fun c_2 => ?_) (fun c_2 => ?_)
  · refine g_iconst (v := 0) (q := 15) C dX4_in_14 rfl (by decide) ?_
    exact g_zret C RT9 dX4_in_15 rfl (pxi (by first | (rw [in_f1 c_2]; rfl) | (rw [in_f2 c_7]; rfl) | (rw [in_t c_2 c_7]; rfl)))
  · refine g_iload_0 (q := 6) C dX4_in_5 rfl ?_
    refine g_iload_2 (q := 7) C dX4_in_6 rfl ?_
    refine g_icmp_gt (tgt := 14) (q := 10) C dX4_in_7 rfl (by decide) (fun c_7 => ?_) (fun c_7 => ?_)
    · refine g_iconst (v := 0) (q := 15) C dX4_in_14 rfl (by decide) ?_
      exact g_zret C RT9 dX4_in_15 rfl (pxi (by first | (rw [in_f1 c_2]; rfl) | (rw [in_f2 c_7]; rfl) | (rw [in_t c_2 c_7]; rfl)))
    · refine g_iconst (v := 1) (q := 11) C dX4_in_10 rfl (by decide) ?_
      refine g_goto (tgt := 15) C dX4_in_11 (by decide) ?_
      exact g_zret C RT9 dX4_in_15 rfl (pxi (by first | (rw [in_f1 c_2]; rfl) | (rw [in_f2 c_7]; rfl) | (rw [in_t c_2 c_7]; rfl)))

set_option maxHeartbeats 4000000 in
set_option maxRecDepth 100000 in
theorem m_X4_isFlight (I : IM dm a nF nP) (v : Int32) : MT g bs l yX4_isFlight cX4_isFlight 2 (some .boolean) 1 0 0 [.ref (ad 100), .int v] ad dm a b r (PX (some (.int (bI (fok nF v)))) ad dm a b r) := by
  refine mt_of (by decide) [some (.ref (ad 100)), some (.int v)] rfl (Nat.le_of_ble_eq_true rfl) ?_
  intro E hg hbs hl hN C RT9 hcells hslots hname
  refine g_iload_1 (q := 1) C dX4_isFlight_0 rfl ?_
  refine g_iconst (v := 0) (q := 2) C dX4_isFlight_1 rfl (by decide) ?_
  refine g_aload_0 (q := 3) C dX4_isFlight_2 rfl ?_
  refine g_geti (q := 6) C f_X4_56 dX4_isFlight_3 rfl rfl (IM.d I _ (by decide) (by decide)) ?_
  refine g_iconst (v := 1) (q := 7) C dX4_isFlight_6 rfl (by decide) ?_
  refine g_isub (q := 8) C dX4_isFlight_7 rfl ?_
  refine g_cs3i (q := 11) C cs_X4_59 dX4_isFlight_8 rfl (m_X4_in _ _ _) (by decide) (Nat.le_of_ble_eq_true rfl) ⟨Nat.zero_le _, Nat.zero_le _⟩ ?_
  exact g_zret C RT9 dX4_isFlight_11 (nar_bI _) (pxi (by rw [I.nF]; rfl))

set_option maxHeartbeats 4000000 in
set_option maxRecDepth 100000 in
theorem m_X4_isParty (I : IM dm a nF nP) (v : Int32) : MT g bs l yX4_isParty cX4_isParty 2 (some .boolean) 1 0 0 [.ref (ad 100), .int v] ad dm a b r (PX (some (.int (bI (fok nP v)))) ad dm a b r) := by
  refine mt_of (by decide) [some (.ref (ad 100)), some (.int v)] rfl (Nat.le_of_ble_eq_true rfl) ?_
  intro E hg hbs hl hN C RT9 hcells hslots hname
  refine g_iload_1 (q := 1) C dX4_isParty_0 rfl ?_
  refine g_iconst (v := 0) (q := 2) C dX4_isParty_1 rfl (by decide) ?_
  refine g_aload_0 (q := 3) C dX4_isParty_2 rfl ?_
  refine g_geti (q := 6) C f_X4_63 dX4_isParty_3 rfl rfl (IM.d I _ (by decide) (by decide)) ?_
  refine g_iconst (v := 1) (q := 7) C dX4_isParty_6 rfl (by decide) ?_
  refine g_isub (q := 8) C dX4_isParty_7 rfl ?_
  refine g_cs3i (q := 11) C cs_X4_59 dX4_isParty_8 rfl (m_X4_in _ _ _) (by decide) (Nat.le_of_ble_eq_true rfl) ⟨Nat.zero_le _, Nat.zero_le _⟩ ?_
  exact g_zret C RT9 dX4_isParty_11 (nar_bI _) (pxi (by rw [I.nP]; rfl))

set_option maxHeartbeats 4000000 in
set_option maxRecDepth 100000 in
theorem m_X4_get (I : IM dm a nF nP) {p k : Nat} (hp : 9 * p + k < 180) {x y : Int32} (hx : x = nI p) (hy : y = nI k) : MT g bs l yX4_get cX4_get 3 (some .int) 0 0 0 [.ref (ad 100), .int x, .int y] ad dm a b r (PX (some (.int (a 102 (9 * p + k)))) ad dm a b r) := by
  refine mt_of (by decide) [some (.ref (ad 100)), some (.int x), some (.int y)] rfl (Nat.le_of_ble_eq_true rfl) ?_
  intro E hg hbs hl hN C RT9 hcells hslots hname
  refine g_aload_0 (q := 1) C dX4_get_0 rfl ?_
  refine g_getc (q := 4) (m := 102) C f_X4_13 dX4_get_1 rfl rfl (IM.d I _ (by decide) (by decide)) ?_
  refine g_bipush (v := 9) (q := 6) C dX4_get_4 rfl (by decide) ?_
  refine g_iload_1 (q := 7) C dX4_get_6 rfl ?_
  refine g_imul (q := 8) C dX4_get_7 rfl ?_
  refine g_iload_2 (q := 9) C dX4_get_8 rfl ?_
  refine g_iadd (q := 10) C dX4_get_9 rfl ?_
  refine g_ia (q := 11) C dX4_get_10 rfl rfl (IM.d I _ (by decide) (by decide)) (by rw [hx, hy]; exact ix9 p k) hp (by decide) ?_
  exact g_iret C RT9 dX4_get_11 (px rfl)

theorem m_X4_get0 (I : IM dm a nF nP) {p : Nat} (hp : p < 20) {x : Int32} (hx : x = nI p) : MT g bs l yX4_get cX4_get 3 (some .int) 0 0 0 [.ref (ad 100), .int x, .int 0] ad dm a b r (PX (some (.int (a 102 (9 * p)))) ad dm a b r) := m_X4_get (k := 0) I (by omega) hx rfl
set_option maxHeartbeats 4000000 in
set_option maxRecDepth 100000 in
theorem m_X4_put (I : IM dm a nF nP) {p k : Nat} (hp : 9 * p + k < 180) {x y : Int32} (hx : x = nI p) (hy : y = nI k) (v : Int32) : MT g bs l yX4_put cX4_put 4 none 0 0 0 [.ref (ad 100), .int x, .int y, .int v] ad dm a b r (PX none ad dm (u2 a 102 (9 * p + k) v) b r) := by
  refine mt_of (by decide) [some (.ref (ad 100)), some (.int x), some (.int y), some (.int v)] rfl (Nat.le_of_ble_eq_true rfl) ?_
  intro E hg hbs hl hN C RT9 hcells hslots hname
  refine g_aload_0 (q := 1) C dX4_put_0 rfl ?_
  refine g_getc (q := 4) (m := 102) C f_X4_13 dX4_put_1 rfl rfl (IM.d I _ (by decide) (by decide)) ?_
  refine g_bipush (v := 9) (q := 6) C dX4_put_4 rfl (by decide) ?_
  refine g_iload_1 (q := 7) C dX4_put_6 rfl ?_
  refine g_imul (q := 8) C dX4_put_7 rfl ?_
  refine g_iload_2 (q := 9) C dX4_put_8 rfl ?_
  refine g_iadd (q := 10) C dX4_put_9 rfl ?_
  refine g_iload_3 (q := 11) C dX4_put_10 rfl ?_
  refine g_iast (q := 12) C dX4_put_11 rfl rfl (IM.d I _ (by decide) (by decide)) (by rw [hx, hy]; exact ix9 p k) hp (by decide) ?_
  exact g_vret C RT9 dX4_put_12 (px rfl)

set_option maxHeartbeats 4000000 in
set_option maxRecDepth 100000 in
theorem m_X4_of7 (I : IM dm a nF nP) {p k : Nat} (hp : 7 * p + k < 56) {x y : Int32} (hx : x = nI p) (hy : y = nI k) : MT g bs l yX4_of7 cX4_of7 3 (some .int) 0 0 0 [.ref (ad 100), .int x, .int y] ad dm a b r (PX (some (.int (a 101 (7 * p + k)))) ad dm a b r) := by
  refine mt_of (by decide) [some (.ref (ad 100)), some (.int x), some (.int y)] rfl (Nat.le_of_ble_eq_true rfl) ?_
  intro E hg hbs hl hN C RT9 hcells hslots hname
  refine g_aload_0 (q := 1) C dX4_of7_0 rfl ?_
  refine g_getc (q := 4) (m := 101) C f_X4_9 dX4_of7_1 rfl rfl (IM.d I _ (by decide) (by decide)) ?_
  refine g_bipush (v := 7) (q := 6) C dX4_of7_4 rfl (by decide) ?_
  refine g_iload_1 (q := 7) C dX4_of7_6 rfl ?_
  refine g_imul (q := 8) C dX4_of7_7 rfl ?_
  refine g_iload_2 (q := 9) C dX4_of7_8 rfl ?_
  refine g_iadd (q := 10) C dX4_of7_9 rfl ?_
  refine g_ia (q := 11) C dX4_of7_10 rfl rfl (IM.d I _ (by decide) (by decide)) (by rw [hx, hy]; exact ix7 p k) hp (by decide) ?_
  exact g_iret C RT9 dX4_of7_11 (px rfl)

theorem m_X4_of70 (I : IM dm a nF nP) {p : Nat} (hp : p < 8) {x : Int32} (hx : x = nI p) : MT g bs l yX4_of7 cX4_of7 3 (some .int) 0 0 0 [.ref (ad 100), .int x, .int 0] ad dm a b r (PX (some (.int (a 101 (7 * p)))) ad dm a b r) := m_X4_of7 (k := 0) I (by omega) hx rfl
set_option maxHeartbeats 4000000 in
set_option maxRecDepth 100000 in
theorem m_X4_thrown (I : IM dm a nF nP) : MT g bs l yX4_thrown cX4_thrown 1 (some .int) 0 0 0 [.ref (ad 100)] ad dm a b r (PX (some (.int (a 100 5))) ad dm a b r) := by
  refine mt_of (by decide) [some (.ref (ad 100))] rfl (Nat.le_of_ble_eq_true rfl) ?_
  intro E hg hbs hl hN C RT9 hcells hslots hname
  refine g_aload_0 (q := 1) C dX4_thrown_0 rfl ?_
  refine g_geti (q := 4) C f_X4_52 dX4_thrown_1 rfl rfl (IM.d I _ (by decide) (by decide)) ?_
  exact g_iret C RT9 dX4_thrown_4 (px rfl)

set_option maxHeartbeats 4000000 in
set_option maxRecDepth 100000 in
theorem m_X4_load (I : IM dm a nF nP) (f : Int32) : MT g bs l yX4_load cX4_load 4 (some .int) 1 0 0 [.ref (ad 100), .int f] ad dm a b r (PX (some (.int (ldS (a 102) f nP))) ad dm a b r) := by
  refine mt_of (by decide) [some (.ref (ad 100)), some (.int f), none, none] rfl (Nat.le_of_ble_eq_true rfl) ?_
  intro E hg hbs hl hN C RT9 hcells hslots hname
  have hnF := I.2.2.1
  have hnP := I.2.2.2.2
  have lp : ∀ (k i : Nat) (acc : Int32), i + k = nP → acc = ldS (a 102) f i → G E 0 0 ad dm a b r 4 [some (.ref (ad 100)), some (.int f), some (.int acc), some (.int (nI i))] [] := by
    intro k
    induction k with
    | zero =>
      intro i acc hi hacc
      refine g_iload_3 (q := 5) C dX4_load_4 rfl ?_
      refine g_aload_0 (q := 6) C dX4_load_5 rfl ?_
      refine g_geti (q := 9) C f_X4_63 dX4_load_6 rfl rfl (IM.d I _ (by decide) (by decide)) ?_
      refine g_icmp_ge (tgt := 71) (q := 12) C dX4_load_9 rfl (by decide) (fun c_9 => ?_) (fun c_9 => absurd (by rw [I.nP]; exact nI_le (by omega) (by omega)) c_9)
      refine g_iload_2 (q := 72) C dX4_load_71 rfl ?_
      exact g_iret C RT9 dX4_load_72 (pxi (by rw [hacc, show i = nP by omega]))
    | succ k ih =>
      intro i acc hi hacc
      refine g_iload_3 (q := 5) C dX4_load_4 rfl ?_
      refine g_aload_0 (q := 6) C dX4_load_5 rfl ?_
      refine g_geti (q := 9) C f_X4_63 dX4_load_6 rfl rfl (IM.d I _ (by decide) (by decide)) ?_
      refine g_icmp_ge (tgt := 71) (q := 12) C dX4_load_9 rfl (by decide) (fun c_9 => absurd c_9 (by rw [I.nP]; exact nI_ge (by omega) (by omega))) (fun c_9 => ?_)
      refine g_aload_0 (q := 13) C dX4_load_12 rfl ?_
      refine g_iload_3 (q := 14) C dX4_load_13 rfl ?_
      refine g_iconst (v := 5) (q := 15) C dX4_load_14 rfl (by decide) ?_
      refine g_cv2i (q := 18) C cv_X4_70 dX4_load_15 rfl rfl (IM.d I _ (by decide) (by decide)) (m_X4_get I (k := 5) (by omega) rfl rfl) (by decide) (Nat.le_of_ble_eq_true rfl) ⟨Nat.zero_le _, Nat.zero_le _⟩ ?_
      refine g_if_ne (tgt := 34) (q := 21) C dX4_load_18 rfl (by decide) (fun c_18 => ?_) (fun c_18 => ?_)
      · refine g_aload_0 (q := 35) C dX4_load_34 rfl ?_
        refine g_iload_3 (q := 36) C dX4_load_35 rfl ?_
        refine g_bipush (v := 7) (q := 38) C dX4_load_36 rfl (by decide) ?_
        refine g_cv2i (q := 41) C cv_X4_70 dX4_load_38 rfl rfl (IM.d I _ (by decide) (by decide)) (m_X4_get I (k := 7) (by omega) rfl rfl) (by decide) (Nat.le_of_ble_eq_true rfl) ⟨Nat.zero_le _, Nat.zero_le _⟩ ?_
        refine g_iload_1 (q := 42) C dX4_load_41 rfl ?_
        refine g_icmp_eq (tgt := 56) (q := 45) C dX4_load_42 rfl (by decide) (fun c_42 => ?_) (fun c_42 => ?_)
        · refine g_iload_2 (q := 57) C dX4_load_56 rfl ?_
          refine g_aload_0 (q := 58) C dX4_load_57 rfl ?_
          refine g_iload_3 (q := 59) C dX4_load_58 rfl ?_
          refine g_iconst (v := 1) (q := 60) C dX4_load_59 rfl (by decide) ?_
          refine g_cv2i (q := 63) C cv_X4_70 dX4_load_60 rfl rfl (IM.d I _ (by decide) (by decide)) (m_X4_get I (k := 1) (by omega) rfl rfl) (by decide) (Nat.le_of_ble_eq_true rfl) ⟨Nat.zero_le _, Nat.zero_le _⟩ ?_
          refine g_iadd (q := 64) C dX4_load_63 rfl ?_
          refine g_istore_2 (q := 65) C dX4_load_64 rfl (by rw [hN]; decide) rfl ?_
          refine g_iinc_3 (v := nI (i + 1)) (q := 68) C dX4_load_65 rfl (by rw [hN]; decide) (nI_1 i) ?_
          refine g_goto (tgt := 4) C dX4_load_68 (by decide) ?_
          exact ih (i + 1) _ (by omega) (by first | (simp [ldS, flyc, hacc, c_18, c_42, c_53]) | (simp [ldS, flyc, hacc, c_18, c_42]) | (simp [ldS, flyc, hacc, c_18, c_28]))
        · refine g_aload_0 (q := 46) C dX4_load_45 rfl ?_
          refine g_iload_3 (q := 47) C dX4_load_46 rfl ?_
          refine g_bipush (v := 8) (q := 49) C dX4_load_47 rfl (by decide) ?_
          refine g_cv2i (q := 52) C cv_X4_70 dX4_load_49 rfl rfl (IM.d I _ (by decide) (by decide)) (m_X4_get I (k := 8) (by omega) rfl rfl) (by decide) (Nat.le_of_ble_eq_true rfl) ⟨Nat.zero_le _, Nat.zero_le _⟩ ?_
          refine g_iload_1 (q := 53) C dX4_load_52 rfl ?_
          refine g_icmp_ne (tgt := 65) (q := 56) C dX4_load_53 rfl (by decide) (fun c_53 => ?_) (fun c_53 => ?_)
          · refine g_iinc_3 (v := nI (i + 1)) (q := 68) C dX4_load_65 rfl (by rw [hN]; decide) (nI_1 i) ?_
            refine g_goto (tgt := 4) C dX4_load_68 (by decide) ?_
            exact ih (i + 1) _ (by omega) (by first | (simp [ldS, flyc, hacc, c_18, c_42, c_53]) | (simp [ldS, flyc, hacc, c_18, c_42]) | (simp [ldS, flyc, hacc, c_18, c_28]))
          · refine g_iload_2 (q := 57) C dX4_load_56 rfl ?_
            refine g_aload_0 (q := 58) C dX4_load_57 rfl ?_
            refine g_iload_3 (q := 59) C dX4_load_58 rfl ?_
            refine g_iconst (v := 1) (q := 60) C dX4_load_59 rfl (by decide) ?_
            refine g_cv2i (q := 63) C cv_X4_70 dX4_load_60 rfl rfl (IM.d I _ (by decide) (by decide)) (m_X4_get I (k := 1) (by omega) rfl rfl) (by decide) (Nat.le_of_ble_eq_true rfl) ⟨Nat.zero_le _, Nat.zero_le _⟩ ?_
            refine g_iadd (q := 64) C dX4_load_63 rfl ?_
            refine g_istore_2 (q := 65) C dX4_load_64 rfl (by rw [hN]; decide) rfl ?_
            refine g_iinc_3 (v := nI (i + 1)) (q := 68) C dX4_load_65 rfl (by rw [hN]; decide) (nI_1 i) ?_
            refine g_goto (tgt := 4) C dX4_load_68 (by decide) ?_
            exact ih (i + 1) _ (by omega) (by first | (simp [ldS, flyc, hacc, c_18, c_42, c_53]) | (simp [ldS, flyc, hacc, c_18, c_42]) | (simp [ldS, flyc, hacc, c_18, c_28]))
      · refine g_aload_0 (q := 22) C dX4_load_21 rfl ?_
        refine g_iload_3 (q := 23) C dX4_load_22 rfl ?_
        refine g_iconst (v := 0) (q := 24) C dX4_load_23 rfl (by decide) ?_
        refine g_cv2i (q := 27) C cv_X4_70 dX4_load_24 rfl rfl (IM.d I _ (by decide) (by decide)) (m_X4_get0 I (by omega) rfl) (by decide) (Nat.le_of_ble_eq_true rfl) ⟨Nat.zero_le _, Nat.zero_le _⟩ ?_
        refine g_iload_1 (q := 28) C dX4_load_27 rfl ?_
        refine g_icmp_ne (tgt := 65) (q := 31) C dX4_load_28 rfl (by decide) (fun c_28 => ?_) (fun c_28 => ?_)
        · refine g_iinc_3 (v := nI (i + 1)) (q := 68) C dX4_load_65 rfl (by rw [hN]; decide) (nI_1 i) ?_
          refine g_goto (tgt := 4) C dX4_load_68 (by decide) ?_
          exact ih (i + 1) _ (by omega) (by first | (simp [ldS, flyc, hacc, c_18, c_42, c_53]) | (simp [ldS, flyc, hacc, c_18, c_42]) | (simp [ldS, flyc, hacc, c_18, c_28]))
        · refine g_goto (tgt := 56) C dX4_load_31 (by decide) ?_
          refine g_iload_2 (q := 57) C dX4_load_56 rfl ?_
          refine g_aload_0 (q := 58) C dX4_load_57 rfl ?_
          refine g_iload_3 (q := 59) C dX4_load_58 rfl ?_
          refine g_iconst (v := 1) (q := 60) C dX4_load_59 rfl (by decide) ?_
          refine g_cv2i (q := 63) C cv_X4_70 dX4_load_60 rfl rfl (IM.d I _ (by decide) (by decide)) (m_X4_get I (k := 1) (by omega) rfl rfl) (by decide) (Nat.le_of_ble_eq_true rfl) ⟨Nat.zero_le _, Nat.zero_le _⟩ ?_
          refine g_iadd (q := 64) C dX4_load_63 rfl ?_
          refine g_istore_2 (q := 65) C dX4_load_64 rfl (by rw [hN]; decide) rfl ?_
          refine g_iinc_3 (v := nI (i + 1)) (q := 68) C dX4_load_65 rfl (by rw [hN]; decide) (nI_1 i) ?_
          refine g_goto (tgt := 4) C dX4_load_68 (by decide) ?_
          exact ih (i + 1) _ (by omega) (by first | (simp [ldS, flyc, hacc, c_18, c_42, c_53]) | (simp [ldS, flyc, hacc, c_18, c_42]) | (simp [ldS, flyc, hacc, c_18, c_28]))
  refine g_iconst (v := 0) (q := 1) C dX4_load_0 rfl (by decide) ?_
  refine g_istore_2 (q := 2) C dX4_load_1 rfl (by rw [hN]; decide) rfl ?_
  refine g_iconst (v := 0) (q := 3) C dX4_load_2 rfl (by decide) ?_
  refine g_istore_3 (q := 4) C dX4_load_3 rfl (by rw [hN]; decide) rfl ?_
  exact lp nP 0 0 (by omega) rfl

set_option maxHeartbeats 4000000 in
set_option maxRecDepth 100000 in
theorem m_X4_over (I : IM dm a nF nP) {f : Nat} (hf : f < nF) {x : Int32} (hx : x = nI f) : MT g bs l yX4_over cX4_over 2 (some .int) 2 0 0 [.ref (ad 100), .int x] ad dm a b r (PX (some (.int (ovS (a 101) (a 102) nP f))) ad dm a b r) := by
  refine mt_of (by decide) [some (.ref (ad 100)), some (.int x)] rfl (Nat.le_of_ble_eq_true rfl) ?_
  intro E hg hbs hl hN C RT9 hcells hslots hname
  have hnF := I.2.2.1
  have hnP := I.2.2.2.2
  subst hx
  refine g_aload_0 (q := 1) C dX4_over_0 rfl ?_
  refine g_iload_1 (q := 2) C dX4_over_1 rfl ?_
  refine g_bipush (v := 6) (q := 4) C dX4_over_2 rfl (by decide) ?_
  refine g_cv2i (q := 7) C cv_X4_74 dX4_over_4 rfl rfl (IM.d I _ (by decide) (by decide)) (m_X4_of7 I (k := 6) (by omega) rfl rfl) (by decide) (Nat.le_of_ble_eq_true rfl) ⟨Nat.zero_le _, Nat.zero_le _⟩ ?_
  refine g_iconst (v := 1) (q := 8) C dX4_over_7 rfl (by decide) ?_
  refine g_icmp_ne (tgt := 17) (q := 11) C dX4_over_8 rfl (by decide) (fun c_8 => ?_) (fun c_8 => ?_)
  · refine g_iconst (v := 0) (q := 18) C dX4_over_17 rfl (by decide) ?_
    refine g_aload_0 (q := 19) C dX4_over_18 rfl ?_
    refine g_iload_1 (q := 20) C dX4_over_19 rfl ?_
    refine g_cv1i (q := 23) C cv_X4_77 dX4_over_20 rfl rfl (IM.d I _ (by decide) (by decide)) (m_X4_load I _) (by decide) (Nat.le_of_ble_eq_true rfl) ⟨Nat.zero_le _, Nat.zero_le _⟩ ?_
    refine g_aload_0 (q := 24) C dX4_over_23 rfl ?_
    refine g_iload_1 (q := 25) C dX4_over_24 rfl ?_
    refine g_iconst (v := 4) (q := 26) C dX4_over_25 rfl (by decide) ?_
    refine g_cv2i (q := 29) C cv_X4_74 dX4_over_26 rfl rfl (IM.d I _ (by decide) (by decide)) (m_X4_of7 I (k := 4) (by omega) rfl rfl) (by decide) (Nat.le_of_ble_eq_true rfl) ⟨Nat.zero_le _, Nat.zero_le _⟩ ?_
    refine g_isub (q := 30) C dX4_over_29 rfl ?_
    refine g_mmax (q := 33) C cm_X4_81 dX4_over_30 rfl (by decide) (Nat.le_of_ble_eq_true rfl) ⟨Nat.zero_le _, Nat.zero_le _⟩ ?_
    exact g_iret C RT9 dX4_over_33 (pxi (by rw [ovS, if_neg c_8]; rfl))
  · refine g_aload_0 (q := 12) C dX4_over_11 rfl ?_
    refine g_iload_1 (q := 13) C dX4_over_12 rfl ?_
    refine g_cv1i (q := 16) C cv_X4_77 dX4_over_13 rfl rfl (IM.d I _ (by decide) (by decide)) (m_X4_load I _) (by decide) (Nat.le_of_ble_eq_true rfl) ⟨Nat.zero_le _, Nat.zero_le _⟩ ?_
    exact g_iret C RT9 dX4_over_16 (pxi (by rw [ovS, if_pos c_8]))

end M10
