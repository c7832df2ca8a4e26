section L22
variable {g : GM} {bs : Nat} {l : Launch} {ad : Nat → Nat} {dm : Nat → Bool} {a : Nat → Nat → Int32} {b : Nat → Nat → Int64} {r : Nat → Nat → Option Nat} {nF nP : Nat} {fl pa nu : Nat → Int32}
theorem i_dec (x : Int32) : x + Int32.ofInt (-1) = x - 1 := by
  rw [Int32.sub_eq_add_neg]
  rfl
theorem bk_st {q : Nat} : u2 (u2 (u2 a 102 (9 * q + 5) 0) 102 (9 * q + 7) (-1)) 102 (9 * q + 8) (-1) = up1 a 102 (paU (a 102) q 0 (a 102 (9 * q + 6)) (-1) (-1)) := by
  rw [show u2 a 102 (9 * q + 5) 0 = up1 a 102 _ from u2_up', u2_up, u2_up]
  congr 1
  funext k
  unfold paU
  by_cases h6 : k = 9 * q + 6
  · subst h6
    rw [if_neg (by omega), if_neg (by omega), if_neg (by omega), if_neg (by omega), if_neg (by omega), if_pos rfl]
  · rw [if_neg h6]
theorem bk_ok {q : Nat} {y : Int32} : (fun k => if k = 9 * q + 6 then 0 else paU pa q 0 y (-1) (-1) k) = gvP pa q 0 0 := by
  funext k
  by_cases h6 : k = 9 * q + 6
  · subst h6; rw [if_pos rfl, gv_paU, paU_6]
  · rw [if_neg h6, gv_paU]
    unfold paU
    rw [if_neg h6, if_neg h6]
theorem bk_no {q : Nat} : (fun j => if j = 9 * q + 8 then pa (9 * q + 8) else if j = 9 * q + 7 then pa (9 * q + 7) else if j = 9 * q + 5 then pa (9 * q + 5) else paU pa q 0 (pa (9 * q + 6)) (-1) (-1) j) = pa := by
  funext k
  unfold paU
  by_cases h8 : k = 9 * q + 8
  · rw [if_pos h8, h8]
  · by_cases h7 : k = 9 * q + 7
    · rw [if_neg h8, if_pos h7, h7]
    · by_cases h5 : k = 9 * q + 5
      · rw [if_neg h8, if_neg h7, if_pos h5, h5]
      · rw [if_neg h8, if_neg h7, if_neg h5, if_neg h8, if_neg h7]
        by_cases h6 : k = 9 * q + 6
        · rw [if_pos h6, h6]
        · rw [if_neg h6, if_neg h5]
def bkM (fl pa : Nat → Int32) (nP : Nat) (p1 : Int32) : Bool := fok nP p1 && decide (¬ pa (9 * cN p1 + 5) = 0) && decide (ovS fl (paU pa (cN p1) 0 (pa (9 * cN p1 + 6)) (-1) (-1)) nP (cN (pa (9 * cN p1))) = 0)
set_option maxHeartbeats 4000000 in
set_option maxRecDepth 100000 in
theorem m_X4_back (I : IM dm a nF nP) {a1 : Nat → Nat → Int32} (ha : a1 = u2 a 100 5 0) (W : WP nF nP (a1 102)) (p1 : Int32) : MT g bs l yX4_back cX4_back 5 (some .boolean) 3 0 0 [.ref (ad 100), .int p1] ad dm a b r (fun v ad0 dm0 a0 b0 r0 => ad0 = ad ∧ dm0 = dm ∧ b0 = b ∧ r0 = r ∧ ((bkM (a1 101) (a1 102) nP p1 = true ∧ a0 = up1 a1 102 (gvP (a1 102) (cN p1) 0 0) ∧ v = some (.int 1)) ∨ (bkM (a1 101) (a1 102) nP p1 = false ∧ a0 = a1 ∧ v = some (.int 0)))) := by
  refine mt_of (by decide) [some (.ref (ad 100)), some (.int p1), none, none, none] rfl (Nat.le_of_ble_eq_true rfl) ?_
  intro E hg hbs hl hN C RT9 hcells hslots hname
  have hnF := I.2.2.1
  have hnP := I.2.2.2.2
  refine g_aload_0 (q := 1) C dX4_back_0 rfl ?_
  refine g_iconst (v := 0) (q := 2) C dX4_back_1 rfl (by decide) ?_
  refine g_puti (q := 5) C p_X4_52 dX4_back_2 rfl rfl (IM.d I _ (by decide) (by decide)) rfl rfl ?_
  rw [← ha]
  have I : IM dm a1 nF nP := by rw [ha]; exact I.th
  have I1 := I
  refine g_aload_0 (q := 6) C dX4_back_5 rfl ?_
  refine g_iload_1 (q := 7) C dX4_back_6 rfl ?_
  refine g_cv1i (q := 10) C cv_X4_92 dX4_back_7 rfl rfl (IM.d I _ (by decide) (by decide)) (m_X4_isParty I _) (by decide) (Nat.le_of_ble_eq_true rfl) ⟨Nat.zero_le _, Nat.zero_le _⟩ ?_
  refine g_ifeqb (tgt := 22) (q := 13) C dX4_back_10 rfl (by decide) (fun c_10 => ?_) (fun c_10 => ?_)
  · refine g_iconst (v := 0) (q := 23) C dX4_back_22 rfl (by decide) ?_
    exact g_zret C RT9 dX4_back_23 rfl ⟨rfl, rfl, rfl, rfl, Or.inr ⟨by first | (rw [bkM, c_10]; rfl) | (rw [bkM, cN_nI (by omega)]; simp [c_19]), rfl, rfl⟩⟩
  · obtain ⟨q, hq, rfl⟩ := fok_t c_10 (by omega)
    obtain ⟨o, ho, eo⟩ := (W q hq).1
    refine g_aload_0 (q := 14) C dX4_back_13 rfl ?_
    refine g_iload_1 (q := 15) C dX4_back_14 rfl ?_
    refine g_iconst (v := 5) (q := 16) C dX4_back_15 rfl (by decide) ?_
    refine g_cv2i (q := 19) C cv_X4_70 dX4_back_16 rfl rfl (IM.d I _ (by decide) (by decide)) (m_X4_get I (k := 5) (by omega) rfl rfl) (by decide) (Nat.le_of_ble_eq_true rfl) ⟨Nat.zero_le _, Nat.zero_le _⟩ ?_
    refine g_if_ne (tgt := 24) (q := 22) C dX4_back_19 rfl (by decide) (fun c_19 => ?_) (fun c_19 => ?_)
    · refine g_aload_0 (q := 25) C dX4_back_24 rfl ?_
      refine g_iload_1 (q := 26) C dX4_back_25 rfl ?_
      refine g_iconst (v := 5) (q := 27) C dX4_back_26 rfl (by decide) ?_
      refine g_cv2i (q := 30) C cv_X4_70 dX4_back_27 rfl rfl (IM.d I _ (by decide) (by decide)) (m_X4_get I (k := 5) (by omega) rfl rfl) (by decide) (Nat.le_of_ble_eq_true rfl) ⟨Nat.zero_le _, Nat.zero_le _⟩ ?_
      refine g_istore_2 (q := 31) C dX4_back_30 rfl (by rw [hN]; decide) rfl ?_
      refine g_aload_0 (q := 32) C dX4_back_31 rfl ?_
      refine g_iload_1 (q := 33) C dX4_back_32 rfl ?_
      refine g_bipush (v := 7) (q := 35) C dX4_back_33 rfl (by decide) ?_
      refine g_cv2i (q := 38) C cv_X4_70 dX4_back_35 rfl rfl (IM.d I _ (by decide) (by decide)) (m_X4_get I (k := 7) (by omega) rfl rfl) (by decide) (Nat.le_of_ble_eq_true rfl) ⟨Nat.zero_le _, Nat.zero_le _⟩ ?_
      refine g_istore_3 (q := 39) C dX4_back_38 rfl (by rw [hN]; decide) rfl ?_
      refine g_aload_0 (q := 40) C dX4_back_39 rfl ?_
      refine g_iload_1 (q := 41) C dX4_back_40 rfl ?_
      refine g_bipush (v := 8) (q := 43) C dX4_back_41 rfl (by decide) ?_
      refine g_cv2i (q := 46) C cv_X4_70 dX4_back_43 rfl rfl (IM.d I _ (by decide) (by decide)) (m_X4_get I (k := 8) (by omega) rfl rfl) (by decide) (Nat.le_of_ble_eq_true rfl) ⟨Nat.zero_le _, Nat.zero_le _⟩ ?_
      refine g_istore_4 (q := 48) C dX4_back_46 rfl (by rw [hN]; decide) rfl ?_
      refine g_aload_0 (q := 49) C dX4_back_48 rfl ?_
      refine g_iload_1 (q := 50) C dX4_back_49 rfl ?_
      refine g_iconst (v := 5) (q := 51) C dX4_back_50 rfl (by decide) ?_
      refine g_iconst (v := 0) (q := 52) C dX4_back_51 rfl (by decide) ?_
      refine g_cv3v (q := 55) C cv_X4_106 dX4_back_52 rfl rfl (IM.d I _ (by decide) (by decide)) (m_X4_put I (k := 5) (by omega) rfl rfl _) (by decide) (Nat.le_of_ble_eq_true rfl) ⟨Nat.zero_le _, Nat.zero_le _⟩ ?_
      have I := I.u (n := 102) (k := 9 * q + 5) (x := 0) (by decide)
      refine g_aload_0 (q := 56) C dX4_back_55 rfl ?_
      refine g_iload_1 (q := 57) C dX4_back_56 rfl ?_
      refine g_bipush (v := 7) (q := 59) C dX4_back_57 rfl (by decide) ?_
      refine g_iconst (v := (-1)) (q := 60) C dX4_back_59 rfl (by decide) ?_
      refine g_cv3v (q := 63) C cv_X4_106 dX4_back_60 rfl rfl (IM.d I _ (by decide) (by decide)) (m_X4_put I (k := 7) (by omega) rfl rfl _) (by decide) (Nat.le_of_ble_eq_true rfl) ⟨Nat.zero_le _, Nat.zero_le _⟩ ?_
      have I := I.u (n := 102) (k := 9 * q + 7) (x := -1) (by decide)
      refine g_aload_0 (q := 64) C dX4_back_63 rfl ?_
      refine g_iload_1 (q := 65) C dX4_back_64 rfl ?_
      refine g_bipush (v := 8) (q := 67) C dX4_back_65 rfl (by decide) ?_
      refine g_iconst (v := (-1)) (q := 68) C dX4_back_67 rfl (by decide) ?_
      refine g_cv3v (q := 71) C cv_X4_106 dX4_back_68 rfl rfl (IM.d I _ (by decide) (by decide)) (m_X4_put I (k := 8) (by omega) rfl rfl _) (by decide) (Nat.le_of_ble_eq_true rfl) ⟨Nat.zero_le _, Nat.zero_le _⟩ ?_
      rw [bk_st]
      have I := I1.up (n := 102) (f := paU (a1 102) q 0 (a1 102 (9 * q + 6)) (-1) (-1)) (by decide)
      refine g_aload_0 (q := 72) C dX4_back_71 rfl ?_
      refine g_aload_0 (q := 73) C dX4_back_72 rfl ?_
      refine g_iload_1 (q := 74) C dX4_back_73 rfl ?_
      refine g_iconst (v := 0) (q := 75) C dX4_back_74 rfl (by decide) ?_
      refine g_cv2i (q := 78) C cv_X4_70 dX4_back_75 rfl rfl (IM.d I _ (by decide) (by decide)) (m_X4_get0 I (by omega) rfl) (by decide) (Nat.le_of_ble_eq_true rfl) ⟨Nat.zero_le _, Nat.zero_le _⟩ ?_
      rw [up1_s, paU_o (by omega), eo]
      refine g_cv1i (q := 81) C cv_X4_86 dX4_back_78 rfl rfl (IM.d I _ (by decide) (by decide)) (m_X4_over I (by assumption) rfl) (by decide) (Nat.le_of_ble_eq_true rfl) ⟨Nat.zero_le _, Nat.zero_le _⟩ ?_
      refine g_if_ne (tgt := 94) (q := 84) C dX4_back_81 rfl (by decide) (fun c_81 => ?_) (fun c_81 => ?_)
      · refine g_aload_0 (q := 95) C dX4_back_94 rfl ?_
        refine g_iload_1 (q := 96) C dX4_back_95 rfl ?_
        refine g_iconst (v := 5) (q := 97) C dX4_back_96 rfl (by decide) ?_
        refine g_iload_2 (q := 98) C dX4_back_97 rfl ?_
        refine g_cv3v (q := 101) C cv_X4_106 dX4_back_98 rfl rfl (IM.d I _ (by decide) (by decide)) (m_X4_put I (k := 5) (by omega) rfl rfl _) (by decide) (Nat.le_of_ble_eq_true rfl) ⟨Nat.zero_le _, Nat.zero_le _⟩ ?_
        have I := I.u (n := 102) (k := 9 * q + 5) (x := a1 102 (9 * q + 5)) (by decide)
        refine g_aload_0 (q := 102) C dX4_back_101 rfl ?_
        refine g_iload_1 (q := 103) C dX4_back_102 rfl ?_
        refine g_bipush (v := 7) (q := 105) C dX4_back_103 rfl (by decide) ?_
        refine g_iload_3 (q := 106) C dX4_back_105 rfl ?_
        refine g_cv3v (q := 109) C cv_X4_106 dX4_back_106 rfl rfl (IM.d I _ (by decide) (by decide)) (m_X4_put I (k := 7) (by omega) rfl rfl _) (by decide) (Nat.le_of_ble_eq_true rfl) ⟨Nat.zero_le _, Nat.zero_le _⟩ ?_
        have I := I.u (n := 102) (k := 9 * q + 7) (x := a1 102 (9 * q + 7)) (by decide)
        refine g_aload_0 (q := 110) C dX4_back_109 rfl ?_
        refine g_iload_1 (q := 111) C dX4_back_110 rfl ?_
        refine g_bipush (v := 8) (q := 113) C dX4_back_111 rfl (by decide) ?_
        refine g_iload_4 (q := 115) C dX4_back_113 rfl ?_
        refine g_cv3v (q := 118) C cv_X4_106 dX4_back_115 rfl rfl (IM.d I _ (by decide) (by decide)) (m_X4_put I (k := 8) (by omega) rfl rfl _) (by decide) (Nat.le_of_ble_eq_true rfl) ⟨Nat.zero_le _, Nat.zero_le _⟩ ?_
        refine g_iconst (v := 0) (q := 119) C dX4_back_118 rfl (by decide) ?_
        exact g_zret C RT9 dX4_back_119 rfl ⟨rfl, rfl, rfl, rfl, Or.inr ⟨by rw [bkM, c_10, cN_nI (by omega), eo, cN_nI (by omega), decide_eq_true c_19]; exact decide_eq_false c_81, by rw [u2_up, u2_up, u2_up, bk_no, up1_id], rfl⟩⟩
      · refine g_aload_0 (q := 85) C dX4_back_84 rfl ?_
        refine g_iload_1 (q := 86) C dX4_back_85 rfl ?_
        refine g_bipush (v := 6) (q := 88) C dX4_back_86 rfl (by decide) ?_
        refine g_iconst (v := 0) (q := 89) C dX4_back_88 rfl (by decide) ?_
        refine g_cv3v (q := 92) C cv_X4_106 dX4_back_89 rfl rfl (IM.d I _ (by decide) (by decide)) (m_X4_put I (k := 6) (by omega) rfl rfl _) (by decide) (Nat.le_of_ble_eq_true rfl) ⟨Nat.zero_le _, Nat.zero_le _⟩ ?_
        refine g_iconst (v := 1) (q := 93) C dX4_back_92 rfl (by decide) ?_
        exact g_zret C RT9 dX4_back_93 rfl ⟨rfl, rfl, rfl, rfl, Or.inl ⟨by rw [bkM, c_10, cN_nI (by omega), eo, cN_nI (by omega), decide_eq_true c_19]; exact decide_eq_true c_81, by rw [u2_up, bk_ok, cN_nI (by omega)], rfl⟩⟩
    · refine g_iconst (v := 0) (q := 23) C dX4_back_22 rfl (by decide) ?_
      exact g_zret C RT9 dX4_back_23 rfl ⟨rfl, rfl, rfl, rfl, Or.inr ⟨by first | (rw [bkM, c_10]; rfl) | (rw [bkM, cN_nI (by omega)]; simp [c_19]), rfl, rfl⟩⟩

def enO (o : Option Nat) : Int32 := match o with
  | none => -1
  | some q => nI q
def lvK (fl pa : Nat → Int32) (nF nP : Nat) (f1 : Int32) : Bool := fok nF f1 && decide (¬ smS pa (elS pa f1) nP < ovS fl pa nP (cN f1))
def lvV (fl pa : Nat → Int32) (nF nP : Nat) (f1 : Int32) : Int32 := if fok nF f1 = true then (if smS pa (elS pa f1) nP < ovS fl pa nP (cN f1) then -2 else (lvN fl nP (cN f1) nP pa 0).2) else -1
def lvP (fl pa : Nat → Int32) (nF nP : Nat) (f1 : Int32) : Nat → Int32 := if lvK fl pa nF nP f1 = true then (lvN fl nP (cN f1) nP pa 0).1 else pa
theorem ni_1 {f : Int32} {i : Nat} (h : ¬ pa (9 * i) = f) : enO (nlS pa f i) = enO (nlS pa f (i + 1)) := by rw [nlS, if_neg (by simp [elS, h])]
theorem ni_2 {f : Int32} {i : Nat} (h : ¬ pa (9 * i + 5) = 0) : enO (nlS pa f i) = enO (nlS pa f (i + 1)) := by rw [nlS, if_neg (by simp [elS, h])]
theorem ni_3 {f : Int32} {i : Nat} (h : pa (9 * i + 4) = 1) : enO (nlS pa f i) = enO (nlS pa f (i + 1)) := by rw [nlS, if_neg (by simp [elS, h])]
theorem ni_e {f : Int32} {i : Nat} (hm : pa (9 * i + 4) = 0 ∨ pa (9 * i + 4) = 1) (h1 : pa (9 * i) = f) (h2 : pa (9 * i + 5) = 0) (h3 : ¬ pa (9 * i + 4) = 1) : elS pa f i = true := by
  simp [elS, h1, h2, hm.resolve_right h3]
theorem en_m1 {f : Int32} {i : Nat} (hi : i < 100) (h : enO (nlS pa f i) = -1) : nlS pa f i = none := by
  have hb := nlS_B (pa := pa) (f := f) (n := i)
  cases h9 : nlS pa f i with
  | none => rfl
  | some q =>
    rw [h9] at h hb
    have := hb.2.1
    exact absurd h (nI_m1 (by omega))
theorem ni_4 {f : Int32} {i : Nat} (hi : i < 100) (hm : pa (9 * i + 4) = 0 ∨ pa (9 * i + 4) = 1) (h1 : pa (9 * i) = f) (h2 : pa (9 * i + 5) = 0) (h3 : ¬ pa (9 * i + 4) = 1) (h4 : enO (nlS pa f i) = -1) : nI i = enO (nlS pa f (i + 1)) := by
  rw [nlS, if_pos (ni_e hm h1 h2 h3), en_m1 hi h4]
  rfl
theorem ni_5 {f : Int32} {i q : Nat} (hm : pa (9 * i + 4) = 0 ∨ pa (9 * i + 4) = 1) (h1 : pa (9 * i) = f) (h2 : pa (9 * i + 5) = 0) (h3 : ¬ pa (9 * i + 4) = 1) (e : nlS pa f i = some q) (h4 : pa (9 * q + 2) < pa (9 * i + 2)) : nI q = enO (nlS pa f (i + 1)) := by
  rw [nlS, if_pos (ni_e hm h1 h2 h3), e]
  dsimp only
  rw [if_neg (Int32.not_le.mpr h4)]
  rfl
theorem ni_6 {f : Int32} {i q : Nat} (hm : pa (9 * i + 4) = 0 ∨ pa (9 * i + 4) = 1) (h1 : pa (9 * i) = f) (h2 : pa (9 * i + 5) = 0) (h3 : ¬ pa (9 * i + 4) = 1) (e : nlS pa f i = some q) (h4 : ¬ pa (9 * q + 2) < pa (9 * i + 2)) : nI i = enO (nlS pa f (i + 1)) := by
  rw [nlS, if_pos (ni_e hm h1 h2 h3), e]
  dsimp only
  rw [if_pos (Int32.not_lt.mp h4)]
  rfl
set_option maxHeartbeats 4000000 in
set_option maxRecDepth 100000 in
theorem lv_scan {E : EN} (C : CX E cX4_leave yX4_leave.cls 3) (hN : eN E = 6) (I : IM dm a nF nP) (Wm : ∀ p, p < nP → a 102 (9 * p + 4) = 0 ∨ a 102 (9 * p + 4) = 1) {f : Nat} {cv pe : Int32} (hk : G E 0 0 ad dm a b r 175 [some (.ref (ad 100)), some (.int (nI f)), some (.int cv), some (.int pe), some (.int (enO (nlS (a 102) (nI f) nP))), some (.int (nI nP))] []) : ∀ (k i : Nat) (la : Int32), i + k = nP → la = enO (nlS (a 102) (nI f) i) → G E 0 0 ad dm a b r 98 [some (.ref (ad 100)), some (.int (nI f)), some (.int cv), some (.int pe), some (.int la), some (.int (nI i))] [] := by
  have hnF := I.2.2.1
  have hnP := I.2.2.2.2
  intro k
  induction k with
  | zero =>
    intro i la hi hla
    refine g_iload_5 (q := 100) C dX4_leave_98 rfl ?_
    refine g_aload_0 (q := 101) C dX4_leave_100 rfl ?_
    refine g_geti (q := 104) C f_X4_63 dX4_leave_101 rfl rfl (IM.d I _ (by decide) (by decide)) ?_
    refine g_icmp_ge (tgt := 175) (q := 107) C dX4_leave_104 rfl (by decide) (fun c_104 => ?_) (fun c_104 => absurd (by rw [I.nP]; exact nI_le (by omega) (by omega)) c_104)
    have e9 : i = nP := by omega
    subst e9
    rw [hla]
    exact hk
  | succ k ih =>
    intro i la hi hla
    have hip : i < nP := by omega
    refine g_iload_5 (q := 100) C dX4_leave_98 rfl ?_
    refine g_aload_0 (q := 101) C dX4_leave_100 rfl ?_
    refine g_geti (q := 104) C f_X4_63 dX4_leave_101 rfl rfl (IM.d I _ (by decide) (by decide)) ?_
    refine g_icmp_ge (tgt := 175) (q := 107) C dX4_leave_104 rfl (by decide) (fun c_104 => absurd c_104 (by rw [I.nP]; exact nI_ge (by omega) (by omega))) (fun c_104 => ?_)
    refine g_aload_0 (q := 108) C dX4_leave_107 rfl ?_
    refine g_iload_5 (q := 110) C dX4_leave_108 rfl ?_
    refine g_iconst (v := 0) (q := 111) C dX4_leave_110 rfl (by decide) ?_
    refine g_cv2i (q := 114) C cv_X4_70 dX4_leave_111 rfl rfl (IM.d I _ (by decide) (by decide)) (m_X4_get0 I (by omega) rfl) (by decide) (Nat.le_of_ble_eq_true rfl) ⟨Nat.zero_le _, Nat.zero_le _⟩ ?_
    refine g_iload_1 (q := 115) C dX4_leave_114 rfl ?_
    refine g_icmp_ne (tgt := 169) (q := 118) C dX4_leave_115 rfl (by decide) (fun c_115 => ?_) (fun c_115 => ?_)
    · refine g_iinc_5 (v := nI (i + 1)) (q := 172) C dX4_leave_169 rfl (by rw [hN]; decide) (nI_1 i) ?_
      refine g_goto (tgt := 98) C dX4_leave_172 (by decide) ?_
      first | exact ih (i + 1) _ (by omega) (by rw [hla]; exact ni_1 c_115) | exact ih (i + 1) _ (by omega) (by rw [hla]; exact ni_2 c_125) | exact ih (i + 1) _ (by omega) (by rw [hla]; exact ni_3 c_136) | exact ih (i + 1) _ (by omega) (ni_4 (by omega) (Wm i hip) c_115 c_125 c_136 (by rw [← hla]; exact c_145)) | exact ih (i + 1) _ (by omega) (ni_5 (Wm i hip) c_115 c_125 c_136 eq9 c_162) | exact ih (i + 1) _ (by omega) (ni_6 (Wm i hip) c_115 c_125 c_136 eq9 c_162)
    · refine g_aload_0 (q := 119) C dX4_leave_118 rfl ?_
      refine g_iload_5 (q := 121) C dX4_leave_119 rfl ?_
      refine g_iconst (v := 5) (q := 122) C dX4_leave_121 rfl (by decide) ?_
      refine g_cv2i (q := 125) C cv_X4_70 dX4_leave_122 rfl rfl (IM.d I _ (by decide) (by decide)) (m_X4_get I (k := 5) (by omega) rfl rfl) (by decide) (Nat.le_of_ble_eq_true rfl) ⟨Nat.zero_le _, Nat.zero_le _⟩ ?_
      refine g_if_ne (tgt := 169) (q := 128) C dX4_leave_125 rfl (by decide) (fun c_125 => ?_) (fun c_125 => ?_)
      · refine g_iinc_5 (v := nI (i + 1)) (q := 172) C dX4_leave_169 rfl (by rw [hN]; decide) (nI_1 i) ?_
        refine g_goto (tgt := 98) C dX4_leave_172 (by decide) ?_
        first | exact ih (i + 1) _ (by omega) (by rw [hla]; exact ni_1 c_115) | exact ih (i + 1) _ (by omega) (by rw [hla]; exact ni_2 c_125) | exact ih (i + 1) _ (by omega) (by rw [hla]; exact ni_3 c_136) | exact ih (i + 1) _ (by omega) (ni_4 (by omega) (Wm i hip) c_115 c_125 c_136 (by rw [← hla]; exact c_145)) | exact ih (i + 1) _ (by omega) (ni_5 (Wm i hip) c_115 c_125 c_136 eq9 c_162) | exact ih (i + 1) _ (by omega) (ni_6 (Wm i hip) c_115 c_125 c_136 eq9 c_162)
      · refine g_aload_0 (q := 129) C dX4_leave_128 rfl ?_
        refine g_iload_5 (q := 131) C dX4_leave_129 rfl ?_
        refine g_iconst (v := 4) (q := 132) C dX4_leave_131 rfl (by decide) ?_
        refine g_cv2i (q := 135) C cv_X4_70 dX4_leave_132 rfl rfl (IM.d I _ (by decide) (by decide)) (m_X4_get I (k := 4) (by omega) rfl rfl) (by decide) (Nat.le_of_ble_eq_true rfl) ⟨Nat.zero_le _, Nat.zero_le _⟩ ?_
        refine g_iconst (v := 1) (q := 136) C dX4_leave_135 rfl (by decide) ?_
        refine g_icmp_ne (tgt := 142) (q := 139) C dX4_leave_136 rfl (by decide) (fun c_136 => ?_) (fun c_136 => ?_)
        · refine g_iload_4 (q := 144) C dX4_leave_142 rfl ?_
          refine g_iconst (v := (-1)) (q := 145) C dX4_leave_144 rfl (by decide) ?_
          refine g_icmp_eq (tgt := 165) (q := 148) C dX4_leave_145 rfl (by decide) (fun c_145 => ?_) (fun c_145 => ?_)
          · refine g_iload_5 (q := 167) C dX4_leave_165 rfl ?_
            refine g_istore_4 (q := 169) C dX4_leave_167 rfl (by rw [hN]; decide) rfl ?_
            refine g_iinc_5 (v := nI (i + 1)) (q := 172) C dX4_leave_169 rfl (by rw [hN]; decide) (nI_1 i) ?_
            refine g_goto (tgt := 98) C dX4_leave_172 (by decide) ?_
            first | exact ih (i + 1) _ (by omega) (by rw [hla]; exact ni_1 c_115) | exact ih (i + 1) _ (by omega) (by rw [hla]; exact ni_2 c_125) | exact ih (i + 1) _ (by omega) (by rw [hla]; exact ni_3 c_136) | exact ih (i + 1) _ (by omega) (ni_4 (by omega) (Wm i hip) c_115 c_125 c_136 (by rw [← hla]; exact c_145)) | exact ih (i + 1) _ (by omega) (ni_5 (Wm i hip) c_115 c_125 c_136 eq9 c_162) | exact ih (i + 1) _ (by omega) (ni_6 (Wm i hip) c_115 c_125 c_136 eq9 c_162)
          · obtain ⟨q9, eq9⟩ : ∃ q9, nlS (a 102) (nI f) i = some q9 := by
              cases h9 : nlS (a 102) (nI f) i with
              | none => exact absurd (by rw [hla, h9]; rfl) c_145
              | some q9 => exact ⟨q9, rfl⟩
            have hb9 := nlS_B (pa := a 102) (f := nI f) (n := i)
            rw [eq9] at hb9
            have hq9 : q9 < i := hb9.2.1
            have hl9 : la = nI q9 := by rw [hla, eq9]; rfl
            subst hl9
            refine g_aload_0 (q := 149) C dX4_leave_148 rfl ?_
            refine g_iload_5 (q := 151) C dX4_leave_149 rfl ?_
            refine g_iconst (v := 2) (q := 152) C dX4_leave_151 rfl (by decide) ?_
            refine g_cv2i (q := 155) C cv_X4_70 dX4_leave_152 rfl rfl (IM.d I _ (by decide) (by decide)) (m_X4_get I (k := 2) (by omega) rfl rfl) (by decide) (Nat.le_of_ble_eq_true rfl) ⟨Nat.zero_le _, Nat.zero_le _⟩ ?_
            refine g_aload_0 (q := 156) C dX4_leave_155 rfl ?_
            refine g_iload_4 (q := 158) C dX4_leave_156 rfl ?_
            refine g_iconst (v := 2) (q := 159) C dX4_leave_158 rfl (by decide) ?_
            refine g_cv2i (q := 162) C cv_X4_70 dX4_leave_159 rfl rfl (IM.d I _ (by decide) (by decide)) (m_X4_get I (p := q9) (k := 2) (by omega) rfl rfl) (by decide) (Nat.le_of_ble_eq_true rfl) ⟨Nat.zero_le _, Nat.zero_le _⟩ ?_
            refine g_icmp_gt (tgt := 169) (q := 165) C dX4_leave_162 rfl (by decide) (fun c_162 => ?_) (fun c_162 => ?_)
            · refine g_iinc_5 (v := nI (i + 1)) (q := 172) C dX4_leave_169 rfl (by rw [hN]; decide) (nI_1 i) ?_
              refine g_goto (tgt := 98) C dX4_leave_172 (by decide) ?_
              first | exact ih (i + 1) _ (by omega) (by rw [hla]; exact ni_1 c_115) | exact ih (i + 1) _ (by omega) (by rw [hla]; exact ni_2 c_125) | exact ih (i + 1) _ (by omega) (by rw [hla]; exact ni_3 c_136) | exact ih (i + 1) _ (by omega) (ni_4 (by omega) (Wm i hip) c_115 c_125 c_136 (by rw [← hla]; exact c_145)) | exact ih (i + 1) _ (by omega) (ni_5 (Wm i hip) c_115 c_125 c_136 eq9 c_162) | exact ih (i + 1) _ (by omega) (ni_6 (Wm i hip) c_115 c_125 c_136 eq9 c_162)
            · refine g_iload_5 (q := 167) C dX4_leave_165 rfl ?_
              refine g_istore_4 (q := 169) C dX4_leave_167 rfl (by rw [hN]; decide) rfl ?_
              refine g_iinc_5 (v := nI (i + 1)) (q := 172) C dX4_leave_169 rfl (by rw [hN]; decide) (nI_1 i) ?_
              refine g_goto (tgt := 98) C dX4_leave_172 (by decide) ?_
              first | exact ih (i + 1) _ (by omega) (by rw [hla]; exact ni_1 c_115) | exact ih (i + 1) _ (by omega) (by rw [hla]; exact ni_2 c_125) | exact ih (i + 1) _ (by omega) (by rw [hla]; exact ni_3 c_136) | exact ih (i + 1) _ (by omega) (ni_4 (by omega) (Wm i hip) c_115 c_125 c_136 (by rw [← hla]; exact c_145)) | exact ih (i + 1) _ (by omega) (ni_5 (Wm i hip) c_115 c_125 c_136 eq9 c_162) | exact ih (i + 1) _ (by omega) (ni_6 (Wm i hip) c_115 c_125 c_136 eq9 c_162)
        · refine g_goto (tgt := 169) C dX4_leave_139 (by decide) ?_
          refine g_iinc_5 (v := nI (i + 1)) (q := 172) C dX4_leave_169 rfl (by rw [hN]; decide) (nI_1 i) ?_
          refine g_goto (tgt := 98) C dX4_leave_172 (by decide) ?_
          first | exact ih (i + 1) _ (by omega) (by rw [hla]; exact ni_1 c_115) | exact ih (i + 1) _ (by omega) (by rw [hla]; exact ni_2 c_125) | exact ih (i + 1) _ (by omega) (by rw [hla]; exact ni_3 c_136) | exact ih (i + 1) _ (by omega) (ni_4 (by omega) (Wm i hip) c_115 c_125 c_136 (by rw [← hla]; exact c_145)) | exact ih (i + 1) _ (by omega) (ni_5 (Wm i hip) c_115 c_125 c_136 eq9 c_162) | exact ih (i + 1) _ (by omega) (ni_6 (Wm i hip) c_115 c_125 c_136 eq9 c_162)
set_option maxHeartbeats 4000000 in
set_option maxRecDepth 100000 in
theorem lv_loop {a1 : Nat → Nat → Int32} {E : EN} (C : CX E cX4_leave yX4_leave.cls 3) (hN : eN E = 6) {P : PO} (RT9 : RT E 0 0 (some .int) P) (I1 : IM dm a1 nF nP) (F : WF nF (a1 101)) {f : Nat} (hf : f < nF) {cv : Int32} : ∀ (n : Nat) (pk : Nat → Int32) (pe : Int32) (e4 e5 : Option Value), WP nF nP pk → ovN (a1 101) pk nP f ≤ sN pk (elS pk (nI f)) nP → ctS (elS pk (nI f)) nP ≤ n → P (some (.int (lvN (a1 101) nP f n pk pe).2)) ad dm (up1 a1 102 (lvN (a1 101) nP f n pk pe).1) b r → G E 0 0 ad dm (up1 a1 102 pk) b r 84 [some (.ref (ad 100)), some (.int (nI f)), some (.int cv), some (.int pe), e4, e5] [] := by
  have hnF := I1.2.2.1
  have hnP := I1.2.2.2.2
  intro n
  induction n with
  | zero =>
    intro pk pe e4 e5 Wk hoe hct hP
    have I := I1.up (n := 102) (f := pk) (by decide)
    have hz9 := sN_zero (pa := pk) (c := elS pk (nI f)) (n := nP) (ctS_zero (by omega))
    have hov0 : ¬ 0 < ovS (a1 101) pk nP f := by rw [ovS_N Wk F hnP hf, nI_0lt (by have := ovN_le (fl := a1 101) Wk (f := f); omega)]; omega
    refine g_aload_0 (q := 85) C dX4_leave_84 rfl ?_
    refine g_iload_1 (q := 86) C dX4_leave_85 rfl ?_
    refine g_cv1i (q := 89) C cv_X4_86 dX4_leave_86 rfl rfl (IM.d I _ (by decide) (by decide)) (m_X4_over I (by assumption) rfl) (by decide) (Nat.le_of_ble_eq_true rfl) ⟨Nat.zero_le _, Nat.zero_le _⟩ ?_
    refine g_if_le (tgt := 223) (q := 92) C dX4_leave_89 rfl (by decide) (fun c_89 => ?_) (fun c_89 => absurd (Int32.not_lt.mp hov0) c_89)
    refine g_iload_3 (q := 224) C dX4_leave_223 rfl ?_
    exact g_iret C RT9 dX4_leave_224 hP
  | succ n ih =>
    intro pk pe e4 e5 Wk hoe hct hP
    have I := I1.up (n := 102) (f := pk) (by decide)
    refine g_aload_0 (q := 85) C dX4_leave_84 rfl ?_
    refine g_iload_1 (q := 86) C dX4_leave_85 rfl ?_
    refine g_cv1i (q := 89) C cv_X4_86 dX4_leave_86 rfl rfl (IM.d I _ (by decide) (by decide)) (m_X4_over I (by assumption) rfl) (by decide) (Nat.le_of_ble_eq_true rfl) ⟨Nat.zero_le _, Nat.zero_le _⟩ ?_
    refine g_if_le (tgt := 223) (q := 92) C dX4_leave_89 rfl (by decide) (fun c_89 => ?_) (fun c_89 => ?_)
    · refine g_iload_3 (q := 224) C dX4_leave_223 rfl ?_
      exact g_iret C RT9 dX4_leave_224 (by rw [lvN_0 (show ¬ 0 < ovS (a1 101) pk nP f from Int32.not_lt.mpr c_89)] at hP; exact hP)
    · have hov : 0 < ovS (a1 101) pk nP f := Int32.not_le.mp c_89
      obtain ⟨q, eq, hq, hel⟩ := lv_some Wk F hnP hf hoe hov
      refine g_iconst (v := (-1)) (q := 93) C dX4_leave_92 rfl (by decide) ?_
      refine g_istore_4 (q := 95) C dX4_leave_93 rfl (by rw [hN]; decide) rfl ?_
      refine g_iconst (v := 0) (q := 96) C dX4_leave_95 rfl (by decide) ?_
      refine g_istore_5 (q := 98) C dX4_leave_96 rfl (by rw [hN]; decide) rfl ?_
      refine lv_scan C hN I (fun p hp => (Wk p hp).2.2.2.2.1) ?_ nP 0 _ (by omega) rfl
      rw [up1_s, eq]
      show G E 0 0 ad dm (up1 a1 102 pk) b r 175 [some (.ref (ad 100)), some (.int (nI f)), some (.int cv), some (.int pe), some (.int (nI q)), some (.int (nI nP))] []
      refine g_aload_0 (q := 176) C dX4_leave_175 rfl ?_
      refine g_iload_4 (q := 178) C dX4_leave_176 rfl ?_
      refine g_iconst (v := 5) (q := 179) C dX4_leave_178 rfl (by decide) ?_
      refine g_iconst (v := 2) (q := 180) C dX4_leave_179 rfl (by decide) ?_
      refine g_cv3v (q := 183) C cv_X4_106 dX4_leave_180 rfl rfl (IM.d I _ (by decide) (by decide)) (m_X4_put I (k := 5) (by omega) rfl rfl _) (by decide) (Nat.le_of_ble_eq_true rfl) ⟨Nat.zero_le _, Nat.zero_le _⟩ ?_
      have I := I.u (n := 102) (k := 9 * q + 5) (x := 2) (by decide)
      refine g_aload_0 (q := 184) C dX4_leave_183 rfl ?_
      refine g_iload_4 (q := 186) C dX4_leave_184 rfl ?_
      refine g_bipush (v := 6) (q := 188) C dX4_leave_186 rfl (by decide) ?_
      refine g_iconst (v := 0) (q := 189) C dX4_leave_188 rfl (by decide) ?_
      refine g_cv3v (q := 192) C cv_X4_106 dX4_leave_189 rfl rfl (IM.d I _ (by decide) (by decide)) (m_X4_put I (k := 6) (by omega) rfl rfl _) (by decide) (Nat.le_of_ble_eq_true rfl) ⟨Nat.zero_le _, Nat.zero_le _⟩ ?_
      have I := I.u (n := 102) (k := 9 * q + 6) (x := 0) (by decide)
      refine g_aload_0 (q := 193) C dX4_leave_192 rfl ?_
      refine g_iload_4 (q := 195) C dX4_leave_193 rfl ?_
      refine g_bipush (v := 7) (q := 197) C dX4_leave_195 rfl (by decide) ?_
      refine g_iconst (v := (-1)) (q := 198) C dX4_leave_197 rfl (by decide) ?_
      refine g_cv3v (q := 201) C cv_X4_106 dX4_leave_198 rfl rfl (IM.d I _ (by decide) (by decide)) (m_X4_put I (k := 7) (by omega) rfl rfl _) (by decide) (Nat.le_of_ble_eq_true rfl) ⟨Nat.zero_le _, Nat.zero_le _⟩ ?_
      have I := I.u (n := 102) (k := 9 * q + 7) (x := -1) (by decide)
      refine g_aload_0 (q := 202) C dX4_leave_201 rfl ?_
      refine g_iload_4 (q := 204) C dX4_leave_202 rfl ?_
      refine g_bipush (v := 8) (q := 206) C dX4_leave_204 rfl (by decide) ?_
      refine g_iconst (v := (-1)) (q := 207) C dX4_leave_206 rfl (by decide) ?_
      refine g_cv3v (q := 210) C cv_X4_106 dX4_leave_207 rfl rfl (IM.d I _ (by decide) (by decide)) (m_X4_put I (k := 8) (by omega) rfl rfl _) (by decide) (Nat.le_of_ble_eq_true rfl) ⟨Nat.zero_le _, Nat.zero_le _⟩ ?_
      have I := I.u (n := 102) (k := 9 * q + 8) (x := -1) (by decide)
      rw [show u2 (up1 a1 102 pk) 102 (9 * q + 5) 2 = up1 a1 102 _ from u2_up, u2_up, u2_up, u2_up, show (fun j => if j = 9 * q + 8 then (-1 : Int32) else if j = 9 * q + 7 then -1 else if j = 9 * q + 6 then 0 else if j = 9 * q + 5 then 2 else pk j) = gvP pk q 2 0 from rfl]
      have I := I1.up (n := 102) (f := gvP pk q 2 0) (by decide)
      refine g_iload_3 (q := 211) C dX4_leave_210 rfl ?_
      refine g_aload_0 (q := 212) C dX4_leave_211 rfl ?_
      refine g_iload_4 (q := 214) C dX4_leave_212 rfl ?_
      refine g_iconst (v := 1) (q := 215) C dX4_leave_214 rfl (by decide) ?_
      refine g_cv2i (q := 218) C cv_X4_70 dX4_leave_215 rfl rfl (IM.d I _ (by decide) (by decide)) (m_X4_get I (k := 1) (by omega) rfl rfl) (by decide) (Nat.le_of_ble_eq_true rfl) ⟨Nat.zero_le _, Nat.zero_le _⟩ ?_
      rw [up1_s, gv_lo (by decide)]
      refine g_iadd (q := 219) C dX4_leave_218 rfl ?_
      refine g_istore_3 (q := 220) C dX4_leave_219 rfl (by rw [hN]; decide) rfl ?_
      refine g_goto (tgt := 84) C dX4_leave_220 (by decide) ?_
      have hst := el_rm (pa := pk) (nP := nP) (q := q) (f := f) (x := 2) (y := 0) hq (by decide) hel
      have hov2 := ov_rm (fl := a1 101) Wk (x := 2) (y := 0) hq (by omega) (by decide) (el_fc hel)
      exact ih (gvP pk q 2 0) (pe + pk (9 * q + 1)) _ _ (gv_WP Wk hnF hq (Or.inr rfl) (k := 0) (by decide) rfl) (by omega) (by omega) (by rw [lvN_s hov eq] at hP; exact hP)
set_option maxHeartbeats 4000000 in
set_option maxRecDepth 100000 in
theorem m_X4_leave (I : IM dm a nF nP) {a1 : Nat → Nat → Int32} (ha : a1 = u2 a 100 5 0) (W : WP nF nP (a1 102)) (F : WF nF (a1 101)) (f1 : Int32) : MT g bs l yX4_leave cX4_leave 6 (some .int) 3 0 0 [.ref (ad 100), .int f1] ad dm a b r (fun v ad0 dm0 a0 b0 r0 => ad0 = ad ∧ dm0 = dm ∧ b0 = b ∧ r0 = r ∧ a0 = up1 a1 102 (lvP (a1 101) (a1 102) nF nP f1) ∧ v = some (.int (lvV (a1 101) (a1 102) nF nP f1))) := by
  refine mt_of (by decide) [some (.ref (ad 100)), some (.int f1), none, none, none, none] rfl (Nat.le_of_ble_eq_true rfl) ?_
  intro E hg hbs hl hN C RT9 hcells hslots hname
  have hnF := I.2.2.1
  have hnP := I.2.2.2.2
  have l1 : IM dm a1 nF nP → ∀ f : Nat, f < nF → f1 = nI f → fok nF f1 = true → ∀ (k i : Nat) (acc : Int32), i + k = nP → acc = smS (a1 102) (elS (a1 102) f1) i → G E 0 0 ad dm a1 b r 19 [some (.ref (ad 100)), some (.int f1), some (.int acc), some (.int (nI i)), none, none] [] := by
    intro I f hf hf1 hok
    subst hf1
    have lp : ∀ (k i : Nat) (acc : Int32), i + k = nP → acc = smS (a1 102) (elS (a1 102) (nI f)) i → G E 0 0 ad dm a1 b r 19 [some (.ref (ad 100)), some (.int (nI f)), some (.int acc), some (.int (nI i)), none, none] [] := by
      intro k
      induction k with
      | zero =>
        intro i acc hi hacc
        refine g_iload_3 (q := 20) C dX4_leave_19 rfl ?_
        refine g_aload_0 (q := 21) C dX4_leave_20 rfl ?_
        refine g_geti (q := 24) C f_X4_63 dX4_leave_21 rfl rfl (IM.d I _ (by decide) (by decide)) ?_
        refine g_icmp_ge (tgt := 70) (q := 27) C dX4_leave_24 rfl (by decide) (fun c_24 => ?_) (fun c_24 => absurd (by rw [I.nP]; exact nI_le (by omega) (by omega)) c_24)
        have hacc2 : acc = smS (a1 102) (elS (a1 102) (nI f)) nP := by rw [hacc, show i = nP by omega]
        refine g_iload_2 (q := 71) C dX4_leave_70 rfl ?_
        refine g_aload_0 (q := 72) C dX4_leave_71 rfl ?_
        refine g_iload_1 (q := 73) C dX4_leave_72 rfl ?_
        refine g_cv1i (q := 76) C cv_X4_86 dX4_leave_73 rfl rfl (IM.d I _ (by decide) (by decide)) (m_X4_over I (by assumption) rfl) (by decide) (Nat.le_of_ble_eq_true rfl) ⟨Nat.zero_le _, Nat.zero_le _⟩ ?_
        refine g_icmp_ge (tgt := 82) (q := 79) C dX4_leave_76 rfl (by decide) (fun c_76 => ?_) (fun c_76 => ?_)
        · refine g_iconst (v := 0) (q := 83) C dX4_leave_82 rfl (by decide) ?_
          refine g_istore_3 (q := 84) C dX4_leave_83 rfl (by rw [hN]; decide) rfl ?_
          have h2 : ¬ smS (a1 102) (elS (a1 102) (nI f)) nP < ovS (a1 101) (a1 102) nP f := by rw [← hacc2]; exact Int32.not_lt.mpr c_76
          have h3 := lv_loop (r := r) (b := b) (ad := ad) C hN RT9 I F hf (cv := acc) nP (a1 102) 0 none none W (by
            have ho := ovN_le (fl := a1 101) W (f := f)
            have hs := sN_le W (elS (a1 102) (nI f)) (Nat.le_refl nP)
            rw [smS_N W _ (Nat.le_refl _), ovS_N W F hnP hf, nI_ltI (by omega) (by omega)] at h2
            omega) (ctS_le _ _) ⟨rfl, rfl, rfl, rfl, by rw [lvP, if_pos (by rw [lvK, hok, cN_nI (by omega)]; simpa using h2), cN_nI (by omega)], by rw [lvV, if_pos hok, cN_nI (by omega), if_neg h2]⟩
          rw [up1_id] at h3
          exact h3
        · refine g_bipush (v := (-2)) (q := 81) C dX4_leave_79 rfl (by decide) ?_
          exact g_iret C RT9 dX4_leave_81 ⟨rfl, rfl, rfl, rfl, by rw [lvP, if_neg (by rw [lvK, cN_nI (by omega), ← hacc2]; simp [Int32.not_le.mp c_76]), up1_id], by rw [lvV, if_pos hok, cN_nI (by omega), if_pos (by rw [← hacc2]; exact Int32.not_le.mp c_76)]⟩
      | succ k ih =>
        intro i acc hi hacc
        have hip : i < nP := by omega
        refine g_iload_3 (q := 20) C dX4_leave_19 rfl ?_
        refine g_aload_0 (q := 21) C dX4_leave_20 rfl ?_
        refine g_geti (q := 24) C f_X4_63 dX4_leave_21 rfl rfl (IM.d I _ (by decide) (by decide)) ?_
        refine g_icmp_ge (tgt := 70) (q := 27) C dX4_leave_24 rfl (by decide) (fun c_24 => absurd c_24 (by rw [I.nP]; exact nI_ge (by omega) (by omega))) (fun c_24 => ?_)
        refine g_aload_0 (q := 28) C dX4_leave_27 rfl ?_
        refine g_iload_3 (q := 29) C dX4_leave_28 rfl ?_
        refine g_iconst (v := 0) (q := 30) C dX4_leave_29 rfl (by decide) ?_
        refine g_cv2i (q := 33) C cv_X4_70 dX4_leave_30 rfl rfl (IM.d I _ (by decide) (by decide)) (m_X4_get0 I (by omega) rfl) (by decide) (Nat.le_of_ble_eq_true rfl) ⟨Nat.zero_le _, Nat.zero_le _⟩ ?_
        refine g_iload_1 (q := 34) C dX4_leave_33 rfl ?_
        refine g_icmp_ne (tgt := 64) (q := 37) C dX4_leave_34 rfl (by decide) (fun c_34 => ?_) (fun c_34 => ?_)
        · refine g_iinc_3 (v := nI (i + 1)) (q := 67) C dX4_leave_64 rfl (by rw [hN]; decide) (nI_1 i) ?_
          refine g_goto (tgt := 19) C dX4_leave_67 (by decide) ?_
          exact ih (i + 1) _ (by omega) (by first | (simp [smS, elS, hacc, c_34, c_43, c_52]; done) | (simp [smS, elS, hacc, c_34, c_43]; done) | (simp [smS, elS, hacc, c_34]; done))
        · refine g_aload_0 (q := 38) C dX4_leave_37 rfl ?_
          refine g_iload_3 (q := 39) C dX4_leave_38 rfl ?_
          refine g_iconst (v := 5) (q := 40) C dX4_leave_39 rfl (by decide) ?_
          refine g_cv2i (q := 43) C cv_X4_70 dX4_leave_40 rfl rfl (IM.d I _ (by decide) (by decide)) (m_X4_get I (k := 5) (by omega) rfl rfl) (by decide) (Nat.le_of_ble_eq_true rfl) ⟨Nat.zero_le _, Nat.zero_le _⟩ ?_
          refine g_if_ne (tgt := 64) (q := 46) C dX4_leave_43 rfl (by decide) (fun c_43 => ?_) (fun c_43 => ?_)
          · refine g_iinc_3 (v := nI (i + 1)) (q := 67) C dX4_leave_64 rfl (by rw [hN]; decide) (nI_1 i) ?_
            refine g_goto (tgt := 19) C dX4_leave_67 (by decide) ?_
            exact ih (i + 1) _ (by omega) (by first | (simp [smS, elS, hacc, c_34, c_43, c_52]; done) | (simp [smS, elS, hacc, c_34, c_43]; done) | (simp [smS, elS, hacc, c_34]; done))
          · refine g_aload_0 (q := 47) C dX4_leave_46 rfl ?_
            refine g_iload_3 (q := 48) C dX4_leave_47 rfl ?_
            refine g_iconst (v := 4) (q := 49) C dX4_leave_48 rfl (by decide) ?_
            refine g_cv2i (q := 52) C cv_X4_70 dX4_leave_49 rfl rfl (IM.d I _ (by decide) (by decide)) (m_X4_get I (k := 4) (by omega) rfl rfl) (by decide) (Nat.le_of_ble_eq_true rfl) ⟨Nat.zero_le _, Nat.zero_le _⟩ ?_
            refine g_if_ne (tgt := 64) (q := 55) C dX4_leave_52 rfl (by decide) (fun c_52 => ?_) (fun c_52 => ?_)
            · refine g_iinc_3 (v := nI (i + 1)) (q := 67) C dX4_leave_64 rfl (by rw [hN]; decide) (nI_1 i) ?_
              refine g_goto (tgt := 19) C dX4_leave_67 (by decide) ?_
              exact ih (i + 1) _ (by omega) (by first | (simp [smS, elS, hacc, c_34, c_43, c_52]; done) | (simp [smS, elS, hacc, c_34, c_43]; done) | (simp [smS, elS, hacc, c_34]; done))
            · refine g_iload_2 (q := 56) C dX4_leave_55 rfl ?_
              refine g_aload_0 (q := 57) C dX4_leave_56 rfl ?_
              refine g_iload_3 (q := 58) C dX4_leave_57 rfl ?_
              refine g_iconst (v := 1) (q := 59) C dX4_leave_58 rfl (by decide) ?_
              refine g_cv2i (q := 62) C cv_X4_70 dX4_leave_59 rfl rfl (IM.d I _ (by decide) (by decide)) (m_X4_get I (k := 1) (by omega) rfl rfl) (by decide) (Nat.le_of_ble_eq_true rfl) ⟨Nat.zero_le _, Nat.zero_le _⟩ ?_
              refine g_iadd (q := 63) C dX4_leave_62 rfl ?_
              refine g_istore_2 (q := 64) C dX4_leave_63 rfl (by rw [hN]; decide) rfl ?_
              refine g_iinc_3 (v := nI (i + 1)) (q := 67) C dX4_leave_64 rfl (by rw [hN]; decide) (nI_1 i) ?_
              refine g_goto (tgt := 19) C dX4_leave_67 (by decide) ?_
              exact ih (i + 1) _ (by omega) (by first | (simp [smS, elS, hacc, c_34, c_43, c_52]; done) | (simp [smS, elS, hacc, c_34, c_43]; done) | (simp [smS, elS, hacc, c_34]; done))
    exact lp
  refine g_aload_0 (q := 1) C dX4_leave_0 rfl ?_
  refine g_iconst (v := 0) (q := 2) C dX4_leave_1 rfl (by decide) ?_
  refine g_puti (q := 5) C p_X4_52 dX4_leave_2 rfl rfl (IM.d I _ (by decide) (by decide)) rfl rfl ?_
  rw [← ha]
  have I : IM dm a1 nF nP := by rw [ha]; exact I.th
  refine g_aload_0 (q := 6) C dX4_leave_5 rfl ?_
  refine g_iload_1 (q := 7) C dX4_leave_6 rfl ?_
  refine g_cv1i (q := 10) C cv_X4_66 dX4_leave_7 rfl rfl (IM.d I _ (by decide) (by decide)) (m_X4_isFlight I _) (by decide) (Nat.le_of_ble_eq_true rfl) ⟨Nat.zero_le _, Nat.zero_le _⟩ ?_
  refine g_ifneb (tgt := 15) (q := 13) C dX4_leave_10 rfl (by decide) (fun c_10 => ?_) (fun c_10 => ?_)
  · obtain ⟨f, hf, ef⟩ := fok_t c_10 (by omega)
    refine g_iconst (v := 0) (q := 16) C dX4_leave_15 rfl (by decide) ?_
    refine g_istore_2 (q := 17) C dX4_leave_16 rfl (by rw [hN]; decide) rfl ?_
    refine g_iconst (v := 0) (q := 18) C dX4_leave_17 rfl (by decide) ?_
    refine g_istore_3 (q := 19) C dX4_leave_18 rfl (by rw [hN]; decide) rfl ?_
    exact l1 I f hf ef c_10 nP 0 0 (by omega) rfl
  · refine g_iconst (v := (-1)) (q := 14) C dX4_leave_13 rfl (by decide) ?_
    exact g_iret C RT9 dX4_leave_14 ⟨rfl, rfl, rfl, rfl, by rw [lvP, if_neg (by simp [lvK, c_10]), up1_id], by rw [lvV, if_neg (by rw [c_10]; decide)]⟩

theorem el_fy {f : Int32} {p : Nat} : elS pa f p = (decide (pa (9 * p + 4) = 0) && fyS pa f p) := by
  unfold elS fyS
  rw [Bool.and_comm (decide (pa (9 * p) = f)), Bool.and_comm]
set_option maxHeartbeats 4000000 in
set_option maxRecDepth 100000 in
theorem m_X3_leavablePeople (X : XR nF nP fl pa nu dm a r) {f : Nat} (hf : f < nF) : MT g bs l yX3_leavablePeople cX3_leavablePeople 4 (some .int) 1 0 0 [.ref (ad 0), .ref (ad (20 + f))] ad dm a b r (PX (some (.int (smS pa (elS pa (nI f)) nP))) ad dm a b r) := by
  refine mt_of (by decide) [some (.ref (ad 0)), some (.ref (ad (20 + f))), none, none] rfl (Nat.le_of_ble_eq_true rfl) ?_
  intro E hg hbs hl hN C RT9 hcells hslots hname
  have I := X.1
  have hnF := I.1
  have hnP := I.2.1
  have lp : ∀ (k i : Nat) (acc : Int32), i + k = nP → acc = smS pa (elS pa (nI f)) i → G E 0 0 ad dm a b r 4 [some (.ref (ad 0)), some (.ref (ad (20 + f))), some (.int acc), some (.int (nI i))] [] := by
    intro k
    induction k with
    | zero =>
      intro i acc  hi hacc
      refine g_iload_3 (q := 5) C dX3_leavablePeople_4 rfl ?_
      refine g_aload_0 (q := 6) C dX3_leavablePeople_5 rfl ?_
      refine g_geti (q := 9) C f_X3_40 dX3_leavablePeople_6 rfl rfl (IX.d0 I _ (by decide)) ?_
      refine g_icmp_ge (tgt := 55) (q := 12) C dX3_leavablePeople_9 rfl (by decide) (fun c_9 => ?_) (fun c_9 => absurd (by rw [X.nP]; exact nI_le (by omega) (by omega)) c_9)
      refine g_iload_2 (q := 56) C dX3_leavablePeople_55 rfl ?_
      exact g_iret C RT9 dX3_leavablePeople_56 (pxi (by rw [hacc, show i = nP by omega]))
    | succ k ih =>
      intro i acc  hi hacc
      have hip : i < nP := by omega
      obtain ⟨o, ho, ro, eo, e1, e2, e3, e4, e5, e6, w7, w8⟩ := X.pt hip
      have hel : elS pa (nI f) i = (decide (a (30 + i) 4 = 0) && fyS pa (nI f) i) := by rw [← e4]; exact el_fy
      refine g_iload_3 (q := 5) C dX3_leavablePeople_4 rfl ?_
      refine g_aload_0 (q := 6) C dX3_leavablePeople_5 rfl ?_
      refine g_geti (q := 9) C f_X3_40 dX3_leavablePeople_6 rfl rfl (IX.d0 I _ (by decide)) ?_
      refine g_icmp_ge (tgt := 55) (q := 12) C dX3_leavablePeople_9 rfl (by decide) (fun c_9 => absurd c_9 (by rw [X.nP]; exact nI_ge (by omega) (by omega))) (fun c_9 => ?_)
      refine g_aload_0 (q := 13) C dX3_leavablePeople_12 rfl ?_
      refine g_getc (q := 16) (m := 2) C f_X3_17 dX3_leavablePeople_13 rfl rfl (IX.d0 I _ (by decide)) ?_
      refine g_iload_3 (q := 17) C dX3_leavablePeople_16 rfl ?_
      refine g_aaP (q := 18) C dX3_leavablePeople_17 rfl rfl (IX.d0 I _ (by decide)) rfl (by omega) (by decide) (XR.rp X (by assumption)) ?_
      refine g_geti (q := 21) C f_X3_227 dX3_leavablePeople_18 rfl (IX.lp I (by assumption)) (IX.dp I (by assumption)) ?_
      refine g_if_ne (tgt := 49) (q := 24) C dX3_leavablePeople_21 rfl (by decide) (fun c_21 => ?_) (fun c_21 => ?_)
      · refine g_iinc_3 (v := nI (i + 1)) (q := 52) C dX3_leavablePeople_49 rfl (by rw [hN]; decide) (nI_1 i) ?_
        refine g_goto (tgt := 4) C dX3_leavablePeople_52 (by decide) ?_
        exact ih (i + 1) _  (by omega) (by first | (simp [smS, hel, hacc, e1, c_21, c_34]; done) | (simp [smS, hel, hacc, c_21]; done))
      · refine g_aload_0 (q := 25) C dX3_leavablePeople_24 rfl ?_
        refine g_getc (q := 28) (m := 2) C f_X3_17 dX3_leavablePeople_25 rfl rfl (IX.d0 I _ (by decide)) ?_
        refine g_iload_3 (q := 29) C dX3_leavablePeople_28 rfl ?_
        refine g_aaP (q := 30) C dX3_leavablePeople_29 rfl rfl (IX.d0 I _ (by decide)) rfl (by omega) (by decide) (XR.rp X (by assumption)) ?_
        refine g_aload_1 (q := 31) C dX3_leavablePeople_30 rfl ?_
        refine g_cv1i (q := 34) C cv_X3_218 dX3_leavablePeople_31 rfl (IX.lp I (by assumption)) (IX.dp I (by assumption)) (m_X2_fliesOn X (by assumption) (by assumption)) (by decide) (Nat.le_of_ble_eq_true rfl) ⟨Nat.zero_le _, Nat.zero_le _⟩ ?_
        refine g_ifeqb (tgt := 49) (q := 37) C dX3_leavablePeople_34 rfl (by decide) (fun c_34 => ?_) (fun c_34 => ?_)
        · refine g_iinc_3 (v := nI (i + 1)) (q := 52) C dX3_leavablePeople_49 rfl (by rw [hN]; decide) (nI_1 i) ?_
          refine g_goto (tgt := 4) C dX3_leavablePeople_52 (by decide) ?_
          exact ih (i + 1) _  (by omega) (by first | (simp [smS, hel, hacc, e1, c_21, c_34]; done) | (simp [smS, hel, hacc, c_21]; done))
        · refine g_iload_2 (q := 38) C dX3_leavablePeople_37 rfl ?_
          refine g_aload_0 (q := 39) C dX3_leavablePeople_38 rfl ?_
          refine g_getc (q := 42) (m := 2) C f_X3_17 dX3_leavablePeople_39 rfl rfl (IX.d0 I _ (by decide)) ?_
          refine g_iload_3 (q := 43) C dX3_leavablePeople_42 rfl ?_
          refine g_aaP (q := 44) C dX3_leavablePeople_43 rfl rfl (IX.d0 I _ (by decide)) rfl (by omega) (by decide) (XR.rp X (by assumption)) ?_
          refine g_geti (q := 47) C f_X3_102 dX3_leavablePeople_44 rfl (IX.lp I (by assumption)) (IX.dp I (by assumption)) ?_
          refine g_iadd (q := 48) C dX3_leavablePeople_47 rfl ?_
          refine g_istore_2 (q := 49) C dX3_leavablePeople_48 rfl (by rw [hN]; decide) rfl ?_
          refine g_iinc_3 (v := nI (i + 1)) (q := 52) C dX3_leavablePeople_49 rfl (by rw [hN]; decide) (nI_1 i) ?_
          refine g_goto (tgt := 4) C dX3_leavablePeople_52 (by decide) ?_
          exact ih (i + 1) _  (by omega) (by first | (simp [smS, hel, hacc, e1, c_21, c_34]; done) | (simp [smS, hel, hacc, c_21]; done))
  refine g_iconst (v := 0) (q := 1) C dX3_leavablePeople_0 rfl (by decide) ?_
  refine g_istore_2 (q := 2) C dX3_leavablePeople_1 rfl (by rw [hN]; decide) rfl ?_
  refine g_iconst (v := 0) (q := 3) C dX3_leavablePeople_2 rfl (by decide) ?_
  refine g_istore_3 (q := 4) C dX3_leavablePeople_3 rfl (by rw [hN]; decide) rfl ?_
  exact lp nP 0 0 (by omega) rfl

theorem isB_dn {f : Int32} {i n q : Nat} (h : isB pa f (i + 1) n (some q)) (hi : i < n) (c : elS pa f i = false ∨ ¬ pa (9 * i + 2) < pa (9 * q + 2)) : isB pa f i n (some q) := by
  obtain ⟨h1, h2, h3, h4⟩ := h
  refine ⟨by omega, h2, h3, fun p p1 p2 p3 => ?_⟩
  by_cases e : p = i
  · subst e
    rcases c with c | c
    · rw [c] at p3; cases p3
    · rw [i_lt] at c
      simp only [i_lt, i_eq]
      omega
  · exact h4 p (by omega) p2 p3
theorem isB_dt {f : Int32} {i n q : Nat} (h : isB pa f (i + 1) n (some q)) (hi : i < n) (c : elS pa f i = true) (c2 : pa (9 * i + 2) < pa (9 * q + 2)) : isB pa f i n (some i) := by
  obtain ⟨h1, h2, h3, h4⟩ := h
  refine ⟨by omega, hi, c, fun p p1 p2 p3 => ?_⟩
  by_cases e : p = i
  · subst e; exact Or.inr ⟨rfl, Nat.le_refl _⟩
  · have h5 := h4 p (by omega) p2 p3
    rw [i_lt] at c2
    simp only [i_lt, i_eq] at h5 ⊢
    omega
theorem isB_nn {f : Int32} {i n : Nat} (h : isB pa f (i + 1) n none) (hi : i < n) (c : elS pa f i = false) : isB pa f i n none := by
  intro p p1 p2
  by_cases e : p = i
  · subst e; exact c
  · exact h p (by omega) p2
theorem isB_nt {f : Int32} {i n : Nat} (h : isB pa f (i + 1) n none) (hi : i < n) (c : elS pa f i = true) : isB pa f i n (some i) := by
  refine ⟨by omega, hi, c, fun p p1 p2 p3 => ?_⟩
  by_cases e : p = i
  · subst e; exact Or.inr ⟨rfl, Nat.le_refl _⟩
  · have := h p (by omega) p2
    rw [p3] at this; cases this
def rfO (ad : Nat → Nat) : Option Nat → Value
  | none => .null
  | some q => .ref (ad (30 + q))
set_option maxHeartbeats 4000000 in
set_option maxRecDepth 100000 in
theorem m_X3_nextToLeave (X : XR nF nP fl pa nu dm a r) {f : Nat} (hf : f < nF) : MT g bs l yX3_nextToLeave cX3_nextToLeave 5 (some (.object "TooMany$Party")) 1 0 0 [.ref (ad 0), .ref (ad (20 + f))] ad dm a b r (PX (some (rfO ad (nlS pa (nI f) nP))) ad dm a b r) := by
  refine mt_of (by decide) [some (.ref (ad 0)), some (.ref (ad (20 + f))), none, none, none] rfl (Nat.le_of_ble_eq_true rfl) ?_
  intro E hg hbs hl hN C RT9 hcells hslots hname
  have I := X.1
  have hnF := I.1
  have hnP := I.2.1
  have lp : ∀ (i : Nat) (x : Option Nat), i ≤ nP → ∀ (e4 : Option Value) (iv : Int32), iv = nI i - 1 → isB pa (nI f) i nP x → G E 0 0 ad dm a b r 9 [some (.ref (ad 0)), some (.ref (ad (20 + f))), some (rfO ad x), some (.int iv), e4] [] := by
    intro i
    induction i with
    | zero =>
      intro x hi e4 iv hiv hB
      subst hiv
      have hx : nlS pa (nI f) nP = x := isB_one nlS_B hB
      cases x with
      | none =>
        show G E 0 0 ad dm a b r 9 [some (.ref (ad 0)), some (.ref (ad (20 + f))), some .null, some (.int (nI 0 - 1)), e4] []
        refine g_iload_3 (q := 10) C dX3_nextToLeave_9 rfl ?_
        refine g_if_lt (tgt := 63) (q := 13) C dX3_nextToLeave_10 rfl (by decide) (fun c_10 => ?_) (fun c_10 => absurd (by decide) c_10)
        refine g_aload_2N (q := 64) C dX3_nextToLeave_63 rfl ?_
        exact g_aret C RT9 dX3_nextToLeave_64 (Or.inl rfl) (px (by rw [hx]; rfl))
      | some q =>
        show G E 0 0 ad dm a b r 9 [some (.ref (ad 0)), some (.ref (ad (20 + f))), some (.ref (ad (30 + q))), some (.int (nI 0 - 1)), e4] []
        refine g_iload_3 (q := 10) C dX3_nextToLeave_9 rfl ?_
        refine g_if_lt (tgt := 63) (q := 13) C dX3_nextToLeave_10 rfl (by decide) (fun c_10 => ?_) (fun c_10 => absurd (by decide) c_10)
        refine g_aload_2 (q := 64) C dX3_nextToLeave_63 rfl ?_
        exact g_aret C RT9 dX3_nextToLeave_64 (Or.inr ⟨_, rfl⟩) (px (by rw [hx]; rfl))
    | succ i ih =>
      intro x hi e4 iv hiv hB
      rw [nI_pred] at hiv
      subst hiv
      have hip : i < nP := by omega
      obtain ⟨o, ho, ro, eo, e1, e2, e3, e4x, e5, e6, w7, w8⟩ := X.pt hip
      have hel : elS pa (nI f) i = (decide (a (30 + i) 4 = 0) && fyS pa (nI f) i) := by rw [← e4x]; exact el_fy
      have hel1 : ¬ a (30 + i) 4 = 0 → elS pa (nI f) i = false := fun h => by rw [hel]; simp [h]
      have hel2 : fyS pa (nI f) i = false → elS pa (nI f) i = false := fun h => by rw [hel]; simp [h]
      have hel3 : a (30 + i) 4 = 0 → fyS pa (nI f) i = true → elS pa (nI f) i = true := fun h h2 => by rw [hel]; simp [h, h2]
      cases x with
      | none =>
        show G E 0 0 ad dm a b r 9 [some (.ref (ad 0)), some (.ref (ad (20 + f))), some .null, some (.int (nI i)), e4] []
        refine g_iload_3 (q := 10) C dX3_nextToLeave_9 rfl ?_
        refine g_if_lt (tgt := 63) (q := 13) C dX3_nextToLeave_10 rfl (by decide) (fun c_10 => absurd c_10 (nI_pos (by omega))) (fun c_10 => ?_)
        refine g_aload_0 (q := 14) C dX3_nextToLeave_13 rfl ?_
        refine g_getc (q := 17) (m := 2) C f_X3_17 dX3_nextToLeave_14 rfl rfl (IX.d0 I _ (by decide)) ?_
        refine g_iload_3 (q := 18) C dX3_nextToLeave_17 rfl ?_
        refine g_aaP (q := 19) C dX3_nextToLeave_18 rfl rfl (IX.d0 I _ (by decide)) rfl (by omega) (by decide) (XR.rp X (by assumption)) ?_
        refine g_astore_4 (q := 21) C dX3_nextToLeave_19 rfl (by rw [hN]; decide) rfl ?_
        refine g_aload_4 (q := 23) C dX3_nextToLeave_21 rfl ?_
        refine g_geti (q := 26) C f_X3_227 dX3_nextToLeave_23 rfl (IX.lp I (by assumption)) (IX.dp I (by assumption)) ?_
        refine g_if_ne (tgt := 57) (q := 29) C dX3_nextToLeave_26 rfl (by decide) (fun c_26 => ?_) (fun c_26 => ?_)
        · refine g_iinc_3 (v := (nI i - 1)) (q := 60) C dX3_nextToLeave_57 rfl (by rw [hN]; decide) (i_dec _) ?_
          refine g_goto (tgt := 9) C dX3_nextToLeave_60 (by decide) ?_
          first | exact ih none (by omega) _ _ rfl (isB_nn hB hip (hel1 c_26)) | exact ih none (by omega) _ _ rfl (isB_nn hB hip (hel2 c_35)) | exact ih (some i) (by omega) _ _ rfl (isB_nt hB hip (hel3 c_26 c_35))
        · refine g_aload_4 (q := 31) C dX3_nextToLeave_29 rfl ?_
          refine g_aload_1 (q := 32) C dX3_nextToLeave_31 rfl ?_
          refine g_cv1i (q := 35) C cv_X3_218 dX3_nextToLeave_32 rfl (IX.lp I (by assumption)) (IX.dp I (by assumption)) (m_X2_fliesOn X (by assumption) (by assumption)) (by decide) (Nat.le_of_ble_eq_true rfl) ⟨Nat.zero_le _, Nat.zero_le _⟩ ?_
          refine g_ifeqb (tgt := 57) (q := 38) C dX3_nextToLeave_35 rfl (by decide) (fun c_35 => ?_) (fun c_35 => ?_)
          · refine g_iinc_3 (v := (nI i - 1)) (q := 60) C dX3_nextToLeave_57 rfl (by rw [hN]; decide) (i_dec _) ?_
            refine g_goto (tgt := 9) C dX3_nextToLeave_60 (by decide) ?_
            first | exact ih none (by omega) _ _ rfl (isB_nn hB hip (hel1 c_26)) | exact ih none (by omega) _ _ rfl (isB_nn hB hip (hel2 c_35)) | exact ih (some i) (by omega) _ _ rfl (isB_nt hB hip (hel3 c_26 c_35))
          · refine g_aload_2N (q := 39) C dX3_nextToLeave_38 rfl ?_
            refine g_ifnullN (tgt := 54) C dX3_nextToLeave_39 (by decide) ?_
            refine g_aload_4 (q := 56) C dX3_nextToLeave_54 rfl ?_
            refine g_astore_2 (q := 57) C dX3_nextToLeave_56 rfl (by rw [hN]; decide) rfl ?_
            refine g_iinc_3 (v := (nI i - 1)) (q := 60) C dX3_nextToLeave_57 rfl (by rw [hN]; decide) (i_dec _) ?_
            refine g_goto (tgt := 9) C dX3_nextToLeave_60 (by decide) ?_
            first | exact ih none (by omega) _ _ rfl (isB_nn hB hip (hel1 c_26)) | exact ih none (by omega) _ _ rfl (isB_nn hB hip (hel2 c_35)) | exact ih (some i) (by omega) _ _ rfl (isB_nt hB hip (hel3 c_26 c_35))
      | some q =>
        have hq : q < nP := hB.2.1
        have eq2 : pa (9 * q + 2) = a (30 + q) 2 := (X.2.2.2.2.2.2 q hq).2.2.1 2 (by decide) (by decide) ▸ rfl
        show G E 0 0 ad dm a b r 9 [some (.ref (ad 0)), some (.ref (ad (20 + f))), some (.ref (ad (30 + q))), some (.int (nI i)), e4] []
        refine g_iload_3 (q := 10) C dX3_nextToLeave_9 rfl ?_
        refine g_if_lt (tgt := 63) (q := 13) C dX3_nextToLeave_10 rfl (by decide) (fun c_10 => absurd c_10 (nI_pos (by omega))) (fun c_10 => ?_)
        refine g_aload_0 (q := 14) C dX3_nextToLeave_13 rfl ?_
        refine g_getc (q := 17) (m := 2) C f_X3_17 dX3_nextToLeave_14 rfl rfl (IX.d0 I _ (by decide)) ?_
        refine g_iload_3 (q := 18) C dX3_nextToLeave_17 rfl ?_
        refine g_aaP (q := 19) C dX3_nextToLeave_18 rfl rfl (IX.d0 I _ (by decide)) rfl (by omega) (by decide) (XR.rp X (by assumption)) ?_
        refine g_astore_4 (q := 21) C dX3_nextToLeave_19 rfl (by rw [hN]; decide) rfl ?_
        refine g_aload_4 (q := 23) C dX3_nextToLeave_21 rfl ?_
        refine g_geti (q := 26) C f_X3_227 dX3_nextToLeave_23 rfl (IX.lp I (by assumption)) (IX.dp I (by assumption)) ?_
        refine g_if_ne (tgt := 57) (q := 29) C dX3_nextToLeave_26 rfl (by decide) (fun c_26 => ?_) (fun c_26 => ?_)
        · refine g_iinc_3 (v := (nI i - 1)) (q := 60) C dX3_nextToLeave_57 rfl (by rw [hN]; decide) (i_dec _) ?_
          refine g_goto (tgt := 9) C dX3_nextToLeave_60 (by decide) ?_
          first | exact ih (some q) (by omega) _ _ rfl (isB_dn hB hip (Or.inl (hel1 c_26))) | exact ih (some q) (by omega) _ _ rfl (isB_dn hB hip (Or.inl (hel2 c_35))) | exact ih (some q) (by omega) _ _ rfl (isB_dn hB hip (Or.inr (by rw [e2, eq2]; exact Int32.not_lt.mpr c_51))) | exact ih (some i) (by omega) _ _ rfl (isB_dt hB hip (hel3 c_26 c_35) (by rw [e2, eq2]; exact Int32.not_le.mp c_51))
        · refine g_aload_4 (q := 31) C dX3_nextToLeave_29 rfl ?_
          refine g_aload_1 (q := 32) C dX3_nextToLeave_31 rfl ?_
          refine g_cv1i (q := 35) C cv_X3_218 dX3_nextToLeave_32 rfl (IX.lp I (by assumption)) (IX.dp I (by assumption)) (m_X2_fliesOn X (by assumption) (by assumption)) (by decide) (Nat.le_of_ble_eq_true rfl) ⟨Nat.zero_le _, Nat.zero_le _⟩ ?_
          refine g_ifeqb (tgt := 57) (q := 38) C dX3_nextToLeave_35 rfl (by decide) (fun c_35 => ?_) (fun c_35 => ?_)
          · refine g_iinc_3 (v := (nI i - 1)) (q := 60) C dX3_nextToLeave_57 rfl (by rw [hN]; decide) (i_dec _) ?_
            refine g_goto (tgt := 9) C dX3_nextToLeave_60 (by decide) ?_
            first | exact ih (some q) (by omega) _ _ rfl (isB_dn hB hip (Or.inl (hel1 c_26))) | exact ih (some q) (by omega) _ _ rfl (isB_dn hB hip (Or.inl (hel2 c_35))) | exact ih (some q) (by omega) _ _ rfl (isB_dn hB hip (Or.inr (by rw [e2, eq2]; exact Int32.not_lt.mpr c_51))) | exact ih (some i) (by omega) _ _ rfl (isB_dt hB hip (hel3 c_26 c_35) (by rw [e2, eq2]; exact Int32.not_le.mp c_51))
          · refine g_aload_2 (q := 39) C dX3_nextToLeave_38 rfl ?_
            refine g_ifnull (q := 42) C dX3_nextToLeave_39 rfl ?_
            refine g_aload_4 (q := 44) C dX3_nextToLeave_42 rfl ?_
            refine g_geti (q := 47) C f_X3_252 dX3_nextToLeave_44 rfl (IX.lp I (by assumption)) (IX.dp I (by assumption)) ?_
            refine g_aload_2 (q := 48) C dX3_nextToLeave_47 rfl ?_
            refine g_geti (q := 51) C f_X3_252 dX3_nextToLeave_48 rfl (IX.lp I (by assumption)) (IX.dp I (by assumption)) ?_
            refine g_icmp_ge (tgt := 57) (q := 54) C dX3_nextToLeave_51 rfl (by decide) (fun c_51 => ?_) (fun c_51 => ?_)
            · refine g_iinc_3 (v := (nI i - 1)) (q := 60) C dX3_nextToLeave_57 rfl (by rw [hN]; decide) (i_dec _) ?_
              refine g_goto (tgt := 9) C dX3_nextToLeave_60 (by decide) ?_
              first | exact ih (some q) (by omega) _ _ rfl (isB_dn hB hip (Or.inl (hel1 c_26))) | exact ih (some q) (by omega) _ _ rfl (isB_dn hB hip (Or.inl (hel2 c_35))) | exact ih (some q) (by omega) _ _ rfl (isB_dn hB hip (Or.inr (by rw [e2, eq2]; exact Int32.not_lt.mpr c_51))) | exact ih (some i) (by omega) _ _ rfl (isB_dt hB hip (hel3 c_26 c_35) (by rw [e2, eq2]; exact Int32.not_le.mp c_51))
            · refine g_aload_4 (q := 56) C dX3_nextToLeave_54 rfl ?_
              refine g_astore_2 (q := 57) C dX3_nextToLeave_56 rfl (by rw [hN]; decide) rfl ?_
              refine g_iinc_3 (v := (nI i - 1)) (q := 60) C dX3_nextToLeave_57 rfl (by rw [hN]; decide) (i_dec _) ?_
              refine g_goto (tgt := 9) C dX3_nextToLeave_60 (by decide) ?_
              first | exact ih (some q) (by omega) _ _ rfl (isB_dn hB hip (Or.inl (hel1 c_26))) | exact ih (some q) (by omega) _ _ rfl (isB_dn hB hip (Or.inl (hel2 c_35))) | exact ih (some q) (by omega) _ _ rfl (isB_dn hB hip (Or.inr (by rw [e2, eq2]; exact Int32.not_lt.mpr c_51))) | exact ih (some i) (by omega) _ _ rfl (isB_dt hB hip (hel3 c_26 c_35) (by rw [e2, eq2]; exact Int32.not_le.mp c_51))
  refine g_null (q := 1) C dX3_nextToLeave_0 rfl ?_
  refine g_astore_2N (q := 2) C dX3_nextToLeave_1 rfl (by rw [hN]; decide) rfl ?_
  refine g_aload_0 (q := 3) C dX3_nextToLeave_2 rfl ?_
  refine g_geti (q := 6) C f_X3_40 dX3_nextToLeave_3 rfl rfl (IX.d0 I _ (by decide)) ?_
  refine g_iconst (v := 1) (q := 7) C dX3_nextToLeave_6 rfl (by decide) ?_
  refine g_isub (q := 8) C dX3_nextToLeave_7 rfl ?_
  refine g_istore_3 (q := 9) C dX3_nextToLeave_8 rfl (by rw [hN]; decide) rfl ?_
  exact lp nP none (Nat.le_refl _) _ _ (by rw [X.nP]) (fun p h1 h2 => by omega)

end L22
