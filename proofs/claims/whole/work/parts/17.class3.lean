section X17
variable {g : GM} {bs : Nat} {l : Launch} {ad : Nat → Nat} {dm : Nat → Bool} {a : Nat → Nat → Int32} {b : Nat → Nat → Int64} {r : Nat → Nat → Option Nat} {nF nP : Nat} {fl pa nu : Nat → Int32}
theorem of_0 (X : XR nF nP fl pa nu dm a r) {f : Nat} (hf : f < nF) (c : a (20 + f) 7 = 0) : fl (7 * f + 6) = 0 := by
  rw [← c]
  exact (X.fk (k := 6) hf (by decide)).symm
theorem of_1 (X : XR nF nP fl pa nu dm a r) (F : WF nF fl) {f : Nat} (hf : f < nF) (c : ¬ a (20 + f) 7 = 0) : fl (7 * f + 6) = 1 := (F f hf).2.2.2.2.2.2.resolve_left (fun e => c ((X.fk (k := 6) hf (by decide)).trans e))
theorem smS_cong {c d : Nat → Bool} : ∀ {n : Nat}, (∀ p, p < n → c p = d p) → smS pa c n = smS pa d n
  | 0, _ => rfl
  | n + 1, h => by
    unfold smS
    rw [h n (by omega), smS_cong (fun p hp => h p (by omega))]
theorem ctS_cong {c d : Nat → Bool} : ∀ {n : Nat}, (∀ p, p < n → c p = d p) → ctS c n = ctS d n
  | 0, _ => rfl
  | n + 1, h => by
    unfold ctS
    rw [h n (by omega), ctS_cong (fun p hp => h p (by omega))]
theorem st_pos {x : Int32} (h : x = 0 ∨ x = 1 ∨ x = 2) : (0 < x) ↔ ¬ x = 0 := by
  rcases h with h | h | h <;> subst h <;> decide
theorem cn5 (W : WP nF nP pa) {p : Nat} (hp : p < nP) : decide (pa (9 * p + 7) ≠ -1) = cnc fl pa 5 p := by
  obtain ⟨-, -, -, -, -, h5, -, -, -, h0, -⟩ := W p hp
  rw [cnc_5]
  by_cases h : pa (9 * p + 7) = -1
  · simp [h]
  · have h9 : ¬ pa (9 * p + 5) = 0 := fun e => h (h0 e).2.1
    simp [h, (st_pos h5).mpr h9]
theorem sd_st (W : WP nF nP pa) {p : Nat} (hp : p < nP) : sdS pa p = stc pa p := by
  obtain ⟨-, -, -, -, -, h5, -⟩ := W p hp
  unfold sdS stc
  by_cases h : pa (9 * p + 5) = 0
  · simp [h]
  · simp [h, (st_pos h5).mpr h]
set_option maxHeartbeats 4000000 in
set_option maxRecDepth 100000 in
theorem m_X3_told (X : XR nF nP fl pa nu dm a r) (W : WP nF nP pa) (F : WF nF fl) (f1 what : Int32) : MT g bs l yX3_told cX3_told 4 (some .int) 3 0 0 [.ref (ad 0), .int f1, .int what] ad dm a b r (PX (some (.int (tdS fl pa nF nP f1 what))) ad dm a b r) := by
  refine mt_of (by decide) [some (.ref (ad 0)), some (.int f1), some (.int what), none] rfl (Nat.le_of_ble_eq_true rfl) ?_
  intro E hg hbs hl hN C RT9 hcells hslots hname
  have I := X.1
  have hnF := I.1
  have hnP := I.2.1
  refine g_aload_0 (q := 1) C dX3_told_0 rfl ?_
  refine g_iload_1 (q := 2) C dX3_told_1 rfl ?_
  rcases hk : fok nF f1 with _ | _
  · refine g_cv1i (q := 5) C cv_X3_53 dX3_told_2 rfl rfl (IX.d0 I _ (by decide)) (m_X3_flightAt_n X hk) (by decide) (Nat.le_of_ble_eq_true rfl) ⟨Nat.zero_le _, Nat.zero_le _⟩ ?_
    refine g_astore_3N (q := 6) C dX3_told_5 rfl (by rw [hN]; decide) rfl ?_
    refine g_aload_3N (q := 7) C dX3_told_6 rfl ?_
    refine g_ifnonnullN (q := 10) C dX3_told_7 rfl ?_
    refine g_iconst (v := (-1)) (q := 11) C dX3_told_10 rfl (by decide) ?_
    exact g_iret C RT9 dX3_told_11 (pxi (by rw [tdS, if_neg (by rw [hk]; decide)]))
  · obtain ⟨f, hf, rfl⟩ := fok_t hk (by omega)
    refine g_cv1i (q := 5) C cv_X3_53 dX3_told_2 rfl rfl (IX.d0 I _ (by decide)) (m_X3_flightAt_y X hf) (by decide) (Nat.le_of_ble_eq_true rfl) ⟨Nat.zero_le _, Nat.zero_le _⟩ ?_
    refine g_astore_3 (q := 6) C dX3_told_5 rfl (by rw [hN]; decide) rfl ?_
    refine g_aload_3 (q := 7) C dX3_told_6 rfl ?_
    refine g_ifnonnull (tgt := 12) C dX3_told_7 (by decide) ?_
    refine g_iload_2 (q := 13) C dX3_told_12 rfl ?_
    by_cases sw_0 : what = 0
    · subst sw_0
      refine g_tableIn (tgt := 48) C dX3_told_13 (by decide) (by decide) rfl (by decide) ?_
      refine g_aload_0 (q := 49) C dX3_told_48 rfl ?_
      refine g_aload_3 (q := 50) C dX3_told_49 rfl ?_
      refine g_cv1i (q := 53) C cv_X3_68 dX3_told_50 rfl rfl (IX.d0 I _ (by decide)) (m_X3_loadOf X W (by assumption)) (by decide) (Nat.le_of_ble_eq_true rfl) ⟨Nat.zero_le _, Nat.zero_le _⟩ ?_
      exact g_iret C RT9 dX3_told_53 (pxi (by rw [tdS, if_pos hk]; rfl))
    by_cases sw_1 : what = 1
    · subst sw_1
      refine g_tableIn (tgt := 54) C dX3_told_13 (by decide) (by decide) rfl (by decide) ?_
      refine g_aload_0 (q := 55) C dX3_told_54 rfl ?_
      refine g_aload_3 (q := 56) C dX3_told_55 rfl ?_
      refine g_cv1i (q := 59) C cv_X3_72 dX3_told_56 rfl rfl (IX.d0 I _ (by decide)) (m_X3_overOf X W F (by assumption)) (by decide) (Nat.le_of_ble_eq_true rfl) ⟨Nat.zero_le _, Nat.zero_le _⟩ ?_
      exact g_iret C RT9 dX3_told_59 (pxi (by rw [tdS, if_pos hk]; rw [if_neg (by decide), if_pos rfl, cN_nI (by omega)]))
    by_cases sw_2 : what = 2
    · subst sw_2
      refine g_tableIn (tgt := 60) C dX3_told_13 (by decide) (by decide) rfl (by decide) ?_
      refine g_aload_3 (q := 61) C dX3_told_60 rfl ?_
      refine g_geti (q := 64) C f_X3_75 dX3_told_61 rfl (IX.lf I (by assumption)) (IX.df I (by assumption)) ?_
      exact g_iret C RT9 dX3_told_64 (pxi (by rw [tdS, if_pos hk]; rw [if_neg (by decide), if_neg (by decide), if_pos rfl, cN_nI (by omega)]; exact X.fk (k := 4) hf (by decide)))
    by_cases sw_3 : what = 3
    · subst sw_3
      refine g_tableIn (tgt := 65) C dX3_told_13 (by decide) (by decide) rfl (by decide) ?_
      refine g_aload_3 (q := 66) C dX3_told_65 rfl ?_
      refine g_geti (q := 69) C f_X3_57 dX3_told_66 rfl (IX.lf I (by assumption)) (IX.df I (by assumption)) ?_
      refine g_if_eq (tgt := 76) (q := 72) C dX3_told_69 rfl (by decide) (fun c_69 => ?_) (fun c_69 => ?_)
      · refine g_iconst (v := 0) (q := 77) C dX3_told_76 rfl (by decide) ?_
        exact g_iret C RT9 dX3_told_77 (pxi (by rw [tdS, if_pos hk]; rw [if_neg (by decide), if_neg (by decide), if_neg (by decide), if_pos rfl, cN_nI (by omega)]; first | exact (of_0 X hf c_69).symm | exact (of_1 X F hf c_69).symm))
      · refine g_iconst (v := 1) (q := 73) C dX3_told_72 rfl (by decide) ?_
        refine g_goto (tgt := 77) C dX3_told_73 (by decide) ?_
        exact g_iret C RT9 dX3_told_77 (pxi (by rw [tdS, if_pos hk]; rw [if_neg (by decide), if_neg (by decide), if_neg (by decide), if_pos rfl, cN_nI (by omega)]; first | exact (of_0 X hf c_69).symm | exact (of_1 X F hf c_69).symm))
    by_cases sw_4 : what = 4
    · subst sw_4
      refine g_tableIn (tgt := 78) C dX3_told_13 (by decide) (by decide) rfl (by decide) ?_
      refine g_aload_0 (q := 79) C dX3_told_78 rfl ?_
      refine g_aload_3 (q := 80) C dX3_told_79 rfl ?_
      refine g_cv1i (q := 83) C cv_X3_78 dX3_told_80 rfl rfl (IX.d0 I _ (by decide)) (m_X3_mustPeople X W (by assumption)) (by decide) (Nat.le_of_ble_eq_true rfl) ⟨Nat.zero_le _, Nat.zero_le _⟩ ?_
      exact g_iret C RT9 dX3_told_83 (pxi (by rw [tdS, if_pos hk]; rw [if_neg (by decide), if_neg (by decide), if_neg (by decide), if_neg (by decide), if_pos rfl]))
    refine g_tableOut (tgt := 84) C dX3_told_13 (sw_out5 sw_0 sw_1 sw_2 sw_3 sw_4) (by decide) ?_
    refine g_iconst (v := (-1)) (q := 85) C dX3_told_84 rfl (by decide) ?_
    exact g_iret C RT9 dX3_told_85 (pxi (by rw [tdS, if_pos hk]; rw [if_neg sw_0, if_neg sw_1, if_neg sw_2, if_neg sw_3, if_neg sw_4]))

set_option maxHeartbeats 4000000 in
set_option maxRecDepth 100000 in
theorem m_X3_count (X : XR nF nP fl pa nu dm a r) (W : WP nF nP pa) (what : Int32) : MT g bs l yX3_count cX3_count 2 (some .int) 5 0 0 [.ref (ad 0), .int what] ad dm a b r (PX (some (.int (cnS fl pa nu nF nP what))) ad dm a b r) := by
  refine mt_of (by decide) [some (.ref (ad 0)), some (.int what)] rfl (Nat.le_of_ble_eq_true rfl) ?_
  intro E hg hbs hl hN C RT9 hcells hslots hname
  have I := X.1
  have hnF := I.1
  have hnP := I.2.1
  refine g_iload_1 (q := 1) C dX3_count_0 rfl ?_
  by_cases sw_0 : what = 0
  · subst sw_0
    refine g_tableIn (tgt := 44) C dX3_count_1 (by decide) (by decide) rfl (by decide) ?_
    refine g_aload_0 (q := 45) C dX3_count_44 rfl ?_
    refine g_geti (q := 48) C f_X3_36 dX3_count_45 rfl rfl (IX.d0 I _ (by decide)) ?_
    exact g_iret C RT9 dX3_count_48 (pxi (by rw [X.nF]; rfl))
  by_cases sw_1 : what = 1
  · subst sw_1
    refine g_tableIn (tgt := 49) C dX3_count_1 (by decide) (by decide) rfl (by decide) ?_
    refine g_aload_0 (q := 50) C dX3_count_49 rfl ?_
    refine g_geti (q := 53) C f_X3_40 dX3_count_50 rfl rfl (IX.d0 I _ (by decide)) ?_
    exact g_iret C RT9 dX3_count_53 (pxi (by rw [X.nP]; rfl))
  by_cases sw_2 : what = 2
  · subst sw_2
    refine g_tableIn (tgt := 54) C dX3_count_1 (by decide) (by decide) rfl (by decide) ?_
    refine g_aload_0 (q := 55) C dX3_count_54 rfl ?_
    refine g_cv0i (q := 58) C cv_X3_127 dX3_count_55 rfl rfl (IX.d0 I _ (by decide)) (m_X3_flyingPeople X) (by decide) (Nat.le_of_ble_eq_true rfl) ⟨Nat.zero_le _, Nat.zero_le _⟩ ?_
    exact g_iret C RT9 dX3_count_58 (pxi (by rw [cnS, if_neg (by decide), if_neg (by decide), if_pos (by decide), if_neg (by decide)]))
  by_cases sw_3 : what = 3
  · subst sw_3
    refine g_tableIn (tgt := 59) C dX3_count_1 (by decide) (by decide) rfl (by decide) ?_
    refine g_aload_0 (q := 60) C dX3_count_59 rfl ?_
    refine g_iconst (v := 1) (q := 61) C dX3_count_60 rfl (by decide) ?_
    refine g_cv1i (q := 64) C cv_X3_130 dX3_count_61 rfl rfl (IX.d0 I _ (by decide)) (m_X3_peopleIn X _) (by decide) (Nat.le_of_ble_eq_true rfl) ⟨Nat.zero_le _, Nat.zero_le _⟩ ?_
    exact g_iret C RT9 dX3_count_64 (pxi (by rw [cnS, if_neg (by decide), if_neg (by decide), if_pos (by decide), if_neg (by decide)]; exact smS_cong (fun p _ => cnc_3.symm)))
  by_cases sw_4 : what = 4
  · subst sw_4
    refine g_tableIn (tgt := 65) C dX3_count_1 (by decide) (by decide) rfl (by decide) ?_
    refine g_aload_0 (q := 66) C dX3_count_65 rfl ?_
    refine g_iconst (v := 2) (q := 67) C dX3_count_66 rfl (by decide) ?_
    refine g_cv1i (q := 70) C cv_X3_130 dX3_count_67 rfl rfl (IX.d0 I _ (by decide)) (m_X3_peopleIn X _) (by decide) (Nat.le_of_ble_eq_true rfl) ⟨Nat.zero_le _, Nat.zero_le _⟩ ?_
    exact g_iret C RT9 dX3_count_70 (pxi (by rw [cnS, if_neg (by decide), if_neg (by decide), if_pos (by decide), if_neg (by decide)]; exact smS_cong (fun p _ => cnc_4.symm)))
  by_cases sw_5 : what = 5
  · subst sw_5
    refine g_tableIn (tgt := 71) C dX3_count_1 (by decide) (by decide) rfl (by decide) ?_
    refine g_aload_0 (q := 72) C dX3_count_71 rfl ?_
    refine g_cv0i (q := 75) C cv_X3_133 dX3_count_72 rfl rfl (IX.d0 I _ (by decide)) (m_X3_peopleWithWay X) (by decide) (Nat.le_of_ble_eq_true rfl) ⟨Nat.zero_le _, Nat.zero_le _⟩ ?_
    exact g_iret C RT9 dX3_count_75 (pxi (by rw [cnS, if_neg (by decide), if_neg (by decide), if_pos (by decide), if_neg (by decide)]; exact smS_cong (fun p hp => cn5 W hp)))
  by_cases sw_6 : what = 6
  · subst sw_6
    refine g_tableIn (tgt := 76) C dX3_count_1 (by decide) (by decide) rfl (by decide) ?_
    refine g_aload_0 (q := 77) C dX3_count_76 rfl ?_
    refine g_cv0i (q := 80) C cv_X3_136 dX3_count_77 rfl rfl (IX.d0 I _ (by decide)) (m_X3_allClaims X W) (by decide) (Nat.le_of_ble_eq_true rfl) ⟨Nat.zero_le _, Nat.zero_le _⟩ ?_
    exact g_iret C RT9 dX3_count_80 (pxi (by rw [cnS, if_neg (by decide), if_neg (by decide), if_pos (by decide), if_pos rfl]))
  refine g_tableOut (tgt := 81) C dX3_count_1 (sw_out7 sw_0 sw_1 sw_2 sw_3 sw_4 sw_5 sw_6) (by decide) ?_
  refine g_iconst (v := (-1)) (q := 82) C dX3_count_81 rfl (by decide) ?_
  exact g_iret C RT9 dX3_count_82 (pxi (by rw [cnS, if_neg sw_0, if_neg sw_1, if_neg (fun h => by rcases in26 h with e | e | e | e | e <;> contradiction)]))

set_option maxHeartbeats 4000000 in
set_option maxRecDepth 100000 in
theorem m_X3_off (X : XR nF nP fl pa nu dm a r) (f1 z : Int32) (hz : z = 0 ∨ z = 1) : MT g bs l yX3_off cX3_off 4 (some .boolean) 1 0 0 [.ref (ad 0), .int f1, .int z] ad dm a b r (fun v ad0 dm0 a0 b0 r0 => ad0 = ad ∧ dm0 = dm ∧ b0 = b ∧ r0 = r ∧ ((fok nF f1 = true ∧ a0 = u2 a (20 + cN f1) 7 z ∧ v = some (.int 1)) ∨ (fok nF f1 = false ∧ a0 = a ∧ v = some (.int 0)))) := by
  refine mt_of (by decide) [some (.ref (ad 0)), some (.int f1), some (.int z), none] rfl (Nat.le_of_ble_eq_true rfl) ?_
  intro E hg hbs hl hN C RT9 hcells hslots hname
  have I := X.1
  have hnF := I.1
  have hnP := I.2.1
  refine g_aload_0 (q := 1) C dX3_off_0 rfl ?_
  refine g_iload_1 (q := 2) C dX3_off_1 rfl ?_
  rcases hk : fok nF f1 with _ | _
  · refine g_cv1i (q := 5) C cv_X3_53 dX3_off_2 rfl rfl (IX.d0 I _ (by decide)) (m_X3_flightAt_n X hk) (by decide) (Nat.le_of_ble_eq_true rfl) ⟨Nat.zero_le _, Nat.zero_le _⟩ ?_
    refine g_astore_3N (q := 6) C dX3_off_5 rfl (by rw [hN]; decide) rfl ?_
    refine g_aload_3N (q := 7) C dX3_off_6 rfl ?_
    refine g_ifnonnullN (q := 10) C dX3_off_7 rfl ?_
    refine g_iconst (v := 0) (q := 11) C dX3_off_10 rfl (by decide) ?_
    exact g_zret C RT9 dX3_off_11 rfl ⟨rfl, rfl, rfl, rfl, Or.inr ⟨hk, rfl, rfl⟩⟩
  · obtain ⟨f, hf, rfl⟩ := fok_t hk (by omega)
    refine g_cv1i (q := 5) C cv_X3_53 dX3_off_2 rfl rfl (IX.d0 I _ (by decide)) (m_X3_flightAt_y X hf) (by decide) (Nat.le_of_ble_eq_true rfl) ⟨Nat.zero_le _, Nat.zero_le _⟩ ?_
    refine g_astore_3 (q := 6) C dX3_off_5 rfl (by rw [hN]; decide) rfl ?_
    refine g_aload_3 (q := 7) C dX3_off_6 rfl ?_
    refine g_ifnonnull (tgt := 12) C dX3_off_7 (by decide) ?_
    refine g_aload_3 (q := 13) C dX3_off_12 rfl ?_
    refine g_iload_2 (q := 14) C dX3_off_13 rfl ?_
    refine g_puti (q := 17) C p_X3_57 dX3_off_14 rfl (IX.lf I (by assumption)) (IX.df I (by assumption)) (by rcases hz with h | h <;> subst h <;> rfl) (by rcases hz with h | h <;> subst h <;> rfl) ?_
    refine g_iconst (v := 1) (q := 18) C dX3_off_17 rfl (by decide) ?_
    exact g_zret C RT9 dX3_off_18 rfl ⟨rfl, rfl, rfl, rfl, Or.inl ⟨hk, by rw [cN_nI (by omega)], rfl⟩⟩

set_option maxHeartbeats 4000000 in
set_option maxRecDepth 100000 in
theorem m_X3_setChange (X : XR nF nP fl pa nu dm a r) (z : Int32) : MT g bs l yX3_setChange cX3_setChange 3 (some .int) 1 0 0 [.ref (ad 0), .int z] ad dm a b r (fun v ad0 dm0 a0 b0 r0 => ad0 = ad ∧ dm0 = dm ∧ b0 = b ∧ r0 = r ∧ ((inR z 0 300 = true ∧ a0 = u2 a 0 7 z ∧ v = some (.int (nu 0))) ∨ (inR z 0 300 = false ∧ a0 = a ∧ v = some (.int (-1))))) := by
  refine mt_of (by decide) [some (.ref (ad 0)), some (.int z), none] rfl (Nat.le_of_ble_eq_true rfl) ?_
  intro E hg hbs hl hN C RT9 hcells hslots hname
  have I := X.1
  have hnF := I.1
  have hnP := I.2.1
  refine g_iload_1 (q := 1) C dX3_setChange_0 rfl ?_
  refine g_iconst (v := 0) (q := 2) C dX3_setChange_1 rfl (by decide) ?_
  refine g_sipush (v := 300) (q := 5) C dX3_setChange_2 rfl (by decide) ?_
  refine g_cs3i (q := 8) C cs_X3_46 dX3_setChange_5 rfl (m_X3_within _ _ _) (by decide) (Nat.le_of_ble_eq_true rfl) ⟨Nat.zero_le _, Nat.zero_le _⟩ ?_
  refine g_ifneb (tgt := 13) (q := 11) C dX3_setChange_8 rfl (by decide) (fun c_8 => ?_) (fun c_8 => ?_)
  · refine g_aload_0 (q := 14) C dX3_setChange_13 rfl ?_
    refine g_geti (q := 17) C f_X3_43 dX3_setChange_14 rfl rfl (IX.d0 I _ (by decide)) ?_
    refine g_istore_2 (q := 18) C dX3_setChange_17 rfl (by rw [hN]; decide) rfl ?_
    refine g_aload_0 (q := 19) C dX3_setChange_18 rfl ?_
    refine g_iload_1 (q := 20) C dX3_setChange_19 rfl ?_
    refine g_puti (q := 23) C p_X3_43 dX3_setChange_20 rfl rfl (IX.d0 I _ (by decide)) rfl rfl ?_
    refine g_iload_2 (q := 24) C dX3_setChange_23 rfl ?_
    exact g_iret C RT9 dX3_setChange_24 ⟨rfl, rfl, rfl, rfl, Or.inl ⟨c_8, rfl, by rw [X.ch]⟩⟩
  · refine g_iconst (v := (-1)) (q := 12) C dX3_setChange_11 rfl (by decide) ?_
    exact g_iret C RT9 dX3_setChange_12 ⟨rfl, rfl, rfl, rfl, Or.inr ⟨c_8, rfl, rfl⟩⟩

theorem m1_int {x : Int32} (h : ¬ x - 1 < 0) : 0 ≤ (x - 1).toInt := by
  rw [i_lt, i_0] at h
  omega
theorem se_k {x : Int32} (h1 : ¬ x - 1 < 0) (h2 : ¬ (3 : Int32) ≤ x - 1) : ∃ k : Nat, k < 3 ∧ x - 1 = nI k := by
  obtain ⟨k, hk, e⟩ := nI_of h1
  rw [e, i_le, nI_toInt hk] at h2
  have : (3 : Int32).toInt = 3 := rfl
  exact ⟨k, by omega, e⟩
theorem se_e {x : Int32} {k : Nat} (h : x - 1 = nI k) : x = nI (k + 1) := by
  rw [← nI_1, ← h]
  simp
theorem se_a {x z : Int32} (h0 : ¬ x = 0) (h : x - 1 < 0) : seK x z = false := by
  rcases h9 : inR x 0 3 with _ | _
  · rw [seK, h9]; rfl
  · obtain ⟨n, hn, rfl⟩ := fok_t (n := 4) h9 (by decide)
    match n, hn, h, h0 with
    | 0, _, _, h0 => exact absurd rfl h0
    | 1, _, h, _ => exact absurd h (by decide)
    | 2, _, h, _ => exact absurd h (by decide)
    | 3, _, h, _ => exact absurd h (by decide)
theorem se_b {x z : Int32} (h0 : ¬ x = 0) (h1 : ¬ x - 1 < 0) (h : (3 : Int32) ≤ x - 1) : seK x z = false := by
  rcases h9 : inR x 0 3 with _ | _
  · rw [seK, h9]; rfl
  · obtain ⟨n, hn, rfl⟩ := fok_t (n := 4) h9 (by decide)
    match n, hn, h, h0 with
    | 0, _, _, h0 => exact absurd rfl h0
    | 1, _, h, _ => exact absurd h (by decide)
    | 2, _, h, _ => exact absurd h (by decide)
    | 3, _, h, _ => exact absurd h (by decide)
theorem se_c {x z : Int32} (h0 : ¬ x = 0) (h : inR z 0 9999 = false) : seK x z = false := by
  rw [seK, if_neg h0, h, Bool.and_false]
theorem se_d {x z : Int32} {k : Nat} (h0 : ¬ x = 0) (hk : k < 3) (e : x - 1 = nI k) (h : inR z 0 9999 = true) : seK x z = true := by
  rw [seK, if_neg h0, h, se_e e, Bool.and_true]
  exact fok_i (n := 4) (by omega) (by decide)
set_option maxHeartbeats 4000000 in
set_option maxRecDepth 100000 in
theorem m_X3_set (X : XR nF nP fl pa nu dm a r) (what z : Int32) : MT g bs l yX3_set cX3_set 5 (some .int) 2 0 0 [.ref (ad 0), .int what, .int z] ad dm a b r (fun v ad0 dm0 a0 b0 r0 => ad0 = ad ∧ dm0 = dm ∧ b0 = b ∧ r0 = r ∧ ((seK what z = true ∧ ((what = 0 ∧ a0 = u2 a 0 7 z ∧ v = some (.int (nu 0))) ∨ ∃ k, k < 3 ∧ what = nI (k + 1) ∧ a0 = u2 a 3 k z ∧ v = some (.int (nu (k + 1))))) ∨ (seK what z = false ∧ a0 = a ∧ v = some (.int (-1))))) := by
  refine mt_of (by decide) [some (.ref (ad 0)), some (.int what), some (.int z), none, none] rfl (Nat.le_of_ble_eq_true rfl) ?_
  intro E hg hbs hl hN C RT9 hcells hslots hname
  have I := X.1
  have hnF := I.1
  have hnP := I.2.1
  refine g_iload_1 (q := 1) C dX3_set_0 rfl ?_
  refine g_if_ne (tgt := 10) (q := 4) C dX3_set_1 rfl (by decide) (fun c_1 => ?_) (fun c_1 => ?_)
  · refine g_iload_1 (q := 11) C dX3_set_10 rfl ?_
    refine g_iconst (v := 1) (q := 12) C dX3_set_11 rfl (by decide) ?_
    refine g_isub (q := 13) C dX3_set_12 rfl ?_
    refine g_istore_3 (q := 14) C dX3_set_13 rfl (by rw [hN]; decide) rfl ?_
    refine g_iload_3 (q := 15) C dX3_set_14 rfl ?_
    refine g_if_lt (tgt := 38) (q := 18) C dX3_set_15 rfl (by decide) (fun c_15 => ?_) (fun c_15 => ?_)
    · refine g_iconst (v := (-1)) (q := 39) C dX3_set_38 rfl (by decide) ?_
      exact g_iret C RT9 dX3_set_39 ⟨rfl, rfl, rfl, rfl, Or.inr ⟨by first | exact se_a c_1 c_15 | exact se_b c_1 c_15 c_24 | exact se_c c_1 c_35, rfl, rfl⟩⟩
    · refine g_iload_3 (q := 19) C dX3_set_18 rfl ?_
      refine g_aload_0 (q := 20) C dX3_set_19 rfl ?_
      refine g_getc (q := 23) (m := 3) C f_X3_21 dX3_set_20 rfl rfl (IX.d0 I _ (by decide)) ?_
      refine g_alen (v := 3) (q := 24) C dX3_set_23 rfl rfl (by decide) (IX.d0 I _ (by decide)) rfl ?_
      refine g_icmp_ge (tgt := 38) (q := 27) C dX3_set_24 rfl (by decide) (fun c_24 => ?_) (fun c_24 => ?_)
      · refine g_iconst (v := (-1)) (q := 39) C dX3_set_38 rfl (by decide) ?_
        exact g_iret C RT9 dX3_set_39 ⟨rfl, rfl, rfl, rfl, Or.inr ⟨by first | exact se_a c_1 c_15 | exact se_b c_1 c_15 c_24 | exact se_c c_1 c_35, rfl, rfl⟩⟩
      · refine g_iload_2 (q := 28) C dX3_set_27 rfl ?_
        refine g_iconst (v := 0) (q := 29) C dX3_set_28 rfl (by decide) ?_
        refine g_sipush (v := 9999) (q := 32) C dX3_set_29 rfl (by decide) ?_
        refine g_cs3i (q := 35) C cs_X3_46 dX3_set_32 rfl (m_X3_within _ _ _) (by decide) (Nat.le_of_ble_eq_true rfl) ⟨Nat.zero_le _, Nat.zero_le _⟩ ?_
        refine g_ifneb (tgt := 40) (q := 38) C dX3_set_35 rfl (by decide) (fun c_35 => ?_) (fun c_35 => ?_)
        · obtain ⟨k, hk, ek⟩ := se_k c_15 c_24
          refine g_aload_0 (q := 41) C dX3_set_40 rfl ?_
          refine g_getc (q := 44) (m := 3) C f_X3_21 dX3_set_41 rfl rfl (IX.d0 I _ (by decide)) ?_
          refine g_iload_3 (q := 45) C dX3_set_44 rfl ?_
          refine g_ia (q := 46) C dX3_set_45 rfl rfl (IX.d0 I _ (by decide)) ek hk (by decide) ?_
          refine g_istore_4 (q := 48) C dX3_set_46 rfl (by rw [hN]; decide) rfl ?_
          refine g_aload_0 (q := 49) C dX3_set_48 rfl ?_
          refine g_getc (q := 52) (m := 3) C f_X3_21 dX3_set_49 rfl rfl (IX.d0 I _ (by decide)) ?_
          refine g_iload_3 (q := 53) C dX3_set_52 rfl ?_
          refine g_iload_2 (q := 54) C dX3_set_53 rfl ?_
          refine g_iast (q := 55) C dX3_set_54 rfl rfl (IX.d0 I _ (by decide)) ek hk (by decide) ?_
          refine g_iload_4 (q := 57) C dX3_set_55 rfl ?_
          exact g_iret C RT9 dX3_set_57 ⟨rfl, rfl, rfl, rfl, Or.inl ⟨se_d c_1 hk ek c_35, Or.inr ⟨k, hk, se_e ek, rfl, by rw [X.fe hk]⟩⟩⟩
        · refine g_iconst (v := (-1)) (q := 39) C dX3_set_38 rfl (by decide) ?_
          exact g_iret C RT9 dX3_set_39 ⟨rfl, rfl, rfl, rfl, Or.inr ⟨by first | exact se_a c_1 c_15 | exact se_b c_1 c_15 c_24 | exact se_c c_1 c_35, rfl, rfl⟩⟩
  · refine g_aload_0 (q := 5) C dX3_set_4 rfl ?_
    refine g_iload_2 (q := 6) C dX3_set_5 rfl ?_
    refine g_cv1g (q := 9) C cv_X3_64 dX3_set_6 rfl rfl (IX.d0 I _ (by decide)) (m_X3_setChange X z) (by decide) (Nat.le_of_ble_eq_true rfl) ⟨Nat.zero_le _, Nat.zero_le _⟩ (fun v ad' dm' a' b' r' hp => ?_)
    obtain ⟨rfl, rfl, rfl, rfl, ⟨h1, rfl, rfl⟩ | ⟨h1, rfl, rfl⟩⟩ := hp
    · exact g_iret C RT9 dX3_set_9 ⟨rfl, rfl, rfl, rfl, Or.inl ⟨by rw [c_1]; exact h1, Or.inl ⟨c_1, rfl, rfl⟩⟩⟩
    · exact g_iret C RT9 dX3_set_9 ⟨rfl, rfl, rfl, rfl, Or.inr ⟨by rw [c_1]; exact h1, rfl, rfl⟩⟩

set_option maxHeartbeats 4000000 in
set_option maxRecDepth 100000 in
theorem m_X3_stranded (X : XR nF nP fl pa nu dm a r) (W : WP nF nP pa) : MT g bs l yX3_stranded cX3_stranded 3 (some .int) 1 0 0 [.ref (ad 0)] ad dm a b r (PX (some (.int (nI (ctS (stc pa) nP)))) ad dm a b r) := by
  refine mt_of (by decide) [some (.ref (ad 0)), none, none] rfl (Nat.le_of_ble_eq_true rfl) ?_
  intro E hg hbs hl hN C RT9 hcells hslots hname
  have I := X.1
  have hnF := I.1
  have hnP := I.2.1
  have lp : ∀ (k i : Nat) (acc : Nat), i + k = nP → acc = ctS (sdS pa) i → G E 0 0 ad dm a b r 4 [some (.ref (ad 0)), some (.int (nI acc)), some (.int (nI i))] [] := by
    intro k
    induction k with
    | zero =>
      intro i acc hi hacc
      refine g_iload_2 (q := 5) C dX3_stranded_4 rfl ?_
      refine g_aload_0 (q := 6) C dX3_stranded_5 rfl ?_
      refine g_geti (q := 9) C f_X3_40 dX3_stranded_6 rfl rfl (IX.d0 I _ (by decide)) ?_
      refine g_icmp_ge (tgt := 33) (q := 12) C dX3_stranded_9 rfl (by decide) (fun c_9 => ?_) (fun c_9 => absurd (by rw [X.nP]; exact nI_le (by omega) (by omega)) c_9)
      refine g_iload_1 (q := 34) C dX3_stranded_33 rfl ?_
      exact g_iret C RT9 dX3_stranded_34 (pxi (by rw [hacc, show i = nP by omega, ctS_cong (fun q hq => sd_st W hq)]))
    | succ k ih =>
      intro i acc hi hacc
      have hip : i < nP := by omega
      refine g_iload_2 (q := 5) C dX3_stranded_4 rfl ?_
      refine g_aload_0 (q := 6) C dX3_stranded_5 rfl ?_
      refine g_geti (q := 9) C f_X3_40 dX3_stranded_6 rfl rfl (IX.d0 I _ (by decide)) ?_
      refine g_icmp_ge (tgt := 33) (q := 12) C dX3_stranded_9 rfl (by decide) (fun c_9 => absurd c_9 (by rw [X.nP]; exact nI_ge (by omega) (by omega))) (fun c_9 => ?_)
      refine g_aload_0 (q := 13) C dX3_stranded_12 rfl ?_
      refine g_getc (q := 16) (m := 2) C f_X3_17 dX3_stranded_13 rfl rfl (IX.d0 I _ (by decide)) ?_
      refine g_iload_2 (q := 17) C dX3_stranded_16 rfl ?_
      refine g_aaP (q := 18) C dX3_stranded_17 rfl rfl (IX.d0 I _ (by decide)) rfl (by omega) (by decide) (XR.rp X (by assumption)) ?_
      refine g_cv0i (q := 21) C cv_X3_187 dX3_stranded_18 rfl (IX.lp I (by assumption)) (IX.dp I (by assumption)) (m_X2_isStranded X (by assumption)) (by decide) (Nat.le_of_ble_eq_true rfl) ⟨Nat.zero_le _, Nat.zero_le _⟩ ?_
      refine g_ifeqb (tgt := 27) (q := 24) C dX3_stranded_21 rfl (by decide) (fun c_21 => ?_) (fun c_21 => ?_)
      · refine g_iinc_2 (v := nI (i + 1)) (q := 30) C dX3_stranded_27 rfl (by rw [hN]; decide) (nI_1 i) ?_
        refine g_goto (tgt := 4) C dX3_stranded_30 (by decide) ?_
        exact ih (i + 1) _ (by omega) (by simp [ctS, hacc, c_21])
      · refine g_iinc_1 (v := nI (acc + 1)) (q := 27) C dX3_stranded_24 rfl (by rw [hN]; decide) (nI_1 acc) ?_
        refine g_iinc_2 (v := nI (i + 1)) (q := 30) C dX3_stranded_27 rfl (by rw [hN]; decide) (nI_1 i) ?_
        refine g_goto (tgt := 4) C dX3_stranded_30 (by decide) ?_
        exact ih (i + 1) _ (by omega) (by simp [ctS, hacc, c_21])
  refine g_iconst (v := 0) (q := 1) C dX3_stranded_0 rfl (by decide) ?_
  refine g_istore_1 (q := 2) C dX3_stranded_1 rfl (by rw [hN]; decide) rfl ?_
  refine g_iconst (v := 0) (q := 3) C dX3_stranded_2 rfl (by decide) ?_
  refine g_istore_2 (q := 4) C dX3_stranded_3 rfl (by rw [hN]; decide) rfl ?_
  exact lp nP 0 0 (by omega) rfl

set_option maxHeartbeats 4000000 in
set_option maxRecDepth 100000 in
theorem m_X3_numberOf_n  : MT g bs l yX3_numberOf cX3_numberOf 1 (some .int) 0 0 0 [.null] ad dm a b r (PX (some (.int (-1))) ad dm a b r) := by
  refine mt_of (by decide) [some (.null)] rfl (Nat.le_of_ble_eq_true rfl) ?_
  intro E hg hbs hl hN C RT9 hcells hslots hname
  refine g_aload_0N (q := 1) C dX3_numberOf_0 rfl ?_
  refine g_ifnonnullN (q := 4) C dX3_numberOf_1 rfl ?_
  refine g_iconst (v := (-1)) (q := 5) C dX3_numberOf_4 rfl (by decide) ?_
  refine g_goto (tgt := 12) C dX3_numberOf_5 (by decide) ?_
  exact g_iret C RT9 dX3_numberOf_12 (px rfl)

set_option maxHeartbeats 4000000 in
set_option maxRecDepth 100000 in
theorem m_X3_numberOf_r (X : XR nF nP fl pa nu dm a r) {f : Nat} (hf : f < nF) : MT g bs l yX3_numberOf cX3_numberOf 1 (some .int) 0 0 0 [.ref (ad (20 + f))] ad dm a b r (PX (some (.int (nI f))) ad dm a b r) := by
  refine mt_of (by decide) [some (.ref (ad (20 + f)))] rfl (Nat.le_of_ble_eq_true rfl) ?_
  intro E hg hbs hl hN C RT9 hcells hslots hname
  have I := X.1
  have hnF := I.1
  have hnP := I.2.1
  refine g_aload_0 (q := 1) C dX3_numberOf_0 rfl ?_
  refine g_ifnonnull (tgt := 8) C dX3_numberOf_1 (by decide) ?_
  refine g_aload_0 (q := 9) C dX3_numberOf_8 rfl ?_
  refine g_geti (q := 12) C f_X3_99 dX3_numberOf_9 rfl (IX.lf I (by assumption)) (IX.df I (by assumption)) ?_
  exact g_iret C RT9 dX3_numberOf_12 (pxi (X.no hf))

set_option maxHeartbeats 4000000 in
set_option maxRecDepth 100000 in
theorem m_X3_isOffFlight_n  : MT g bs l yX3_isOffFlight cX3_isOffFlight 1 (some .boolean) 0 0 0 [.null] ad dm a b r (PX (some (.int (bI false))) ad dm a b r) := by
  refine mt_of (by decide) [some (.null)] rfl (Nat.le_of_ble_eq_true rfl) ?_
  intro E hg hbs hl hN C RT9 hcells hslots hname
  refine g_aload_0N (q := 1) C dX3_isOffFlight_0 rfl ?_
  refine g_ifnullN (tgt := 15) C dX3_isOffFlight_1 (by decide) ?_
  refine g_iconst (v := 0) (q := 16) C dX3_isOffFlight_15 rfl (by decide) ?_
  exact g_zret C RT9 dX3_isOffFlight_16 rfl (px rfl)

set_option maxHeartbeats 4000000 in
set_option maxRecDepth 100000 in
theorem m_X3_isOffFlight_r (I : IX dm nF nP) {f : Nat} (hf : f < nF) : MT g bs l yX3_isOffFlight cX3_isOffFlight 1 (some .boolean) 0 0 0 [.ref (ad (20 + f))] ad dm a b r (PX (some (.int (bI (decide (¬ a (20 + f) 7 = 0))))) ad dm a b r) := by
  refine mt_of (by decide) [some (.ref (ad (20 + f)))] rfl (Nat.le_of_ble_eq_true rfl) ?_
  intro E hg hbs hl hN C RT9 hcells hslots hname
  refine g_aload_0 (q := 1) C dX3_isOffFlight_0 rfl ?_
  refine g_ifnull (q := 4) C dX3_isOffFlight_1 rfl ?_
  refine g_aload_0 (q := 5) C dX3_isOffFlight_4 rfl ?_
  refine g_geti (q := 8) C f_X3_57 dX3_isOffFlight_5 rfl (IX.lf I (by assumption)) (IX.df I (by assumption)) ?_
  refine g_if_eq (tgt := 15) (q := 11) C dX3_isOffFlight_8 rfl (by decide) (fun c_8 => ?_) (fun c_8 => ?_)
  · refine g_iconst (v := 0) (q := 16) C dX3_isOffFlight_15 rfl (by decide) ?_
    exact g_zret C RT9 dX3_isOffFlight_16 rfl (pxi (by simp [bI, c_8]))
  · refine g_iconst (v := 1) (q := 12) C dX3_isOffFlight_11 rfl (by decide) ?_
    refine g_goto (tgt := 16) C dX3_isOffFlight_12 (by decide) ?_
    exact g_zret C RT9 dX3_isOffFlight_16 rfl (pxi (by simp [bI, c_8]))

theorem iw1 (X : XR nF nP fl pa nu dm a r) (F : WF nF fl) {i o : Nat} (hi : i < nF) (ho : o < nF) : w1 fl o i = (decide (¬ i = o) && decide (a (20 + i) 7 = 0) && decide (a (20 + i) 1 = a (20 + o) 1) && decide (a (20 + o) 3 ≤ a (20 + i) 3)) := by
  have h6 : a (20 + i) 7 = fl (7 * i + 6) := X.fk (k := 6) hi (by decide)
  have h2 : a (20 + i) 3 = fl (7 * i + 2) := X.fk (k := 2) hi (by decide)
  have h2o : a (20 + o) 3 = fl (7 * o + 2) := X.fk (k := 2) ho (by decide)
  have hof : (fl (7 * i + 6) ≠ 1) ↔ fl (7 * i + 6) = 0 := by
    rcases (F i hi).2.2.2.2.2.2 with h | h <;> rw [h] <;> decide
  have e4 : (¬ fl (7 * i + 2) < fl (7 * o + 2)) ↔ fl (7 * o + 2) ≤ fl (7 * i + 2) := Int32.not_lt
  rw [h6, h2, h2o, X.f0 hi, X.f0 ho]
  unfold w1
  simp only [decide_eq_decide.mpr hof, decide_eq_decide.mpr e4]
theorem nI_sub3 {d r c : Nat} (hd : d ≤ 9999) (hr : r ≤ 9999) (hc : c ≤ 9999) : (nI d - nI r < nI c) ↔ (nI d < nI r + nI c) := by
  rw [nI_add, i_lt, i_lt, pk_sub_toInt (by omega) (by omega), nI_toInt (by omega), nI_toInt (by omega), nI_toInt (by omega)]
  omega
theorem iw2 (X : XR nF nP fl pa nu dm a r) (F : WF nF fl) (N : WN nu) {i k : Nat} (hi : i < nF) (hk : k < nF) : w2 fl nu i k = (decide (a (20 + k) 7 = 0) && decide (a (20 + k) 1 = a (20 + i) 2) && decide (¬ a (20 + k) 3 - a (20 + i) 4 < a 0 7)) := by
  have h6 : a (20 + k) 7 = fl (7 * k + 6) := X.fk (k := 6) hk (by decide)
  have h2 : a (20 + k) 3 = fl (7 * k + 2) := X.fk (k := 2) hk (by decide)
  have h1 : a (20 + i) 2 = fl (7 * i + 1) := X.fk (k := 1) hi (by decide)
  have h3 : a (20 + i) 4 = fl (7 * i + 3) := X.fk (k := 3) hi (by decide)
  have hof : (fl (7 * k + 6) ≠ 1) ↔ fl (7 * k + 6) = 0 := by
    rcases (F k hk).2.2.2.2.2.2 with h | h <;> rw [h] <;> decide
  obtain ⟨d, e, hde, he, ed, ee⟩ := (F k hk).2.2.2.1
  obtain ⟨d', e', hde', he', ed', ee'⟩ := (F i hi).2.2.2.1
  obtain ⟨c, hc, ec⟩ := N.1
  have e4 : (¬ fl (7 * k + 2) < fl (7 * i + 3) + nu 0) ↔ ¬ fl (7 * k + 2) - fl (7 * i + 3) < nu 0 := by
    rw [ed, ee', ec]
    exact not_congr (nI_sub3 (by omega) (by omega) (by omega)).symm
  rw [h6, h2, h1, h3, X.f0 hk, X.ch]
  unfold w2
  simp only [decide_eq_decide.mpr hof, decide_eq_decide.mpr e4]
set_option maxHeartbeats 4000000 in
set_option maxRecDepth 100000 in
theorem m_X3_isWay_n (X : XR nF nP fl pa nu dm a r) (F : WF nF fl) {j i : Nat} (hj : j < nP) (hi : i < nF) : MT g bs l yX3_isWay cX3_isWay 5 (some .boolean) 0 0 0 [.ref (ad 0), .ref (ad (30 + j)), .ref (ad (20 + i)), .null] ad dm a b r (PX (some (.int (bI (wyS fl nu (cN (pa (9 * j))) i none)))) ad dm a b r) := by
  refine mt_of (by decide) [some (.ref (ad 0)), some (.ref (ad (30 + j))), some (.ref (ad (20 + i))), some (.null), none] rfl (Nat.le_of_ble_eq_true rfl) ?_
  intro E hg hbs hl hN C RT9 hcells hslots hname
  have I := X.1
  have hnF := I.1
  have hnP := I.2.1
  obtain ⟨o, ho, ro, eo, e1, e2, e3, e4, e5, e6, w7, w8⟩ := X.pt hj
  refine g_aload_1 (q := 1) C dX3_isWay_0 rfl ?_
  refine g_getr (q := 4) C f_X3_95 dX3_isWay_1 rfl (IX.lp I (by assumption)) (IX.dp I (by assumption)) ro ?_
  refine g_astore_4 (q := 6) C dX3_isWay_4 rfl (by rw [hN]; decide) rfl ?_
  refine g_aload_2 (q := 7) C dX3_isWay_6 rfl ?_
  refine g_aload_4 (q := 9) C dX3_isWay_7 rfl ?_
  refine g_acmp_eq (tgt := 43) (q := 12) C dX3_isWay_9 rfl (by decide) (IX.df I (by assumption)) (IX.df I (by assumption)) (fun c_9 => ?_) (fun c_9 => ?_)
  · refine g_iconst (v := 0) (q := 44) C dX3_isWay_43 rfl (by decide) ?_
    exact g_zret C RT9 dX3_isWay_44 rfl (pxi (by rw [eo, cN_nI (by omega), wyS, iw1 X F hi ho]; first | (simp [bI, show ¬ i = o by omega, c_16, c_28, c_40]; done) | (simp [bI, show ¬ i = o by omega, c_16, c_28]; done) | (simp [bI, show ¬ i = o by omega, c_16]; done) | (simp [bI, show i = o by omega]; done)))
  · refine g_aload_2 (q := 13) C dX3_isWay_12 rfl ?_
    refine g_geti (q := 16) C f_X3_57 dX3_isWay_13 rfl (IX.lf I (by assumption)) (IX.df I (by assumption)) ?_
    refine g_if_ne (tgt := 43) (q := 19) C dX3_isWay_16 rfl (by decide) (fun c_16 => ?_) (fun c_16 => ?_)
    · refine g_iconst (v := 0) (q := 44) C dX3_isWay_43 rfl (by decide) ?_
      exact g_zret C RT9 dX3_isWay_44 rfl (pxi (by rw [eo, cN_nI (by omega), wyS, iw1 X F hi ho]; first | (simp [bI, show ¬ i = o by omega, c_16, c_28, c_40]; done) | (simp [bI, show ¬ i = o by omega, c_16, c_28]; done) | (simp [bI, show ¬ i = o by omega, c_16]; done) | (simp [bI, show i = o by omega]; done)))
    · refine g_aload_2 (q := 20) C dX3_isWay_19 rfl ?_
      refine g_geti (q := 23) C f_X3_255 dX3_isWay_20 rfl (IX.lf I (by assumption)) (IX.df I (by assumption)) ?_
      refine g_aload_4 (q := 25) C dX3_isWay_23 rfl ?_
      refine g_geti (q := 28) C f_X3_255 dX3_isWay_25 rfl (IX.lf I (by assumption)) (IX.df I (by assumption)) ?_
      refine g_icmp_ne (tgt := 43) (q := 31) C dX3_isWay_28 rfl (by decide) (fun c_28 => ?_) (fun c_28 => ?_)
      · refine g_iconst (v := 0) (q := 44) C dX3_isWay_43 rfl (by decide) ?_
        exact g_zret C RT9 dX3_isWay_44 rfl (pxi (by rw [eo, cN_nI (by omega), wyS, iw1 X F hi ho]; first | (simp [bI, show ¬ i = o by omega, c_16, c_28, c_40]; done) | (simp [bI, show ¬ i = o by omega, c_16, c_28]; done) | (simp [bI, show ¬ i = o by omega, c_16]; done) | (simp [bI, show i = o by omega]; done)))
      · refine g_aload_2 (q := 32) C dX3_isWay_31 rfl ?_
        refine g_geti (q := 35) C f_X3_258 dX3_isWay_32 rfl (IX.lf I (by assumption)) (IX.df I (by assumption)) ?_
        refine g_aload_4 (q := 37) C dX3_isWay_35 rfl ?_
        refine g_geti (q := 40) C f_X3_258 dX3_isWay_37 rfl (IX.lf I (by assumption)) (IX.df I (by assumption)) ?_
        refine g_icmp_ge (tgt := 45) (q := 43) C dX3_isWay_40 rfl (by decide) (fun c_40 => ?_) (fun c_40 => ?_)
        · refine g_aload_3N (q := 46) C dX3_isWay_45 rfl ?_
          refine g_ifnonnullN (q := 49) C dX3_isWay_46 rfl ?_
          refine g_aload_2 (q := 50) C dX3_isWay_49 rfl ?_
          refine g_geti (q := 53) C f_X3_261 dX3_isWay_50 rfl (IX.lf I (by assumption)) (IX.df I (by assumption)) ?_
          refine g_aload_4 (q := 55) C dX3_isWay_53 rfl ?_
          refine g_geti (q := 58) C f_X3_261 dX3_isWay_55 rfl (IX.lf I (by assumption)) (IX.df I (by assumption)) ?_
          refine g_icmp_ne (tgt := 65) (q := 61) C dX3_isWay_58 rfl (by decide) (fun c_58 => ?_) (fun c_58 => ?_)
          · refine g_iconst (v := 0) (q := 66) C dX3_isWay_65 rfl (by decide) ?_
            exact g_zret C RT9 dX3_isWay_66 rfl (pxi (by rw [eo, cN_nI (by omega), wyS, iw1 X F hi ho, ← show a (20 + i) 2 = fl (7 * i + 1) from X.fk (k := 1) hi (by decide), ← show a (20 + o) 2 = fl (7 * o + 1) from X.fk (k := 1) ho (by decide)]; simp [bI, show ¬ i = o by omega, c_16, c_28, c_40, c_58]))
          · refine g_iconst (v := 1) (q := 62) C dX3_isWay_61 rfl (by decide) ?_
            refine g_goto (tgt := 66) C dX3_isWay_62 (by decide) ?_
            exact g_zret C RT9 dX3_isWay_66 rfl (pxi (by rw [eo, cN_nI (by omega), wyS, iw1 X F hi ho, ← show a (20 + i) 2 = fl (7 * i + 1) from X.fk (k := 1) hi (by decide), ← show a (20 + o) 2 = fl (7 * o + 1) from X.fk (k := 1) ho (by decide)]; simp [bI, show ¬ i = o by omega, c_16, c_28, c_40, c_58]))
        · refine g_iconst (v := 0) (q := 44) C dX3_isWay_43 rfl (by decide) ?_
          exact g_zret C RT9 dX3_isWay_44 rfl (pxi (by rw [eo, cN_nI (by omega), wyS, iw1 X F hi ho]; first | (simp [bI, show ¬ i = o by omega, c_16, c_28, c_40]; done) | (simp [bI, show ¬ i = o by omega, c_16, c_28]; done) | (simp [bI, show ¬ i = o by omega, c_16]; done) | (simp [bI, show i = o by omega]; done)))

set_option maxHeartbeats 4000000 in
set_option maxRecDepth 100000 in
theorem m_X3_isWay_r (X : XR nF nP fl pa nu dm a r) (F : WF nF fl) (N : WN nu) {j i k : Nat} (hj : j < nP) (hi : i < nF) (hk : k < nF) : MT g bs l yX3_isWay cX3_isWay 5 (some .boolean) 0 0 0 [.ref (ad 0), .ref (ad (30 + j)), .ref (ad (20 + i)), .ref (ad (20 + k))] ad dm a b r (PX (some (.int (bI (wyS fl nu (cN (pa (9 * j))) i (some k))))) ad dm a b r) := by
  refine mt_of (by decide) [some (.ref (ad 0)), some (.ref (ad (30 + j))), some (.ref (ad (20 + i))), some (.ref (ad (20 + k))), none] rfl (Nat.le_of_ble_eq_true rfl) ?_
  intro E hg hbs hl hN C RT9 hcells hslots hname
  have I := X.1
  have hnF := I.1
  have hnP := I.2.1
  obtain ⟨o, ho, ro, eo, e1, e2, e3, e4, e5, e6, w7, w8⟩ := X.pt hj
  refine g_aload_1 (q := 1) C dX3_isWay_0 rfl ?_
  refine g_getr (q := 4) C f_X3_95 dX3_isWay_1 rfl (IX.lp I (by assumption)) (IX.dp I (by assumption)) ro ?_
  refine g_astore_4 (q := 6) C dX3_isWay_4 rfl (by rw [hN]; decide) rfl ?_
  refine g_aload_2 (q := 7) C dX3_isWay_6 rfl ?_
  refine g_aload_4 (q := 9) C dX3_isWay_7 rfl ?_
  refine g_acmp_eq (tgt := 43) (q := 12) C dX3_isWay_9 rfl (by decide) (IX.df I (by assumption)) (IX.df I (by assumption)) (fun c_9 => ?_) (fun c_9 => ?_)
  · refine g_iconst (v := 0) (q := 44) C dX3_isWay_43 rfl (by decide) ?_
    exact g_zret C RT9 dX3_isWay_44 rfl (pxi (by rw [eo, cN_nI (by omega), wyS, iw1 X F hi ho]; first | (simp [bI, show ¬ i = o by omega, c_16, c_28, c_40]; done) | (simp [bI, show ¬ i = o by omega, c_16, c_28]; done) | (simp [bI, show ¬ i = o by omega, c_16]; done) | (simp [bI, show i = o by omega]; done)))
  · refine g_aload_2 (q := 13) C dX3_isWay_12 rfl ?_
    refine g_geti (q := 16) C f_X3_57 dX3_isWay_13 rfl (IX.lf I (by assumption)) (IX.df I (by assumption)) ?_
    refine g_if_ne (tgt := 43) (q := 19) C dX3_isWay_16 rfl (by decide) (fun c_16 => ?_) (fun c_16 => ?_)
    · refine g_iconst (v := 0) (q := 44) C dX3_isWay_43 rfl (by decide) ?_
      exact g_zret C RT9 dX3_isWay_44 rfl (pxi (by rw [eo, cN_nI (by omega), wyS, iw1 X F hi ho]; first | (simp [bI, show ¬ i = o by omega, c_16, c_28, c_40]; done) | (simp [bI, show ¬ i = o by omega, c_16, c_28]; done) | (simp [bI, show ¬ i = o by omega, c_16]; done) | (simp [bI, show i = o by omega]; done)))
    · refine g_aload_2 (q := 20) C dX3_isWay_19 rfl ?_
      refine g_geti (q := 23) C f_X3_255 dX3_isWay_20 rfl (IX.lf I (by assumption)) (IX.df I (by assumption)) ?_
      refine g_aload_4 (q := 25) C dX3_isWay_23 rfl ?_
      refine g_geti (q := 28) C f_X3_255 dX3_isWay_25 rfl (IX.lf I (by assumption)) (IX.df I (by assumption)) ?_
      refine g_icmp_ne (tgt := 43) (q := 31) C dX3_isWay_28 rfl (by decide) (fun c_28 => ?_) (fun c_28 => ?_)
      · refine g_iconst (v := 0) (q := 44) C dX3_isWay_43 rfl (by decide) ?_
        exact g_zret C RT9 dX3_isWay_44 rfl (pxi (by rw [eo, cN_nI (by omega), wyS, iw1 X F hi ho]; first | (simp [bI, show ¬ i = o by omega, c_16, c_28, c_40]; done) | (simp [bI, show ¬ i = o by omega, c_16, c_28]; done) | (simp [bI, show ¬ i = o by omega, c_16]; done) | (simp [bI, show i = o by omega]; done)))
      · refine g_aload_2 (q := 32) C dX3_isWay_31 rfl ?_
        refine g_geti (q := 35) C f_X3_258 dX3_isWay_32 rfl (IX.lf I (by assumption)) (IX.df I (by assumption)) ?_
        refine g_aload_4 (q := 37) C dX3_isWay_35 rfl ?_
        refine g_geti (q := 40) C f_X3_258 dX3_isWay_37 rfl (IX.lf I (by assumption)) (IX.df I (by assumption)) ?_
        refine g_icmp_ge (tgt := 45) (q := 43) C dX3_isWay_40 rfl (by decide) (fun c_40 => ?_) (fun c_40 => ?_)
        · refine g_aload_3 (q := 46) C dX3_isWay_45 rfl ?_
          refine g_ifnonnull (tgt := 67) C dX3_isWay_46 (by decide) ?_
          refine g_aload_3 (q := 68) C dX3_isWay_67 rfl ?_
          refine g_geti (q := 71) C f_X3_57 dX3_isWay_68 rfl (IX.lf I (by assumption)) (IX.df I (by assumption)) ?_
          refine g_if_ne (tgt := 117) (q := 74) C dX3_isWay_71 rfl (by decide) (fun c_71 => ?_) (fun c_71 => ?_)
          · refine g_iconst (v := 0) (q := 118) C dX3_isWay_117 rfl (by decide) ?_
            exact g_zret C RT9 dX3_isWay_118 rfl (pxi (by rw [eo, cN_nI (by omega), wyS, iw1 X F hi ho, iw2 X F N hi hk, ← show a (20 + k) 2 = fl (7 * k + 1) from X.fk (k := 1) hk (by decide), ← show a (20 + o) 2 = fl (7 * o + 1) from X.fk (k := 1) ho (by decide)]; first | (simp [bI, show ¬ i = o by omega, c_16, c_28, c_40, c_71, c_82, c_94, Int32.not_lt.mp c_110]; done) | (simp [bI, show ¬ i = o by omega, c_16, c_28, c_40, c_71, c_82, c_94, c_110]; done) | (simp [bI, show ¬ i = o by omega, c_16, c_28, c_40, c_71, c_82, c_94]; done) | (simp [bI, show ¬ i = o by omega, c_16, c_28, c_40, c_71, c_82]; done) | (simp [bI, show ¬ i = o by omega, c_16, c_28, c_40, c_71]; done)))
          · refine g_aload_3 (q := 75) C dX3_isWay_74 rfl ?_
            refine g_geti (q := 78) C f_X3_255 dX3_isWay_75 rfl (IX.lf I (by assumption)) (IX.df I (by assumption)) ?_
            refine g_aload_2 (q := 79) C dX3_isWay_78 rfl ?_
            refine g_geti (q := 82) C f_X3_261 dX3_isWay_79 rfl (IX.lf I (by assumption)) (IX.df I (by assumption)) ?_
            refine g_icmp_ne (tgt := 117) (q := 85) C dX3_isWay_82 rfl (by decide) (fun c_82 => ?_) (fun c_82 => ?_)
            · refine g_iconst (v := 0) (q := 118) C dX3_isWay_117 rfl (by decide) ?_
              exact g_zret C RT9 dX3_isWay_118 rfl (pxi (by rw [eo, cN_nI (by omega), wyS, iw1 X F hi ho, iw2 X F N hi hk, ← show a (20 + k) 2 = fl (7 * k + 1) from X.fk (k := 1) hk (by decide), ← show a (20 + o) 2 = fl (7 * o + 1) from X.fk (k := 1) ho (by decide)]; first | (simp [bI, show ¬ i = o by omega, c_16, c_28, c_40, c_71, c_82, c_94, Int32.not_lt.mp c_110]; done) | (simp [bI, show ¬ i = o by omega, c_16, c_28, c_40, c_71, c_82, c_94, c_110]; done) | (simp [bI, show ¬ i = o by omega, c_16, c_28, c_40, c_71, c_82, c_94]; done) | (simp [bI, show ¬ i = o by omega, c_16, c_28, c_40, c_71, c_82]; done) | (simp [bI, show ¬ i = o by omega, c_16, c_28, c_40, c_71]; done)))
            · refine g_aload_3 (q := 86) C dX3_isWay_85 rfl ?_
              refine g_geti (q := 89) C f_X3_261 dX3_isWay_86 rfl (IX.lf I (by assumption)) (IX.df I (by assumption)) ?_
              refine g_aload_4 (q := 91) C dX3_isWay_89 rfl ?_
              refine g_geti (q := 94) C f_X3_261 dX3_isWay_91 rfl (IX.lf I (by assumption)) (IX.df I (by assumption)) ?_
              refine g_icmp_ne (tgt := 117) (q := 97) C dX3_isWay_94 rfl (by decide) (fun c_94 => ?_) (fun c_94 => ?_)
              · refine g_iconst (v := 0) (q := 118) C dX3_isWay_117 rfl (by decide) ?_
                exact g_zret C RT9 dX3_isWay_118 rfl (pxi (by rw [eo, cN_nI (by omega), wyS, iw1 X F hi ho, iw2 X F N hi hk, ← show a (20 + k) 2 = fl (7 * k + 1) from X.fk (k := 1) hk (by decide), ← show a (20 + o) 2 = fl (7 * o + 1) from X.fk (k := 1) ho (by decide)]; first | (simp [bI, show ¬ i = o by omega, c_16, c_28, c_40, c_71, c_82, c_94, Int32.not_lt.mp c_110]; done) | (simp [bI, show ¬ i = o by omega, c_16, c_28, c_40, c_71, c_82, c_94, c_110]; done) | (simp [bI, show ¬ i = o by omega, c_16, c_28, c_40, c_71, c_82, c_94]; done) | (simp [bI, show ¬ i = o by omega, c_16, c_28, c_40, c_71, c_82]; done) | (simp [bI, show ¬ i = o by omega, c_16, c_28, c_40, c_71]; done)))
              · refine g_aload_3 (q := 98) C dX3_isWay_97 rfl ?_
                refine g_geti (q := 101) C f_X3_258 dX3_isWay_98 rfl (IX.lf I (by assumption)) (IX.df I (by assumption)) ?_
                refine g_aload_2 (q := 102) C dX3_isWay_101 rfl ?_
                refine g_geti (q := 105) C f_X3_264 dX3_isWay_102 rfl (IX.lf I (by assumption)) (IX.df I (by assumption)) ?_
                refine g_isub (q := 106) C dX3_isWay_105 rfl ?_
                refine g_aload_0 (q := 107) C dX3_isWay_106 rfl ?_
                refine g_geti (q := 110) C f_X3_43 dX3_isWay_107 rfl rfl (IX.d0 I _ (by decide)) ?_
                refine g_icmp_lt (tgt := 117) (q := 113) C dX3_isWay_110 rfl (by decide) (fun c_110 => ?_) (fun c_110 => ?_)
                · refine g_iconst (v := 0) (q := 118) C dX3_isWay_117 rfl (by decide) ?_
                  exact g_zret C RT9 dX3_isWay_118 rfl (pxi (by rw [eo, cN_nI (by omega), wyS, iw1 X F hi ho, iw2 X F N hi hk, ← show a (20 + k) 2 = fl (7 * k + 1) from X.fk (k := 1) hk (by decide), ← show a (20 + o) 2 = fl (7 * o + 1) from X.fk (k := 1) ho (by decide)]; first | (simp [bI, show ¬ i = o by omega, c_16, c_28, c_40, c_71, c_82, c_94, Int32.not_lt.mp c_110]; done) | (simp [bI, show ¬ i = o by omega, c_16, c_28, c_40, c_71, c_82, c_94, c_110]; done) | (simp [bI, show ¬ i = o by omega, c_16, c_28, c_40, c_71, c_82, c_94]; done) | (simp [bI, show ¬ i = o by omega, c_16, c_28, c_40, c_71, c_82]; done) | (simp [bI, show ¬ i = o by omega, c_16, c_28, c_40, c_71]; done)))
                · refine g_iconst (v := 1) (q := 114) C dX3_isWay_113 rfl (by decide) ?_
                  refine g_goto (tgt := 118) C dX3_isWay_114 (by decide) ?_
                  exact g_zret C RT9 dX3_isWay_118 rfl (pxi (by rw [eo, cN_nI (by omega), wyS, iw1 X F hi ho, iw2 X F N hi hk, ← show a (20 + k) 2 = fl (7 * k + 1) from X.fk (k := 1) hk (by decide), ← show a (20 + o) 2 = fl (7 * o + 1) from X.fk (k := 1) ho (by decide)]; first | (simp [bI, show ¬ i = o by omega, c_16, c_28, c_40, c_71, c_82, c_94, Int32.not_lt.mp c_110]; done) | (simp [bI, show ¬ i = o by omega, c_16, c_28, c_40, c_71, c_82, c_94, c_110]; done) | (simp [bI, show ¬ i = o by omega, c_16, c_28, c_40, c_71, c_82, c_94]; done) | (simp [bI, show ¬ i = o by omega, c_16, c_28, c_40, c_71, c_82]; done) | (simp [bI, show ¬ i = o by omega, c_16, c_28, c_40, c_71]; done)))
        · refine g_iconst (v := 0) (q := 44) C dX3_isWay_43 rfl (by decide) ?_
          exact g_zret C RT9 dX3_isWay_44 rfl (pxi (by rw [eo, cN_nI (by omega), wyS, iw1 X F hi ho]; first | (simp [bI, show ¬ i = o by omega, c_16, c_28, c_40]; done) | (simp [bI, show ¬ i = o by omega, c_16, c_28]; done) | (simp [bI, show ¬ i = o by omega, c_16]; done) | (simp [bI, show i = o by omega]; done)))

set_option maxHeartbeats 4000000 in
set_option maxRecDepth 100000 in
theorem m_X3_late (X : XR nF nP fl pa nu dm a r) (F : WF nF fl) (N : WN nu) (p1 f1 f2 : Int32) : MT g bs l yX3_late cX3_late 7 (some .int) 2 0 0 [.ref (ad 0), .int p1, .int f1, .int f2] ad dm a b r (PX (some (.int (if fok nP p1 = true then lbI fl nu nF (cN (pa (9 * cN p1))) f1 f2 else -1))) ad dm a b r) := by
  refine mt_of (by decide) [some (.ref (ad 0)), some (.int p1), some (.int f1), some (.int f2), none, none, none] rfl (Nat.le_of_ble_eq_true rfl) ?_
  intro E hg hbs hl hN C RT9 hcells hslots hname
  have I := X.1
  have hnF := I.1
  have hnP := I.2.1
  refine g_aload_0 (q := 1) C dX3_late_0 rfl ?_
  refine g_iload_1 (q := 2) C dX3_late_1 rfl ?_
  rcases hkp : fok nP p1 with _ | _
  · refine g_cv1i (q := 5) C cv_X3_81 dX3_late_2 rfl rfl (IX.d0 I _ (by decide)) (m_X3_partyAt_n X hkp) (by decide) (Nat.le_of_ble_eq_true rfl) ⟨Nat.zero_le _, Nat.zero_le _⟩ ?_
    refine g_astore_4N (q := 7) C dX3_late_5 rfl (by rw [hN]; decide) rfl ?_
    refine g_aload_0 (q := 8) C dX3_late_7 rfl ?_
    refine g_iload_2 (q := 9) C dX3_late_8 rfl ?_
    rcases hk1 : fok nF f1 with _ | _
    · refine g_cv1i (q := 12) C cv_X3_53 dX3_late_9 rfl rfl (IX.d0 I _ (by decide)) (m_X3_flightAt_n X hk1) (by decide) (Nat.le_of_ble_eq_true rfl) ⟨Nat.zero_le _, Nat.zero_le _⟩ ?_
      refine g_astore_5N (q := 14) C dX3_late_12 rfl (by rw [hN]; decide) rfl ?_
      refine g_aload_0 (q := 15) C dX3_late_14 rfl ?_
      refine g_iload_3 (q := 16) C dX3_late_15 rfl ?_
      rcases hk2 : fok nF f2 with _ | _
      · refine g_cv1i (q := 19) C cv_X3_53 dX3_late_16 rfl rfl (IX.d0 I _ (by decide)) (m_X3_flightAt_n X hk2) (by decide) (Nat.le_of_ble_eq_true rfl) ⟨Nat.zero_le _, Nat.zero_le _⟩ ?_
        refine g_astore_6N (q := 21) C dX3_late_19 rfl (by rw [hN]; decide) rfl ?_
        refine g_aload_4N (q := 23) C dX3_late_21 rfl ?_
        refine g_ifnullN (tgt := 41) C dX3_late_23 (by decide) ?_
        refine g_iconst (v := (-1)) (q := 42) C dX3_late_41 rfl (by decide) ?_
        exact g_iret C RT9 dX3_late_42 (pxi (by first | rw [if_neg (by rw [hkp]; decide)] | (rw [if_pos hkp]; first | (rw [lbI, if_neg (by rw [hk1]; decide)]) | (rw [lbI, if_pos hk1, if_neg c_38, if_neg (by rw [hk2]; decide)]))))
      · obtain ⟨k, hk, rfl⟩ := fok_t hk2 (by omega)
        refine g_cv1i (q := 19) C cv_X3_53 dX3_late_16 rfl rfl (IX.d0 I _ (by decide)) (m_X3_flightAt_y X hk) (by decide) (Nat.le_of_ble_eq_true rfl) ⟨Nat.zero_le _, Nat.zero_le _⟩ ?_
        refine g_astore_6 (q := 21) C dX3_late_19 rfl (by rw [hN]; decide) rfl ?_
        refine g_aload_4N (q := 23) C dX3_late_21 rfl ?_
        refine g_ifnullN (tgt := 41) C dX3_late_23 (by decide) ?_
        refine g_iconst (v := (-1)) (q := 42) C dX3_late_41 rfl (by decide) ?_
        exact g_iret C RT9 dX3_late_42 (pxi (by first | rw [if_neg (by rw [hkp]; decide)] | (rw [if_pos hkp]; first | (rw [lbI, if_neg (by rw [hk1]; decide)]) | (rw [lbI, if_pos hk1, if_neg c_38, if_neg (by rw [hk2]; decide)]))))
    · obtain ⟨i, hi, rfl⟩ := fok_t hk1 (by omega)
      refine g_cv1i (q := 12) C cv_X3_53 dX3_late_9 rfl rfl (IX.d0 I _ (by decide)) (m_X3_flightAt_y X hi) (by decide) (Nat.le_of_ble_eq_true rfl) ⟨Nat.zero_le _, Nat.zero_le _⟩ ?_
      refine g_astore_5 (q := 14) C dX3_late_12 rfl (by rw [hN]; decide) rfl ?_
      refine g_aload_0 (q := 15) C dX3_late_14 rfl ?_
      refine g_iload_3 (q := 16) C dX3_late_15 rfl ?_
      rcases hk2 : fok nF f2 with _ | _
      · refine g_cv1i (q := 19) C cv_X3_53 dX3_late_16 rfl rfl (IX.d0 I _ (by decide)) (m_X3_flightAt_n X hk2) (by decide) (Nat.le_of_ble_eq_true rfl) ⟨Nat.zero_le _, Nat.zero_le _⟩ ?_
        refine g_astore_6N (q := 21) C dX3_late_19 rfl (by rw [hN]; decide) rfl ?_
        refine g_aload_4N (q := 23) C dX3_late_21 rfl ?_
        refine g_ifnullN (tgt := 41) C dX3_late_23 (by decide) ?_
        refine g_iconst (v := (-1)) (q := 42) C dX3_late_41 rfl (by decide) ?_
        exact g_iret C RT9 dX3_late_42 (pxi (by first | rw [if_neg (by rw [hkp]; decide)] | (rw [if_pos hkp]; first | (rw [lbI, if_neg (by rw [hk1]; decide)]) | (rw [lbI, if_pos hk1, if_neg c_38, if_neg (by rw [hk2]; decide)]))))
      · obtain ⟨k, hk, rfl⟩ := fok_t hk2 (by omega)
        refine g_cv1i (q := 19) C cv_X3_53 dX3_late_16 rfl rfl (IX.d0 I _ (by decide)) (m_X3_flightAt_y X hk) (by decide) (Nat.le_of_ble_eq_true rfl) ⟨Nat.zero_le _, Nat.zero_le _⟩ ?_
        refine g_astore_6 (q := 21) C dX3_late_19 rfl (by rw [hN]; decide) rfl ?_
        refine g_aload_4N (q := 23) C dX3_late_21 rfl ?_
        refine g_ifnullN (tgt := 41) C dX3_late_23 (by decide) ?_
        refine g_iconst (v := (-1)) (q := 42) C dX3_late_41 rfl (by decide) ?_
        exact g_iret C RT9 dX3_late_42 (pxi (by first | rw [if_neg (by rw [hkp]; decide)] | (rw [if_pos hkp]; first | (rw [lbI, if_neg (by rw [hk1]; decide)]) | (rw [lbI, if_pos hk1, if_neg c_38, if_neg (by rw [hk2]; decide)]))))
  · obtain ⟨j, hj, rfl⟩ := fok_t hkp (by omega)
    refine g_cv1i (q := 5) C cv_X3_81 dX3_late_2 rfl rfl (IX.d0 I _ (by decide)) (m_X3_partyAt_y X hj) (by decide) (Nat.le_of_ble_eq_true rfl) ⟨Nat.zero_le _, Nat.zero_le _⟩ ?_
    refine g_astore_4 (q := 7) C dX3_late_5 rfl (by rw [hN]; decide) rfl ?_
    refine g_aload_0 (q := 8) C dX3_late_7 rfl ?_
    refine g_iload_2 (q := 9) C dX3_late_8 rfl ?_
    rcases hk1 : fok nF f1 with _ | _
    · refine g_cv1i (q := 12) C cv_X3_53 dX3_late_9 rfl rfl (IX.d0 I _ (by decide)) (m_X3_flightAt_n X hk1) (by decide) (Nat.le_of_ble_eq_true rfl) ⟨Nat.zero_le _, Nat.zero_le _⟩ ?_
      refine g_astore_5N (q := 14) C dX3_late_12 rfl (by rw [hN]; decide) rfl ?_
      refine g_aload_0 (q := 15) C dX3_late_14 rfl ?_
      refine g_iload_3 (q := 16) C dX3_late_15 rfl ?_
      rcases hk2 : fok nF f2 with _ | _
      · refine g_cv1i (q := 19) C cv_X3_53 dX3_late_16 rfl rfl (IX.d0 I _ (by decide)) (m_X3_flightAt_n X hk2) (by decide) (Nat.le_of_ble_eq_true rfl) ⟨Nat.zero_le _, Nat.zero_le _⟩ ?_
        refine g_astore_6N (q := 21) C dX3_late_19 rfl (by rw [hN]; decide) rfl ?_
        refine g_aload_4 (q := 23) C dX3_late_21 rfl ?_
        refine g_ifnull (q := 26) C dX3_late_23 rfl ?_
        refine g_aload_5N (q := 28) C dX3_late_26 rfl ?_
        refine g_ifnullN (tgt := 41) C dX3_late_28 (by decide) ?_
        refine g_iconst (v := (-1)) (q := 42) C dX3_late_41 rfl (by decide) ?_
        exact g_iret C RT9 dX3_late_42 (pxi (by first | rw [if_neg (by rw [hkp]; decide)] | (rw [if_pos hkp]; first | (rw [lbI, if_neg (by rw [hk1]; decide)]) | (rw [lbI, if_pos hk1, if_neg c_38, if_neg (by rw [hk2]; decide)]))))
      · obtain ⟨k, hk, rfl⟩ := fok_t hk2 (by omega)
        refine g_cv1i (q := 19) C cv_X3_53 dX3_late_16 rfl rfl (IX.d0 I _ (by decide)) (m_X3_flightAt_y X hk) (by decide) (Nat.le_of_ble_eq_true rfl) ⟨Nat.zero_le _, Nat.zero_le _⟩ ?_
        refine g_astore_6 (q := 21) C dX3_late_19 rfl (by rw [hN]; decide) rfl ?_
        refine g_aload_4 (q := 23) C dX3_late_21 rfl ?_
        refine g_ifnull (q := 26) C dX3_late_23 rfl ?_
        refine g_aload_5N (q := 28) C dX3_late_26 rfl ?_
        refine g_ifnullN (tgt := 41) C dX3_late_28 (by decide) ?_
        refine g_iconst (v := (-1)) (q := 42) C dX3_late_41 rfl (by decide) ?_
        exact g_iret C RT9 dX3_late_42 (pxi (by first | rw [if_neg (by rw [hkp]; decide)] | (rw [if_pos hkp]; first | (rw [lbI, if_neg (by rw [hk1]; decide)]) | (rw [lbI, if_pos hk1, if_neg c_38, if_neg (by rw [hk2]; decide)]))))
    · obtain ⟨i, hi, rfl⟩ := fok_t hk1 (by omega)
      refine g_cv1i (q := 12) C cv_X3_53 dX3_late_9 rfl rfl (IX.d0 I _ (by decide)) (m_X3_flightAt_y X hi) (by decide) (Nat.le_of_ble_eq_true rfl) ⟨Nat.zero_le _, Nat.zero_le _⟩ ?_
      refine g_astore_5 (q := 14) C dX3_late_12 rfl (by rw [hN]; decide) rfl ?_
      refine g_aload_0 (q := 15) C dX3_late_14 rfl ?_
      refine g_iload_3 (q := 16) C dX3_late_15 rfl ?_
      rcases hk2 : fok nF f2 with _ | _
      · refine g_cv1i (q := 19) C cv_X3_53 dX3_late_16 rfl rfl (IX.d0 I _ (by decide)) (m_X3_flightAt_n X hk2) (by decide) (Nat.le_of_ble_eq_true rfl) ⟨Nat.zero_le _, Nat.zero_le _⟩ ?_
        refine g_astore_6N (q := 21) C dX3_late_19 rfl (by rw [hN]; decide) rfl ?_
        refine g_aload_4 (q := 23) C dX3_late_21 rfl ?_
        refine g_ifnull (q := 26) C dX3_late_23 rfl ?_
        refine g_aload_5 (q := 28) C dX3_late_26 rfl ?_
        refine g_ifnull (q := 31) C dX3_late_28 rfl ?_
        refine g_aload_6N (q := 33) C dX3_late_31 rfl ?_
        refine g_ifnonnullN (q := 36) C dX3_late_33 rfl ?_
        refine g_iload_3 (q := 37) C dX3_late_36 rfl ?_
        refine g_iconst (v := (-1)) (q := 38) C dX3_late_37 rfl (by decide) ?_
        refine g_icmp_eq (tgt := 43) (q := 41) C dX3_late_38 rfl (by decide) (fun c_38 => ?_) (fun c_38 => ?_)
        · refine g_aload_0 (q := 44) C dX3_late_43 rfl ?_
          refine g_aload_4 (q := 46) C dX3_late_44 rfl ?_
          refine g_aload_5 (q := 48) C dX3_late_46 rfl ?_
          refine g_aload_6N (q := 50) C dX3_late_48 rfl ?_
          refine g_cv3i (q := 53) C cv_X3_179 dX3_late_50 rfl rfl (IX.d0 I _ (by decide)) (m_X3_isWay_n X F (by assumption) (by assumption)) (by decide) (Nat.le_of_ble_eq_true rfl) ⟨Nat.zero_le _, Nat.zero_le _⟩ ?_
          refine g_ifeqb (tgt := 68) (q := 56) C dX3_late_53 rfl (by decide) (fun c_53 => ?_) (fun c_53 => ?_)
          · refine g_iconst (v := (-1)) (q := 69) C dX3_late_68 rfl (by decide) ?_
            exact g_iret C RT9 dX3_late_69 (pxi (by rw [if_pos hkp, cN_nI (show j < 2 ^ 31 by omega), lbI, if_pos hk1, cN_nI (show i < 2 ^ 31 by omega)]; first | (rw [if_pos c_38, lbS, if_pos c_53]; rfl) | (rw [if_pos c_38, lbS, if_neg (by rw [c_53]; decide)]) | (rw [if_neg (nI_m1 (by omega)), if_pos hk2, cN_nI (show k < 2 ^ 31 by omega), lbS, if_pos c_53]; rfl) | (rw [if_neg (nI_m1 (by omega)), if_pos hk2, cN_nI (show k < 2 ^ 31 by omega), lbS, if_neg (by rw [c_53]; decide)])))
          · refine g_aload_4 (q := 58) C dX3_late_56 rfl ?_
            refine g_aload_5 (q := 60) C dX3_late_58 rfl ?_
            refine g_aload_6N (q := 62) C dX3_late_60 rfl ?_
            refine g_cv2i (q := 65) C cv_X3_183 dX3_late_62 rfl (IX.lp I (by assumption)) (IX.dp I (by assumption)) (m_X2_lateBy_n X (by assumption) (by assumption)) (by decide) (Nat.le_of_ble_eq_true rfl) ⟨Nat.zero_le _, Nat.zero_le _⟩ ?_
            refine g_goto (tgt := 69) C dX3_late_65 (by decide) ?_
            exact g_iret C RT9 dX3_late_69 (pxi (by rw [if_pos hkp, cN_nI (show j < 2 ^ 31 by omega), lbI, if_pos hk1, cN_nI (show i < 2 ^ 31 by omega)]; first | (rw [if_pos c_38, lbS, if_pos c_53]; rfl) | (rw [if_pos c_38, lbS, if_neg (by rw [c_53]; decide)]) | (rw [if_neg (nI_m1 (by omega)), if_pos hk2, cN_nI (show k < 2 ^ 31 by omega), lbS, if_pos c_53]; rfl) | (rw [if_neg (nI_m1 (by omega)), if_pos hk2, cN_nI (show k < 2 ^ 31 by omega), lbS, if_neg (by rw [c_53]; decide)])))
        · refine g_iconst (v := (-1)) (q := 42) C dX3_late_41 rfl (by decide) ?_
          exact g_iret C RT9 dX3_late_42 (pxi (by first | rw [if_neg (by rw [hkp]; decide)] | (rw [if_pos hkp]; first | (rw [lbI, if_neg (by rw [hk1]; decide)]) | (rw [lbI, if_pos hk1, if_neg c_38, if_neg (by rw [hk2]; decide)]))))
      · obtain ⟨k, hk, rfl⟩ := fok_t hk2 (by omega)
        refine g_cv1i (q := 19) C cv_X3_53 dX3_late_16 rfl rfl (IX.d0 I _ (by decide)) (m_X3_flightAt_y X hk) (by decide) (Nat.le_of_ble_eq_true rfl) ⟨Nat.zero_le _, Nat.zero_le _⟩ ?_
        refine g_astore_6 (q := 21) C dX3_late_19 rfl (by rw [hN]; decide) rfl ?_
        refine g_aload_4 (q := 23) C dX3_late_21 rfl ?_
        refine g_ifnull (q := 26) C dX3_late_23 rfl ?_
        refine g_aload_5 (q := 28) C dX3_late_26 rfl ?_
        refine g_ifnull (q := 31) C dX3_late_28 rfl ?_
        refine g_aload_6 (q := 33) C dX3_late_31 rfl ?_
        refine g_ifnonnull (tgt := 43) C dX3_late_33 (by decide) ?_
        refine g_aload_0 (q := 44) C dX3_late_43 rfl ?_
        refine g_aload_4 (q := 46) C dX3_late_44 rfl ?_
        refine g_aload_5 (q := 48) C dX3_late_46 rfl ?_
        refine g_aload_6 (q := 50) C dX3_late_48 rfl ?_
        refine g_cv3i (q := 53) C cv_X3_179 dX3_late_50 rfl rfl (IX.d0 I _ (by decide)) (m_X3_isWay_r X F N (by assumption) (by assumption) (by assumption)) (by decide) (Nat.le_of_ble_eq_true rfl) ⟨Nat.zero_le _, Nat.zero_le _⟩ ?_
        refine g_ifeqb (tgt := 68) (q := 56) C dX3_late_53 rfl (by decide) (fun c_53 => ?_) (fun c_53 => ?_)
        · refine g_iconst (v := (-1)) (q := 69) C dX3_late_68 rfl (by decide) ?_
          exact g_iret C RT9 dX3_late_69 (pxi (by rw [if_pos hkp, cN_nI (show j < 2 ^ 31 by omega), lbI, if_pos hk1, cN_nI (show i < 2 ^ 31 by omega)]; first | (rw [if_pos c_38, lbS, if_pos c_53]; rfl) | (rw [if_pos c_38, lbS, if_neg (by rw [c_53]; decide)]) | (rw [if_neg (nI_m1 (by omega)), if_pos hk2, cN_nI (show k < 2 ^ 31 by omega), lbS, if_pos c_53]; rfl) | (rw [if_neg (nI_m1 (by omega)), if_pos hk2, cN_nI (show k < 2 ^ 31 by omega), lbS, if_neg (by rw [c_53]; decide)])))
        · refine g_aload_4 (q := 58) C dX3_late_56 rfl ?_
          refine g_aload_5 (q := 60) C dX3_late_58 rfl ?_
          refine g_aload_6 (q := 62) C dX3_late_60 rfl ?_
          refine g_cv2i (q := 65) C cv_X3_183 dX3_late_62 rfl (IX.lp I (by assumption)) (IX.dp I (by assumption)) (m_X2_lateBy_r X (by assumption) (by assumption) (by assumption)) (by decide) (Nat.le_of_ble_eq_true rfl) ⟨Nat.zero_le _, Nat.zero_le _⟩ ?_
          refine g_goto (tgt := 69) C dX3_late_65 (by decide) ?_
          exact g_iret C RT9 dX3_late_69 (pxi (by rw [if_pos hkp, cN_nI (show j < 2 ^ 31 by omega), lbI, if_pos hk1, cN_nI (show i < 2 ^ 31 by omega)]; first | (rw [if_pos c_38, lbS, if_pos c_53]; rfl) | (rw [if_pos c_38, lbS, if_neg (by rw [c_53]; decide)]) | (rw [if_neg (nI_m1 (by omega)), if_pos hk2, cN_nI (show k < 2 ^ 31 by omega), lbS, if_pos c_53]; rfl) | (rw [if_neg (nI_m1 (by omega)), if_pos hk2, cN_nI (show k < 2 ^ 31 by omega), lbS, if_neg (by rw [c_53]; decide)])))

end X17
