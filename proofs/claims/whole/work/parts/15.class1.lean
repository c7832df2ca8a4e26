section X15
variable {g : GM} {bs : Nat} {l : Launch} {ad : Nat → Nat} {dm : Nat → Bool} {a : Nat → Nat → Int32} {b : Nat → Nat → Int64} {r : Nat → Nat → Option Nat} {nF nP : Nat} {fl pa nu : Nat → Int32}
set_option maxHeartbeats 4000000 in
set_option maxRecDepth 100000 in
theorem m_X2_fliesOn (X : XR nF nP fl pa nu dm a r) {j i : Nat} (hj : j < nP) (hi : i < nF) : MT g bs l yX2_fliesOn cX2_fliesOn 2 (some .boolean) 0 0 0 [.ref (ad (30 + j)), .ref (ad (20 + i))] ad dm a b r (PX (some (.int (bI (fyS pa (nI i) j)))) ad dm a b r) := by
  refine mt_of (by decide) [some (.ref (ad (30 + j))), some (.ref (ad (20 + i)))] rfl (Nat.le_of_ble_eq_true rfl) ?_
  intro E hg hbs hl hN C RT9 hcells hslots hname
  have I := X.1
  have hnF := I.1
  have hnP := I.2.1
  obtain ⟨o, ho, ro, eo, e1, e2, e3, e4, e5, e6, w7, w8⟩ := X.pt hj
  refine g_aload_0 (q := 1) C dX2_fliesOn_0 rfl ?_
  refine g_geti (q := 4) C f_X2_9 dX2_fliesOn_1 rfl (IX.lp I (by assumption)) (IX.dp I (by assumption)) ?_
  refine g_if_ne (tgt := 19) (q := 7) C dX2_fliesOn_4 rfl (by decide) (fun c_4 => ?_) (fun c_4 => ?_)
  · refine g_iconst (v := 0) (q := 20) C dX2_fliesOn_19 rfl (by decide) ?_
    exact g_zret C RT9 dX2_fliesOn_20 rfl (pxi (by rw [fyS, eo, e5]; first | (simp [bI, c_4, nI_in8 ho hi hnF, show ¬ o = i by omega]; done) | (simp [bI, c_4, nI_in8 ho hi hnF, show o = i by omega]; done) | (simp [bI, c_4]; done)))
  · refine g_aload_0 (q := 8) C dX2_fliesOn_7 rfl ?_
    refine g_getr (q := 11) C f_X2_25 dX2_fliesOn_8 rfl (IX.lp I (by assumption)) (IX.dp I (by assumption)) ro ?_
    refine g_aload_1 (q := 12) C dX2_fliesOn_11 rfl ?_
    refine g_acmp_ne (tgt := 19) (q := 15) C dX2_fliesOn_12 rfl (by decide) (IX.df I (by assumption)) (IX.df I (by assumption)) (fun c_12 => ?_) (fun c_12 => ?_)
    · refine g_iconst (v := 0) (q := 20) C dX2_fliesOn_19 rfl (by decide) ?_
      exact g_zret C RT9 dX2_fliesOn_20 rfl (pxi (by rw [fyS, eo, e5]; first | (simp [bI, c_4, nI_in8 ho hi hnF, show ¬ o = i by omega]; done) | (simp [bI, c_4, nI_in8 ho hi hnF, show o = i by omega]; done) | (simp [bI, c_4]; done)))
    · refine g_iconst (v := 1) (q := 16) C dX2_fliesOn_15 rfl (by decide) ?_
      refine g_goto (tgt := 20) C dX2_fliesOn_16 (by decide) ?_
      exact g_zret C RT9 dX2_fliesOn_20 rfl (pxi (by rw [fyS, eo, e5]; first | (simp [bI, c_4, nI_in8 ho hi hnF, show ¬ o = i by omega]; done) | (simp [bI, c_4, nI_in8 ho hi hnF, show o = i by omega]; done) | (simp [bI, c_4]; done)))

set_option maxHeartbeats 4000000 in
set_option maxRecDepth 100000 in
theorem m_X2_wouldGive (X : XR nF nP fl pa nu dm a r) {j i : Nat} (hj : j < nP) (hi : i < nF) : MT g bs l yX2_wouldGive cX2_wouldGive 2 (some .boolean) 1 0 0 [.ref (ad (30 + j)), .ref (ad (20 + i))] ad dm a b r (PX (some (.int (bI (mgS pa (nI i) j)))) ad dm a b r) := by
  refine mt_of (by decide) [some (.ref (ad (30 + j))), some (.ref (ad (20 + i)))] rfl (Nat.le_of_ble_eq_true rfl) ?_
  intro E hg hbs hl hN C RT9 hcells hslots hname
  have I := X.1
  have hnF := I.1
  have hnP := I.2.1
  obtain ⟨o, ho, ro, eo, e1, e2, e3, e4, e5, e6, w7, w8⟩ := X.pt hj
  refine g_aload_0 (q := 1) C dX2_wouldGive_0 rfl ?_
  refine g_aload_1 (q := 2) C dX2_wouldGive_1 rfl ?_
  refine g_cv1i (q := 5) C cv_X2_41 dX2_wouldGive_2 rfl (IX.lp I (by assumption)) (IX.dp I (by assumption)) (m_X2_fliesOn X (by assumption) (by assumption)) (by decide) (Nat.le_of_ble_eq_true rfl) ⟨Nat.zero_le _, Nat.zero_le _⟩ ?_
  refine g_ifeqb (tgt := 27) (q := 8) C dX2_wouldGive_5 rfl (by decide) (fun c_5 => ?_) (fun c_5 => ?_)
  · refine g_iconst (v := 0) (q := 28) C dX2_wouldGive_27 rfl (by decide) ?_
    exact g_zret C RT9 dX2_wouldGive_28 rfl (pxi (by rw [mg_fy, e3, e4]; first | (simp [bI, c_5, c_13, c_20]) | (simp [bI, c_5, c_13]) | (simp [bI, c_5])))
  · refine g_aload_0 (q := 9) C dX2_wouldGive_8 rfl ?_
    refine g_geti (q := 12) C f_X2_34 dX2_wouldGive_9 rfl (IX.lp I (by assumption)) (IX.dp I (by assumption)) ?_
    refine g_iconst (v := (-1)) (q := 13) C dX2_wouldGive_12 rfl (by decide) ?_
    refine g_icmp_eq (tgt := 27) (q := 16) C dX2_wouldGive_13 rfl (by decide) (fun c_13 => ?_) (fun c_13 => ?_)
    · refine g_iconst (v := 0) (q := 28) C dX2_wouldGive_27 rfl (by decide) ?_
      exact g_zret C RT9 dX2_wouldGive_28 rfl (pxi (by rw [mg_fy, e3, e4]; first | (simp [bI, c_5, c_13, c_20]) | (simp [bI, c_5, c_13]) | (simp [bI, c_5])))
    · refine g_aload_0 (q := 17) C dX2_wouldGive_16 rfl ?_
      refine g_geti (q := 20) C f_X2_37 dX2_wouldGive_17 rfl (IX.lp I (by assumption)) (IX.dp I (by assumption)) ?_
      refine g_if_ne (tgt := 27) (q := 23) C dX2_wouldGive_20 rfl (by decide) (fun c_20 => ?_) (fun c_20 => ?_)
      · refine g_iconst (v := 0) (q := 28) C dX2_wouldGive_27 rfl (by decide) ?_
        exact g_zret C RT9 dX2_wouldGive_28 rfl (pxi (by rw [mg_fy, e3, e4]; first | (simp [bI, c_5, c_13, c_20]) | (simp [bI, c_5, c_13]) | (simp [bI, c_5])))
      · refine g_iconst (v := 1) (q := 24) C dX2_wouldGive_23 rfl (by decide) ?_
        refine g_goto (tgt := 28) C dX2_wouldGive_24 (by decide) ?_
        exact g_zret C RT9 dX2_wouldGive_28 rfl (pxi (by rw [mg_fy, e3, e4]; first | (simp [bI, c_5, c_13, c_20]) | (simp [bI, c_5, c_13]) | (simp [bI, c_5])))

set_option maxHeartbeats 4000000 in
set_option maxRecDepth 100000 in
theorem m_X2_isStranded (X : XR nF nP fl pa nu dm a r) {j : Nat} (hj : j < nP) : MT g bs l yX2_isStranded cX2_isStranded 1 (some .boolean) 0 0 0 [.ref (ad (30 + j))] ad dm a b r (PX (some (.int (bI (sdS pa j)))) ad dm a b r) := by
  refine mt_of (by decide) [some (.ref (ad (30 + j)))] rfl (Nat.le_of_ble_eq_true rfl) ?_
  intro E hg hbs hl hN C RT9 hcells hslots hname
  have I := X.1
  have hnF := I.1
  have hnP := I.2.1
  obtain ⟨o, ho, ro, eo, e1, e2, e3, e4, e5, e6, w7, w8⟩ := X.pt hj
  refine g_aload_0 (q := 1) C dX2_isStranded_0 rfl ?_
  refine g_geti (q := 4) C f_X2_9 dX2_isStranded_1 rfl (IX.lp I (by assumption)) (IX.dp I (by assumption)) ?_
  refine g_if_eq (tgt := 18) (q := 7) C dX2_isStranded_4 rfl (by decide) (fun c_4 => ?_) (fun c_4 => ?_)
  · refine g_iconst (v := 0) (q := 19) C dX2_isStranded_18 rfl (by decide) ?_
    exact g_zret C RT9 dX2_isStranded_19 rfl (pxi (by rw [sdS, e5]; first | (simp [bI, c_4, v7, nI_m1 (show k7 < 2 ^ 31 by omega)]; done) | (simp [bI, c_4, v7]; done) | (simp [bI, c_4]; done)))
  · refine g_aload_0 (q := 8) C dX2_isStranded_7 rfl ?_
    rcases w7 with ⟨r7, v7⟩ | ⟨k7, hk7, r7, v7⟩
    · refine g_getrN (q := 11) C f_X2_18 dX2_isStranded_8 rfl (IX.lp I (by assumption)) (IX.dp I (by assumption)) r7 ?_
      refine g_ifnonnullN (q := 14) C dX2_isStranded_11 rfl ?_
      refine g_iconst (v := 1) (q := 15) C dX2_isStranded_14 rfl (by decide) ?_
      refine g_goto (tgt := 19) C dX2_isStranded_15 (by decide) ?_
      exact g_zret C RT9 dX2_isStranded_19 rfl (pxi (by rw [sdS, e5]; first | (simp [bI, c_4, v7, nI_m1 (show k7 < 2 ^ 31 by omega)]; done) | (simp [bI, c_4, v7]; done) | (simp [bI, c_4]; done)))
    · refine g_getr (q := 11) C f_X2_18 dX2_isStranded_8 rfl (IX.lp I (by assumption)) (IX.dp I (by assumption)) r7 ?_
      refine g_ifnonnull (tgt := 18) C dX2_isStranded_11 (by decide) ?_
      refine g_iconst (v := 0) (q := 19) C dX2_isStranded_18 rfl (by decide) ?_
      exact g_zret C RT9 dX2_isStranded_19 rfl (pxi (by rw [sdS, e5]; first | (simp [bI, c_4, v7, nI_m1 (show k7 < 2 ^ 31 by omega)]; done) | (simp [bI, c_4, v7]; done) | (simp [bI, c_4]; done)))

set_option maxHeartbeats 4000000 in
set_option maxRecDepth 100000 in
theorem m_X2_giveUp (I : IX dm nF nP) {j : Nat} (hj : j < nP) (x y : Int32) : MT g bs l yX2_giveUp cX2_giveUp 3 none 0 0 0 [.ref (ad (30 + j)), .int x, .int y] ad dm a b r (PX none ad dm (u2 (u2 a (30 + j) 5 x) (30 + j) 6 y) b r) := by
  refine mt_of (by decide) [some (.ref (ad (30 + j))), some (.int x), some (.int y)] rfl (Nat.le_of_ble_eq_true rfl) ?_
  intro E hg hbs hl hN C RT9 hcells hslots hname
  refine g_aload_0 (q := 1) C dX2_giveUp_0 rfl ?_
  refine g_iload_1 (q := 2) C dX2_giveUp_1 rfl ?_
  refine g_puti (q := 5) C p_X2_9 dX2_giveUp_2 rfl (IX.lp I (by assumption)) (IX.dp I (by assumption)) rfl rfl ?_
  refine g_aload_0 (q := 6) C dX2_giveUp_5 rfl ?_
  refine g_iload_2 (q := 7) C dX2_giveUp_6 rfl ?_
  refine g_puti (q := 10) C p_X2_15 dX2_giveUp_7 rfl (IX.lp I (by assumption)) (IX.dp I (by assumption)) rfl rfl ?_
  exact g_vret C RT9 dX2_giveUp_10 (px rfl)

set_option maxHeartbeats 4000000 in
set_option maxRecDepth 100000 in
theorem m_X2_takeWay_rr (I : IX dm nF nP) {j : Nat} (hj : j < nP) (x y : Nat) : MT g bs l yX2_takeWay cX2_takeWay 3 none 0 0 0 [.ref (ad (30 + j)), .ref (ad x), .ref (ad y)] ad dm a b r (PX none ad dm a b (u2 (u2 r (30 + j) 7 (some x)) (30 + j) 8 (some y))) := by
  refine mt_of (by decide) [some (.ref (ad (30 + j))), some (.ref (ad x)), some (.ref (ad y))] rfl (Nat.le_of_ble_eq_true rfl) ?_
  intro E hg hbs hl hN C RT9 hcells hslots hname
  refine g_aload_0 (q := 1) C dX2_takeWay_0 rfl ?_
  refine g_aload_1 (q := 2) C dX2_takeWay_1 rfl ?_
  refine g_putr (q := 5) C p_X2_18 dX2_takeWay_2 rfl (IX.lp I (by assumption)) (IX.dp I (by assumption)) rfl rfl ?_
  refine g_aload_0 (q := 6) C dX2_takeWay_5 rfl ?_
  refine g_aload_2 (q := 7) C dX2_takeWay_6 rfl ?_
  refine g_putr (q := 10) C p_X2_22 dX2_takeWay_7 rfl (IX.lp I (by assumption)) (IX.dp I (by assumption)) rfl rfl ?_
  exact g_vret C RT9 dX2_takeWay_10 (px rfl)

set_option maxHeartbeats 4000000 in
set_option maxRecDepth 100000 in
theorem m_X2_takeWay_rn (I : IX dm nF nP) {j : Nat} (hj : j < nP) (x : Nat) : MT g bs l yX2_takeWay cX2_takeWay 3 none 0 0 0 [.ref (ad (30 + j)), .ref (ad x), .null] ad dm a b r (PX none ad dm a b (u2 (u2 r (30 + j) 7 (some x)) (30 + j) 8 (none))) := by
  refine mt_of (by decide) [some (.ref (ad (30 + j))), some (.ref (ad x)), some (.null)] rfl (Nat.le_of_ble_eq_true rfl) ?_
  intro E hg hbs hl hN C RT9 hcells hslots hname
  refine g_aload_0 (q := 1) C dX2_takeWay_0 rfl ?_
  refine g_aload_1 (q := 2) C dX2_takeWay_1 rfl ?_
  refine g_putr (q := 5) C p_X2_18 dX2_takeWay_2 rfl (IX.lp I (by assumption)) (IX.dp I (by assumption)) rfl rfl ?_
  refine g_aload_0 (q := 6) C dX2_takeWay_5 rfl ?_
  refine g_aload_2N (q := 7) C dX2_takeWay_6 rfl ?_
  refine g_putrN (q := 10) C p_X2_22 dX2_takeWay_7 rfl (IX.lp I (by assumption)) (IX.dp I (by assumption)) rfl rfl ?_
  exact g_vret C RT9 dX2_takeWay_10 (px rfl)

set_option maxHeartbeats 4000000 in
set_option maxRecDepth 100000 in
theorem m_X2_takeWay_nn (I : IX dm nF nP) {j : Nat} (hj : j < nP)  : MT g bs l yX2_takeWay cX2_takeWay 3 none 0 0 0 [.ref (ad (30 + j)), .null, .null] ad dm a b r (PX none ad dm a b (u2 (u2 r (30 + j) 7 (none)) (30 + j) 8 (none))) := by
  refine mt_of (by decide) [some (.ref (ad (30 + j))), some (.null), some (.null)] rfl (Nat.le_of_ble_eq_true rfl) ?_
  intro E hg hbs hl hN C RT9 hcells hslots hname
  refine g_aload_0 (q := 1) C dX2_takeWay_0 rfl ?_
  refine g_aload_1N (q := 2) C dX2_takeWay_1 rfl ?_
  refine g_putrN (q := 5) C p_X2_18 dX2_takeWay_2 rfl (IX.lp I (by assumption)) (IX.dp I (by assumption)) rfl rfl ?_
  refine g_aload_0 (q := 6) C dX2_takeWay_5 rfl ?_
  refine g_aload_2N (q := 7) C dX2_takeWay_6 rfl ?_
  refine g_putrN (q := 10) C p_X2_22 dX2_takeWay_7 rfl (IX.lp I (by assumption)) (IX.dp I (by assumption)) rfl rfl ?_
  exact g_vret C RT9 dX2_takeWay_10 (px rfl)

set_option maxHeartbeats 4000000 in
set_option maxRecDepth 100000 in
theorem m_X2_flyAgain (I : IX dm nF nP) {j : Nat} (hj : j < nP) : MT g bs l yX2_flyAgain cX2_flyAgain 1 none 1 0 0 [.ref (ad (30 + j))] ad dm a b r (PX none ad dm (u2 (u2 a (30 + j) 5 0) (30 + j) 6 0) b (u2 (u2 r (30 + j) 7 none) (30 + j) 8 none)) := by
  refine mt_of (by decide) [some (.ref (ad (30 + j)))] rfl (Nat.le_of_ble_eq_true rfl) ?_
  intro E hg hbs hl hN C RT9 hcells hslots hname
  refine g_aload_0 (q := 1) C dX2_flyAgain_0 rfl ?_
  refine g_iconst (v := 0) (q := 2) C dX2_flyAgain_1 rfl (by decide) ?_
  refine g_iconst (v := 0) (q := 3) C dX2_flyAgain_2 rfl (by decide) ?_
  refine g_cv2v (q := 6) C cv_X2_45 dX2_flyAgain_3 rfl (IX.lp I (by assumption)) (IX.dp I (by assumption)) (m_X2_giveUp I (by assumption) _ _) (by decide) (Nat.le_of_ble_eq_true rfl) ⟨Nat.zero_le _, Nat.zero_le _⟩ ?_
  refine g_aload_0 (q := 7) C dX2_flyAgain_6 rfl ?_
  refine g_null (q := 8) C dX2_flyAgain_7 rfl ?_
  refine g_null (q := 9) C dX2_flyAgain_8 rfl ?_
  refine g_cv2v (q := 12) C cv_X2_49 dX2_flyAgain_9 rfl (IX.lp I (by assumption)) (IX.dp I (by assumption)) (m_X2_takeWay_nn I (by assumption)) (by decide) (Nat.le_of_ble_eq_true rfl) ⟨Nat.zero_le _, Nat.zero_le _⟩ ?_
  exact g_vret C RT9 dX2_flyAgain_12 (px rfl)

set_option maxHeartbeats 4000000 in
set_option maxRecDepth 100000 in
theorem m_X2_lateBy_n (X : XR nF nP fl pa nu dm a r) {j i : Nat} (hj : j < nP) (hi : i < nF) : MT g bs l yX2_lateBy cX2_lateBy 4 (some .int) 1 0 0 [.ref (ad (30 + j)), .ref (ad (20 + i)), .null] ad dm a b r (PX (some (.int (ltS fl (cN (pa (9 * j))) i))) ad dm a b r) := by
  refine mt_of (by decide) [some (.ref (ad (30 + j))), some (.ref (ad (20 + i))), some (.null), none] rfl (Nat.le_of_ble_eq_true rfl) ?_
  intro E hg hbs hl hN C RT9 hcells hslots hname
  have I := X.1
  have hnF := I.1
  have hnP := I.2.1
  obtain ⟨o, ho, ro, eo, e1, e2, e3, e4, e5, e6, w7, w8⟩ := X.pt hj
  refine g_aload_2N (q := 1) C dX2_lateBy_0 rfl ?_
  refine g_ifnonnullN (q := 4) C dX2_lateBy_1 rfl ?_
  refine g_aload_1 (q := 5) C dX2_lateBy_4 rfl ?_
  refine g_geti (q := 8) C f_X2_53 dX2_lateBy_5 rfl (IX.lf I (by assumption)) (IX.df I (by assumption)) ?_
  refine g_goto (tgt := 15) C dX2_lateBy_8 (by decide) ?_
  refine g_istore_3 (q := 16) C dX2_lateBy_15 rfl (by rw [hN]; decide) rfl ?_
  refine g_iconst (v := 0) (q := 17) C dX2_lateBy_16 rfl (by decide) ?_
  refine g_iload_3 (q := 18) C dX2_lateBy_17 rfl ?_
  refine g_aload_0 (q := 19) C dX2_lateBy_18 rfl ?_
  refine g_getr (q := 22) C f_X2_25 dX2_lateBy_19 rfl (IX.lp I (by assumption)) (IX.dp I (by assumption)) ro ?_
  refine g_geti (q := 25) C f_X2_53 dX2_lateBy_22 rfl (IX.lf I (by assumption)) (IX.df I (by assumption)) ?_
  refine g_isub (q := 26) C dX2_lateBy_25 rfl ?_
  refine g_mmax (q := 29) C cm_X2_58 dX2_lateBy_26 rfl (by decide) (Nat.le_of_ble_eq_true rfl) ⟨Nat.zero_le _, Nat.zero_le _⟩ ?_
  exact g_iret C RT9 dX2_lateBy_29 (pxi (by rw [ltS, eo, cN_nI (by omega), ← X.fk (k := 3) ho (by decide), ← X.fk (k := 3) hi (by decide)]; rfl))

set_option maxHeartbeats 4000000 in
set_option maxRecDepth 100000 in
theorem m_X2_lateBy_r (X : XR nF nP fl pa nu dm a r) {j i k : Nat} (hj : j < nP) (hi : i < nF) (hk : k < nF) : MT g bs l yX2_lateBy cX2_lateBy 4 (some .int) 1 0 0 [.ref (ad (30 + j)), .ref (ad (20 + i)), .ref (ad (20 + k))] ad dm a b r (PX (some (.int (ltS fl (cN (pa (9 * j))) k))) ad dm a b r) := by
  refine mt_of (by decide) [some (.ref (ad (30 + j))), some (.ref (ad (20 + i))), some (.ref (ad (20 + k))), none] rfl (Nat.le_of_ble_eq_true rfl) ?_
  intro E hg hbs hl hN C RT9 hcells hslots hname
  have I := X.1
  have hnF := I.1
  have hnP := I.2.1
  obtain ⟨o, ho, ro, eo, e1, e2, e3, e4, e5, e6, w7, w8⟩ := X.pt hj
  refine g_aload_2 (q := 1) C dX2_lateBy_0 rfl ?_
  refine g_ifnonnull (tgt := 11) C dX2_lateBy_1 (by decide) ?_
  refine g_aload_2 (q := 12) C dX2_lateBy_11 rfl ?_
  refine g_geti (q := 15) C f_X2_53 dX2_lateBy_12 rfl (IX.lf I (by assumption)) (IX.df I (by assumption)) ?_
  refine g_istore_3 (q := 16) C dX2_lateBy_15 rfl (by rw [hN]; decide) rfl ?_
  refine g_iconst (v := 0) (q := 17) C dX2_lateBy_16 rfl (by decide) ?_
  refine g_iload_3 (q := 18) C dX2_lateBy_17 rfl ?_
  refine g_aload_0 (q := 19) C dX2_lateBy_18 rfl ?_
  refine g_getr (q := 22) C f_X2_25 dX2_lateBy_19 rfl (IX.lp I (by assumption)) (IX.dp I (by assumption)) ro ?_
  refine g_geti (q := 25) C f_X2_53 dX2_lateBy_22 rfl (IX.lf I (by assumption)) (IX.df I (by assumption)) ?_
  refine g_isub (q := 26) C dX2_lateBy_25 rfl ?_
  refine g_mmax (q := 29) C cm_X2_58 dX2_lateBy_26 rfl (by decide) (Nat.le_of_ble_eq_true rfl) ⟨Nat.zero_le _, Nat.zero_le _⟩ ?_
  exact g_iret C RT9 dX2_lateBy_29 (pxi (by rw [ltS, eo, cN_nI (by omega), ← X.fk (k := 3) ho (by decide), ← X.fk (k := 3) hk (by decide)]; rfl))

set_option maxHeartbeats 4000000 in
set_option maxRecDepth 100000 in
theorem m_X2_lateByWay (X : XR nF nP fl pa nu dm a r) {j : Nat} (hj : j < nP) : MT g bs l yX2_lateByWay cX2_lateByWay 1 (some .int) 2 0 0 [.ref (ad (30 + j))] ad dm a b r (PX (some (.int (loS fl pa j))) ad dm a b r) := by
  refine mt_of (by decide) [some (.ref (ad (30 + j)))] rfl (Nat.le_of_ble_eq_true rfl) ?_
  intro E hg hbs hl hN C RT9 hcells hslots hname
  have I := X.1
  have hnF := I.1
  have hnP := I.2.1
  obtain ⟨o, ho, ro, eo, e1, e2, e3, e4, e5, e6, w7, w8⟩ := X.pt hj
  refine g_aload_0 (q := 1) C dX2_lateByWay_0 rfl ?_
  rcases w7 with ⟨r7, v7⟩ | ⟨k7, hk7, r7, v7⟩
  · refine g_getrN (q := 4) C f_X2_18 dX2_lateByWay_1 rfl (IX.lp I (by assumption)) (IX.dp I (by assumption)) r7 ?_
    refine g_ifnonnullN (q := 7) C dX2_lateByWay_4 rfl ?_
    refine g_iconst (v := (-1)) (q := 8) C dX2_lateByWay_7 rfl (by decide) ?_
    refine g_goto (tgt := 23) C dX2_lateByWay_8 (by decide) ?_
    exact g_iret C RT9 dX2_lateByWay_23 (pxi (by rw [loS]; first | (rw [if_pos v7]) | (rw [if_neg (by rw [v7]; exact nI_m1 (by omega)), if_pos v8, v7, cN_nI (by omega)]) | (rw [if_neg (by rw [v7]; exact nI_m1 (by omega)), if_neg (by rw [v8]; exact nI_m1 (by omega)), v8, cN_nI (by omega)])))
  · refine g_getr (q := 4) C f_X2_18 dX2_lateByWay_1 rfl (IX.lp I (by assumption)) (IX.dp I (by assumption)) r7 ?_
    refine g_ifnonnull (tgt := 11) C dX2_lateByWay_4 (by decide) ?_
    refine g_aload_0 (q := 12) C dX2_lateByWay_11 rfl ?_
    refine g_aload_0 (q := 13) C dX2_lateByWay_12 rfl ?_
    refine g_getr (q := 16) C f_X2_18 dX2_lateByWay_13 rfl (IX.lp I (by assumption)) (IX.dp I (by assumption)) r7 ?_
    refine g_aload_0 (q := 17) C dX2_lateByWay_16 rfl ?_
    rcases w8 with ⟨r8, v8⟩ | ⟨k8, hk8, r8, v8⟩
    · refine g_getrN (q := 20) C f_X2_22 dX2_lateByWay_17 rfl (IX.lp I (by assumption)) (IX.dp I (by assumption)) r8 ?_
      refine g_cv2i (q := 23) C cv_X2_64 dX2_lateByWay_20 rfl (IX.lp I (by assumption)) (IX.dp I (by assumption)) (m_X2_lateBy_n X (by assumption) (by assumption)) (by decide) (Nat.le_of_ble_eq_true rfl) ⟨Nat.zero_le _, Nat.zero_le _⟩ ?_
      exact g_iret C RT9 dX2_lateByWay_23 (pxi (by rw [loS]; first | (rw [if_pos v7]) | (rw [if_neg (by rw [v7]; exact nI_m1 (by omega)), if_pos v8, v7, cN_nI (by omega)]) | (rw [if_neg (by rw [v7]; exact nI_m1 (by omega)), if_neg (by rw [v8]; exact nI_m1 (by omega)), v8, cN_nI (by omega)])))
    · refine g_getr (q := 20) C f_X2_22 dX2_lateByWay_17 rfl (IX.lp I (by assumption)) (IX.dp I (by assumption)) r8 ?_
      refine g_cv2i (q := 23) C cv_X2_64 dX2_lateByWay_20 rfl (IX.lp I (by assumption)) (IX.dp I (by assumption)) (m_X2_lateBy_r X (by assumption) (by assumption) (by assumption)) (by decide) (Nat.le_of_ble_eq_true rfl) ⟨Nat.zero_le _, Nat.zero_le _⟩ ?_
      exact g_iret C RT9 dX2_lateByWay_23 (pxi (by rw [loS]; first | (rw [if_pos v7]) | (rw [if_neg (by rw [v7]; exact nI_m1 (by omega)), if_pos v8, v7, cN_nI (by omega)]) | (rw [if_neg (by rw [v7]; exact nI_m1 (by omega)), if_neg (by rw [v8]; exact nI_m1 (by omega)), v8, cN_nI (by omega)])))

set_option maxHeartbeats 4000000 in
set_option maxRecDepth 100000 in
theorem m_X3_within (v x y : Int32) : MT g bs l yX3_within cX3_within 3 (some .boolean) 0 0 0 [.int v, .int x, .int y] ad dm a b r (PX (some (.int (bI (inR v x y)))) ad dm a b r) := by
  refine mt_of (by decide) [some (.int v), some (.int x), some (.int y)] rfl (Nat.le_of_ble_eq_true rfl) ?_
  intro E hg hbs hl hN C RT9 hcells hslots hname
  refine g_iload_0 (q := 1) C dX3_within_0 rfl ?_
  refine g_iload_1 (q := 2) C dX3_within_1 rfl ?_
  refine g_icmp_lt (tgt := 14) (q := 5) C dX3_within_2 rfl (by decide) (fun c_2 => ?_) (fun c_2 => ?_)
  · refine g_iconst (v := 0) (q := 15) C dX3_within_14 rfl (by decide) ?_
    exact g_zret C RT9 dX3_within_15 rfl (pxi (by first | (rw [in_f1 c_2]; rfl) | (rw [in_f2 c_7]; rfl) | (rw [in_t c_2 c_7]; rfl)))
  · refine g_iload_0 (q := 6) C dX3_within_5 rfl ?_
    refine g_iload_2 (q := 7) C dX3_within_6 rfl ?_
    refine g_icmp_gt (tgt := 14) (q := 10) C dX3_within_7 rfl (by decide) (fun c_7 => ?_) (fun c_7 => ?_)
    · refine g_iconst (v := 0) (q := 15) C dX3_within_14 rfl (by decide) ?_
      exact g_zret C RT9 dX3_within_15 rfl (pxi (by first | (rw [in_f1 c_2]; rfl) | (rw [in_f2 c_7]; rfl) | (rw [in_t c_2 c_7]; rfl)))
    · refine g_iconst (v := 1) (q := 11) C dX3_within_10 rfl (by decide) ?_
      refine g_goto (tgt := 15) C dX3_within_11 (by decide) ?_
      exact g_zret C RT9 dX3_within_15 rfl (pxi (by first | (rw [in_f1 c_2]; rfl) | (rw [in_f2 c_7]; rfl) | (rw [in_t c_2 c_7]; rfl)))

theorem fok_x {c x : Int32} {n : Nat} (hc : c = nI n) (h1 : ¬ x < 0) (h2 : ¬ c ≤ x) (hn : n < 2 ^ 30) : fok n x = true := by
  subst hc
  refine in_t h1 ?_
  rw [i_lt, nm1 hn]
  rw [i_le, nI_toInt (by omega)] at h2
  omega
set_option maxHeartbeats 4000000 in
set_option maxRecDepth 100000 in
theorem m_X3_flightAt_y (X : XR nF nP fl pa nu dm a r) {i : Nat} (hi : i < nF) : MT g bs l yX3_flightAt cX3_flightAt 2 (some (.object "TooMany$Flight")) 0 0 0 [.ref (ad 0), .int (nI i)] ad dm a b r (PX (some (.ref (ad (20 + i)))) ad dm a b r) := by
  refine mt_of (by decide) [some (.ref (ad 0)), some (.int (nI i))] rfl (Nat.le_of_ble_eq_true rfl) ?_
  intro E hg hbs hl hN C RT9 hcells hslots hname
  have I := X.1
  have hnF := I.1
  have hnP := I.2.1
  refine g_iload_1 (q := 1) C dX3_flightAt_0 rfl ?_
  refine g_if_lt (tgt := 21) (q := 4) C dX3_flightAt_1 rfl (by decide) (fun c_1 => absurd c_1 (nI_pos (by omega))) (fun c_1 => ?_)
  refine g_iload_1 (q := 5) C dX3_flightAt_4 rfl ?_
  refine g_aload_0 (q := 6) C dX3_flightAt_5 rfl ?_
  refine g_geti (q := 9) C f_X3_36 dX3_flightAt_6 rfl rfl (IX.d0 I _ (by decide)) ?_
  refine g_icmp_ge (tgt := 21) (q := 12) C dX3_flightAt_9 rfl (by decide) (fun c_9 => absurd c_9 (by rw [X.nF]; exact nI_ge hi (by omega))) (fun c_9 => ?_)
  refine g_aload_0 (q := 13) C dX3_flightAt_12 rfl ?_
  refine g_getc (q := 16) (m := 1) C f_X3_11 dX3_flightAt_13 rfl rfl (IX.d0 I _ (by decide)) ?_
  refine g_iload_1 (q := 17) C dX3_flightAt_16 rfl ?_
  refine g_aaF (q := 18) C dX3_flightAt_17 rfl rfl (IX.d0 I _ (by decide)) rfl (by omega) (by decide) (XR.rf X hi) ?_
  refine g_goto (tgt := 22) C dX3_flightAt_18 (by decide) ?_
  exact g_aret C RT9 dX3_flightAt_22 (Or.inr ⟨_, rfl⟩) (px rfl)

set_option maxHeartbeats 4000000 in
set_option maxRecDepth 100000 in
theorem m_X3_flightAt_n (X : XR nF nP fl pa nu dm a r) {x : Int32} (hi : fok nF x = false) : MT g bs l yX3_flightAt cX3_flightAt 2 (some (.object "TooMany$Flight")) 0 0 0 [.ref (ad 0), .int x] ad dm a b r (PX (some .null) ad dm a b r) := by
  refine mt_of (by decide) [some (.ref (ad 0)), some (.int x)] rfl (Nat.le_of_ble_eq_true rfl) ?_
  intro E hg hbs hl hN C RT9 hcells hslots hname
  have I := X.1
  have hnF := I.1
  have hnP := I.2.1
  refine g_iload_1 (q := 1) C dX3_flightAt_0 rfl ?_
  refine g_if_lt (tgt := 21) (q := 4) C dX3_flightAt_1 rfl (by decide) (fun c_1 => ?_) (fun c_1 => ?_)
  · refine g_null (q := 22) C dX3_flightAt_21 rfl ?_
    exact g_aret C RT9 dX3_flightAt_22 (Or.inl rfl) (px rfl)
  · refine g_iload_1 (q := 5) C dX3_flightAt_4 rfl ?_
    refine g_aload_0 (q := 6) C dX3_flightAt_5 rfl ?_
    refine g_geti (q := 9) C f_X3_36 dX3_flightAt_6 rfl rfl (IX.d0 I _ (by decide)) ?_
    refine g_icmp_ge (tgt := 21) (q := 12) C dX3_flightAt_9 rfl (by decide) (fun c_9 => ?_) (fun c_9 => absurd hi (by rw [fok_x X.nF c_1 c_9 (by omega)]; decide))
    refine g_null (q := 22) C dX3_flightAt_21 rfl ?_
    exact g_aret C RT9 dX3_flightAt_22 (Or.inl rfl) (px rfl)

set_option maxHeartbeats 4000000 in
set_option maxRecDepth 100000 in
theorem m_X3_partyAt_y (X : XR nF nP fl pa nu dm a r) {i : Nat} (hi : i < nP) : MT g bs l yX3_partyAt cX3_partyAt 2 (some (.object "TooMany$Party")) 0 0 0 [.ref (ad 0), .int (nI i)] ad dm a b r (PX (some (.ref (ad (30 + i)))) ad dm a b r) := by
  refine mt_of (by decide) [some (.ref (ad 0)), some (.int (nI i))] rfl (Nat.le_of_ble_eq_true rfl) ?_
  intro E hg hbs hl hN C RT9 hcells hslots hname
  have I := X.1
  have hnF := I.1
  have hnP := I.2.1
  refine g_iload_1 (q := 1) C dX3_partyAt_0 rfl ?_
  refine g_if_lt (tgt := 21) (q := 4) C dX3_partyAt_1 rfl (by decide) (fun c_1 => absurd c_1 (nI_pos (by omega))) (fun c_1 => ?_)
  refine g_iload_1 (q := 5) C dX3_partyAt_4 rfl ?_
  refine g_aload_0 (q := 6) C dX3_partyAt_5 rfl ?_
  refine g_geti (q := 9) C f_X3_40 dX3_partyAt_6 rfl rfl (IX.d0 I _ (by decide)) ?_
  refine g_icmp_ge (tgt := 21) (q := 12) C dX3_partyAt_9 rfl (by decide) (fun c_9 => absurd c_9 (by rw [X.nP]; exact nI_ge hi (by omega))) (fun c_9 => ?_)
  refine g_aload_0 (q := 13) C dX3_partyAt_12 rfl ?_
  refine g_getc (q := 16) (m := 2) C f_X3_17 dX3_partyAt_13 rfl rfl (IX.d0 I _ (by decide)) ?_
  refine g_iload_1 (q := 17) C dX3_partyAt_16 rfl ?_
  refine g_aaP (q := 18) C dX3_partyAt_17 rfl rfl (IX.d0 I _ (by decide)) rfl (by omega) (by decide) (XR.rp X hi) ?_
  refine g_goto (tgt := 22) C dX3_partyAt_18 (by decide) ?_
  exact g_aret C RT9 dX3_partyAt_22 (Or.inr ⟨_, rfl⟩) (px rfl)

set_option maxHeartbeats 4000000 in
set_option maxRecDepth 100000 in
theorem m_X3_partyAt_n (X : XR nF nP fl pa nu dm a r) {x : Int32} (hi : fok nP x = false) : MT g bs l yX3_partyAt cX3_partyAt 2 (some (.object "TooMany$Party")) 0 0 0 [.ref (ad 0), .int x] ad dm a b r (PX (some .null) ad dm a b r) := by
  refine mt_of (by decide) [some (.ref (ad 0)), some (.int x)] rfl (Nat.le_of_ble_eq_true rfl) ?_
  intro E hg hbs hl hN C RT9 hcells hslots hname
  have I := X.1
  have hnF := I.1
  have hnP := I.2.1
  refine g_iload_1 (q := 1) C dX3_partyAt_0 rfl ?_
  refine g_if_lt (tgt := 21) (q := 4) C dX3_partyAt_1 rfl (by decide) (fun c_1 => ?_) (fun c_1 => ?_)
  · refine g_null (q := 22) C dX3_partyAt_21 rfl ?_
    exact g_aret C RT9 dX3_partyAt_22 (Or.inl rfl) (px rfl)
  · refine g_iload_1 (q := 5) C dX3_partyAt_4 rfl ?_
    refine g_aload_0 (q := 6) C dX3_partyAt_5 rfl ?_
    refine g_geti (q := 9) C f_X3_40 dX3_partyAt_6 rfl rfl (IX.d0 I _ (by decide)) ?_
    refine g_icmp_ge (tgt := 21) (q := 12) C dX3_partyAt_9 rfl (by decide) (fun c_9 => ?_) (fun c_9 => absurd hi (by rw [fok_x X.nP c_1 c_9 (by omega)]; decide))
    refine g_null (q := 22) C dX3_partyAt_21 rfl ?_
    exact g_aret C RT9 dX3_partyAt_22 (Or.inl rfl) (px rfl)

end X15
