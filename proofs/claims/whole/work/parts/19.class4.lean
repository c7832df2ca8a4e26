section X19
variable {g : GM} {bs : Nat} {l : Launch} {ad : Nat → Nat} {dm : Nat → Bool} {a : Nat → Nat → Int32} {b : Nat → Nat → Int64} {r : Nat → Nat → Option Nat} {nF nP : Nat} {fl pa nu : Nat → Int32}
theorem xu_e {c : Nat → Bool} {i : Nat} (e : i = nP) (X : XR nF nP fl (unP c pa i) nu dm a r) : XR nF nP fl (unP c pa nP) nu dm a r := e ▸ X
theorem xu_1 {pb : Nat → Int32} (X : XR nF nP fl pb nu dm a r) (F : WF nF fl) {j k7 : Nat} (hk : k7 < nF) (v7 : pa (9 * j + 7) = nI k7) (hn : nF ≤ 8) (c : decide (¬ a (20 + k7) 7 = 0) = true) : unc fl pa j = true := by
  have h6 : a (20 + k7) 7 = fl (7 * k7 + 6) := X.fk (k := 6) hk (by decide)
  exact unc_1 (by rw [v7]; exact nI_m1 (by omega)) v7 (by omega) (by rw [← h6]; simpa using c)
theorem xu_2 {pb : Nat → Int32} (X : XR nF nP fl pb nu dm a r) {j k7 : Nat} (hk : k7 < nF) (v7 : pa (9 * j + 7) = nI k7) (hn : nF ≤ 8) (c : decide (¬ a (20 + k7) 7 = 0) = false) (v8 : pa (9 * j + 8) = -1) : unc fl pa j = false := by
  have h6 : a (20 + k7) 7 = fl (7 * k7 + 6) := X.fk (k := 6) hk (by decide)
  exact unc_2 (by rw [v7]; exact nI_m1 (by omega)) v7 (by omega) (by rw [← h6]; simpa using c) v8
theorem xu_3 {pb : Nat → Int32} (X : XR nF nP fl pb nu dm a r) (F : WF nF fl) {j k7 k8 : Nat} (hk : k7 < nF) (v7 : pa (9 * j + 7) = nI k7) (hk8 : k8 < nF) (v8 : pa (9 * j + 8) = nI k8) (hn : nF ≤ 8) (c : decide (¬ a (20 + k7) 7 = 0) = false) (c8 : decide (¬ a (20 + k8) 7 = 0) = true) : unc fl pa j = true := by
  have h6 : a (20 + k7) 7 = fl (7 * k7 + 6) := X.fk (k := 6) hk (by decide)
  have h8 : a (20 + k8) 7 = fl (7 * k8 + 6) := X.fk (k := 6) hk8 (by decide)
  exact unc_3 (by rw [v7]; exact nI_m1 (by omega)) v7 (by omega) (by rw [← h6]; simpa using c) (by rw [v8]; exact nI_m1 (by omega)) v8 (by omega) (by rw [← h8]; simpa using c8)
theorem xu_4 {pb : Nat → Int32} (X : XR nF nP fl pb nu dm a r) {j k7 k8 : Nat} (hk : k7 < nF) (v7 : pa (9 * j + 7) = nI k7) (hk8 : k8 < nF) (v8 : pa (9 * j + 8) = nI k8) (hn : nF ≤ 8) (c : decide (¬ a (20 + k7) 7 = 0) = false) (c8 : decide (¬ a (20 + k8) 7 = 0) = false) : unc fl pa j = false := by
  have h6 : a (20 + k7) 7 = fl (7 * k7 + 6) := X.fk (k := 6) hk (by decide)
  have h8 : a (20 + k8) 7 = fl (7 * k8 + 6) := X.fk (k := 6) hk8 (by decide)
  exact unc_4 (by rw [v7]; exact nI_m1 (by omega)) v7 (by omega) (by rw [← h6]; simpa using c) (by rw [v8]; exact nI_m1 (by omega)) v8 (by omega) (by rw [← h8]; simpa using c8)
set_option maxHeartbeats 4000000 in
set_option maxRecDepth 100000 in
theorem m_X3_undo (X : XR nF nP fl pa nu dm a r) (W : WP nF nP pa) (F : WF nF fl) (B : RB nF nP r) : MT g bs l yX3_undo cX3_undo 4 (some .int) 1 0 0 [.ref (ad 0)] ad dm a b r (fun v ad0 dm0 a0 b0 r0 => v = some (.int (nI (ctS (unc fl pa) nP))) ∧ ad0 = ad ∧ dm0 = dm ∧ a0 = a ∧ b0 = b ∧ XR nF nP fl (unP (unc fl pa) pa nP) nu dm a r0 ∧ RB nF nP r0) := by
  refine mt_of (by decide) [some (.ref (ad 0)), none, none, none] rfl (Nat.le_of_ble_eq_true rfl) ?_
  intro E hg hbs hl hN C RT9 hcells hslots hname
  have I := X.1
  have hnF := I.1
  have hnP := I.2.1
  have lp : ∀ (k i : Nat) (acc : Nat) (e3 : Option Value) (r0 : Nat → Nat → Option Nat), i + k = nP → XR nF nP fl (unP (unc fl pa) pa i) nu dm a r0 → RB nF nP r0 → acc = ctS (unc fl pa) i → G E 0 0 ad dm a b r0 4 [some (.ref (ad 0)), some (.int (nI acc)), some (.int (nI i)), e3] [] := by
    intro k
    induction k with
    | zero =>
      intro i acc e3 r0 hi X B hacc
      refine g_iload_2 (q := 5) C dX3_undo_4 rfl ?_
      refine g_aload_0 (q := 6) C dX3_undo_5 rfl ?_
      refine g_geti (q := 9) C f_X3_40 dX3_undo_6 rfl rfl (IX.d0 I _ (by decide)) ?_
      refine g_icmp_ge (tgt := 54) (q := 12) C dX3_undo_9 rfl (by decide) (fun c_9 => ?_) (fun c_9 => absurd (by rw [X.nP]; exact nI_le (by omega) (by omega)) c_9)
      refine g_iload_1 (q := 55) C dX3_undo_54 rfl ?_
      exact g_iret C RT9 dX3_undo_55 ⟨by rw [hacc, show i = nP by omega], rfl, rfl, rfl, rfl, xu_e (show i = nP by omega) X, B⟩
    | succ k ih =>
      intro i acc e3 r0 hi X B hacc
      have hip : i < nP := by omega
      have u7 : unP (unc fl pa) pa i (9 * i + 7) = pa (9 * i + 7) := unP_ge (by omega)
      have u8 : unP (unc fl pa) pa i (9 * i + 8) = pa (9 * i + 8) := unP_ge (by omega)
      obtain ⟨o, ho, ro, eo, e1, e2, e3x, e4, e5, e6, w7, w8⟩ := X.pt hip
      rw [u7] at w7
      rw [u8] at w8
      have DO : unc fl pa i = true → G E 0 0 ad dm a b (u2 (u2 r0 (30 + i) 7 none) (30 + i) 8 none) 4 [some (.ref (ad 0)), some (.int (nI (acc + 1))), some (.int (nI (i + 1))), some (.ref (ad (30 + i)))] [] := fun hc => ih (i + 1) _ _ _ (by omega) (by rw [unP, if_pos hc]; exact X.pur hip (Or.inl ⟨rfl, rfl⟩) (Or.inl ⟨rfl, rfl⟩)) (rb_none (rb_none B)) (by rw [ctS, if_pos hc, hacc])
      have SK : unc fl pa i = false → G E 0 0 ad dm a b r0 4 [some (.ref (ad 0)), some (.int (nI acc)), some (.int (nI (i + 1))), some (.ref (ad (30 + i)))] [] := fun hc => ih (i + 1) _ _ _ (by omega) (by rw [unP, if_neg (by rw [hc]; decide)]; exact X) B (by rw [ctS, if_neg (by rw [hc]; decide), hacc])
      refine g_iload_2 (q := 5) C dX3_undo_4 rfl ?_
      refine g_aload_0 (q := 6) C dX3_undo_5 rfl ?_
      refine g_geti (q := 9) C f_X3_40 dX3_undo_6 rfl rfl (IX.d0 I _ (by decide)) ?_
      refine g_icmp_ge (tgt := 54) (q := 12) C dX3_undo_9 rfl (by decide) (fun c_9 => absurd c_9 (by rw [X.nP]; exact nI_ge (by omega) (by omega))) (fun c_9 => ?_)
      refine g_aload_0 (q := 13) C dX3_undo_12 rfl ?_
      refine g_getc (q := 16) (m := 2) C f_X3_17 dX3_undo_13 rfl rfl (IX.d0 I _ (by decide)) ?_
      refine g_iload_2 (q := 17) C dX3_undo_16 rfl ?_
      refine g_aaP (q := 18) C dX3_undo_17 rfl rfl (IX.d0 I _ (by decide)) rfl (by omega) (by decide) (XR.rp X (by assumption)) ?_
      refine g_astore_3 (q := 19) C dX3_undo_18 rfl (by rw [hN]; decide) rfl ?_
      refine g_aload_3 (q := 20) C dX3_undo_19 rfl ?_
      rcases w7 with ⟨r7, v7⟩ | ⟨k7, hk7, r7, v7⟩
      · refine g_getrN (q := 23) C f_X3_108 dX3_undo_20 rfl (IX.lp I (by assumption)) (IX.dp I (by assumption)) r7 ?_
        refine g_cs1i (q := 26) C cs_X3_210 dX3_undo_23 rfl m_X3_isOffFlight_n (by decide) (Nat.le_of_ble_eq_true rfl) ⟨Nat.zero_le _, Nat.zero_le _⟩ ?_
        refine g_ifneb (tgt := 39) (q := 29) C dX3_undo_26 rfl (by decide) (fun c_26 => ?_) (fun c_26 => ?_)
        · refine g_aload_3 (q := 40) C dX3_undo_39 rfl ?_
          refine g_null (q := 41) C dX3_undo_40 rfl ?_
          refine g_null (q := 42) C dX3_undo_41 rfl ?_
          refine g_cv2v (q := 45) C cv_X3_214 dX3_undo_42 rfl (IX.lp I (by assumption)) (IX.dp I (by assumption)) (m_X2_takeWay_nn I hip) (by decide) (Nat.le_of_ble_eq_true rfl) ⟨Nat.zero_le _, Nat.zero_le _⟩ ?_
          refine g_iinc_1 (v := nI (acc + 1)) (q := 48) C dX3_undo_45 rfl (by rw [hN]; decide) (nI_1 acc) ?_
          refine g_iinc_2 (v := nI (i + 1)) (q := 51) C dX3_undo_48 rfl (by rw [hN]; decide) (nI_1 i) ?_
          refine g_goto (tgt := 4) C dX3_undo_51 (by decide) ?_
          first | exact absurd c_26 (by decide) | exact absurd c_36 (by decide) | exact absurd v8 (by rw [(W i hip).2.2.2.2.2.2.2.2.2.2.1 v7]; exact fun e => nI_m1 (by omega) e.symm) | exact DO (by first | exact xu_1 X F hk7 v7 hnF c_26 | exact xu_3 X F hk7 v7 hk8 v8 hnF c_26 c_36) | exact SK (by first | exact unc_0 v7 | exact xu_2 X hk7 v7 hnF c_26 v8 | exact xu_4 X hk7 v7 hk8 v8 hnF c_26 c_36)
        · refine g_aload_3 (q := 30) C dX3_undo_29 rfl ?_
          rcases w8 with ⟨r8, v8⟩ | ⟨k8, hk8, r8, v8⟩
          · refine g_getrN (q := 33) C f_X3_114 dX3_undo_30 rfl (IX.lp I (by assumption)) (IX.dp I (by assumption)) r8 ?_
            refine g_cs1i (q := 36) C cs_X3_210 dX3_undo_33 rfl m_X3_isOffFlight_n (by decide) (Nat.le_of_ble_eq_true rfl) ⟨Nat.zero_le _, Nat.zero_le _⟩ ?_
            refine g_ifeqb (tgt := 48) (q := 39) C dX3_undo_36 rfl (by decide) (fun c_36 => ?_) (fun c_36 => ?_)
            · refine g_iinc_2 (v := nI (i + 1)) (q := 51) C dX3_undo_48 rfl (by rw [hN]; decide) (nI_1 i) ?_
              refine g_goto (tgt := 4) C dX3_undo_51 (by decide) ?_
              first | exact absurd c_26 (by decide) | exact absurd c_36 (by decide) | exact absurd v8 (by rw [(W i hip).2.2.2.2.2.2.2.2.2.2.1 v7]; exact fun e => nI_m1 (by omega) e.symm) | exact DO (by first | exact xu_1 X F hk7 v7 hnF c_26 | exact xu_3 X F hk7 v7 hk8 v8 hnF c_26 c_36) | exact SK (by first | exact unc_0 v7 | exact xu_2 X hk7 v7 hnF c_26 v8 | exact xu_4 X hk7 v7 hk8 v8 hnF c_26 c_36)
            · refine g_aload_3 (q := 40) C dX3_undo_39 rfl ?_
              refine g_null (q := 41) C dX3_undo_40 rfl ?_
              refine g_null (q := 42) C dX3_undo_41 rfl ?_
              refine g_cv2v (q := 45) C cv_X3_214 dX3_undo_42 rfl (IX.lp I (by assumption)) (IX.dp I (by assumption)) (m_X2_takeWay_nn I hip) (by decide) (Nat.le_of_ble_eq_true rfl) ⟨Nat.zero_le _, Nat.zero_le _⟩ ?_
              refine g_iinc_1 (v := nI (acc + 1)) (q := 48) C dX3_undo_45 rfl (by rw [hN]; decide) (nI_1 acc) ?_
              refine g_iinc_2 (v := nI (i + 1)) (q := 51) C dX3_undo_48 rfl (by rw [hN]; decide) (nI_1 i) ?_
              refine g_goto (tgt := 4) C dX3_undo_51 (by decide) ?_
              first | exact absurd c_26 (by decide) | exact absurd c_36 (by decide) | exact absurd v8 (by rw [(W i hip).2.2.2.2.2.2.2.2.2.2.1 v7]; exact fun e => nI_m1 (by omega) e.symm) | exact DO (by first | exact xu_1 X F hk7 v7 hnF c_26 | exact xu_3 X F hk7 v7 hk8 v8 hnF c_26 c_36) | exact SK (by first | exact unc_0 v7 | exact xu_2 X hk7 v7 hnF c_26 v8 | exact xu_4 X hk7 v7 hk8 v8 hnF c_26 c_36)
          · refine g_getr (q := 33) C f_X3_114 dX3_undo_30 rfl (IX.lp I (by assumption)) (IX.dp I (by assumption)) r8 ?_
            refine g_cs1i (q := 36) C cs_X3_210 dX3_undo_33 rfl (m_X3_isOffFlight_r I hk8) (by decide) (Nat.le_of_ble_eq_true rfl) ⟨Nat.zero_le _, Nat.zero_le _⟩ ?_
            refine g_ifeqb (tgt := 48) (q := 39) C dX3_undo_36 rfl (by decide) (fun c_36 => ?_) (fun c_36 => ?_)
            · refine g_iinc_2 (v := nI (i + 1)) (q := 51) C dX3_undo_48 rfl (by rw [hN]; decide) (nI_1 i) ?_
              refine g_goto (tgt := 4) C dX3_undo_51 (by decide) ?_
              first | exact absurd c_26 (by decide) | exact absurd c_36 (by decide) | exact absurd v8 (by rw [(W i hip).2.2.2.2.2.2.2.2.2.2.1 v7]; exact fun e => nI_m1 (by omega) e.symm) | exact DO (by first | exact xu_1 X F hk7 v7 hnF c_26 | exact xu_3 X F hk7 v7 hk8 v8 hnF c_26 c_36) | exact SK (by first | exact unc_0 v7 | exact xu_2 X hk7 v7 hnF c_26 v8 | exact xu_4 X hk7 v7 hk8 v8 hnF c_26 c_36)
            · refine g_aload_3 (q := 40) C dX3_undo_39 rfl ?_
              refine g_null (q := 41) C dX3_undo_40 rfl ?_
              refine g_null (q := 42) C dX3_undo_41 rfl ?_
              refine g_cv2v (q := 45) C cv_X3_214 dX3_undo_42 rfl (IX.lp I (by assumption)) (IX.dp I (by assumption)) (m_X2_takeWay_nn I hip) (by decide) (Nat.le_of_ble_eq_true rfl) ⟨Nat.zero_le _, Nat.zero_le _⟩ ?_
              refine g_iinc_1 (v := nI (acc + 1)) (q := 48) C dX3_undo_45 rfl (by rw [hN]; decide) (nI_1 acc) ?_
              refine g_iinc_2 (v := nI (i + 1)) (q := 51) C dX3_undo_48 rfl (by rw [hN]; decide) (nI_1 i) ?_
              refine g_goto (tgt := 4) C dX3_undo_51 (by decide) ?_
              first | exact absurd c_26 (by decide) | exact absurd c_36 (by decide) | exact absurd v8 (by rw [(W i hip).2.2.2.2.2.2.2.2.2.2.1 v7]; exact fun e => nI_m1 (by omega) e.symm) | exact DO (by first | exact xu_1 X F hk7 v7 hnF c_26 | exact xu_3 X F hk7 v7 hk8 v8 hnF c_26 c_36) | exact SK (by first | exact unc_0 v7 | exact xu_2 X hk7 v7 hnF c_26 v8 | exact xu_4 X hk7 v7 hk8 v8 hnF c_26 c_36)
      · refine g_getr (q := 23) C f_X3_108 dX3_undo_20 rfl (IX.lp I (by assumption)) (IX.dp I (by assumption)) r7 ?_
        refine g_cs1i (q := 26) C cs_X3_210 dX3_undo_23 rfl (m_X3_isOffFlight_r I hk7) (by decide) (Nat.le_of_ble_eq_true rfl) ⟨Nat.zero_le _, Nat.zero_le _⟩ ?_
        refine g_ifneb (tgt := 39) (q := 29) C dX3_undo_26 rfl (by decide) (fun c_26 => ?_) (fun c_26 => ?_)
        · refine g_aload_3 (q := 40) C dX3_undo_39 rfl ?_
          refine g_null (q := 41) C dX3_undo_40 rfl ?_
          refine g_null (q := 42) C dX3_undo_41 rfl ?_
          refine g_cv2v (q := 45) C cv_X3_214 dX3_undo_42 rfl (IX.lp I (by assumption)) (IX.dp I (by assumption)) (m_X2_takeWay_nn I hip) (by decide) (Nat.le_of_ble_eq_true rfl) ⟨Nat.zero_le _, Nat.zero_le _⟩ ?_
          refine g_iinc_1 (v := nI (acc + 1)) (q := 48) C dX3_undo_45 rfl (by rw [hN]; decide) (nI_1 acc) ?_
          refine g_iinc_2 (v := nI (i + 1)) (q := 51) C dX3_undo_48 rfl (by rw [hN]; decide) (nI_1 i) ?_
          refine g_goto (tgt := 4) C dX3_undo_51 (by decide) ?_
          first | exact absurd c_26 (by decide) | exact absurd c_36 (by decide) | exact absurd v8 (by rw [(W i hip).2.2.2.2.2.2.2.2.2.2.1 v7]; exact fun e => nI_m1 (by omega) e.symm) | exact DO (by first | exact xu_1 X F hk7 v7 hnF c_26 | exact xu_3 X F hk7 v7 hk8 v8 hnF c_26 c_36) | exact SK (by first | exact unc_0 v7 | exact xu_2 X hk7 v7 hnF c_26 v8 | exact xu_4 X hk7 v7 hk8 v8 hnF c_26 c_36)
        · refine g_aload_3 (q := 30) C dX3_undo_29 rfl ?_
          rcases w8 with ⟨r8, v8⟩ | ⟨k8, hk8, r8, v8⟩
          · refine g_getrN (q := 33) C f_X3_114 dX3_undo_30 rfl (IX.lp I (by assumption)) (IX.dp I (by assumption)) r8 ?_
            refine g_cs1i (q := 36) C cs_X3_210 dX3_undo_33 rfl m_X3_isOffFlight_n (by decide) (Nat.le_of_ble_eq_true rfl) ⟨Nat.zero_le _, Nat.zero_le _⟩ ?_
            refine g_ifeqb (tgt := 48) (q := 39) C dX3_undo_36 rfl (by decide) (fun c_36 => ?_) (fun c_36 => ?_)
            · refine g_iinc_2 (v := nI (i + 1)) (q := 51) C dX3_undo_48 rfl (by rw [hN]; decide) (nI_1 i) ?_
              refine g_goto (tgt := 4) C dX3_undo_51 (by decide) ?_
              first | exact absurd c_26 (by decide) | exact absurd c_36 (by decide) | exact absurd v8 (by rw [(W i hip).2.2.2.2.2.2.2.2.2.2.1 v7]; exact fun e => nI_m1 (by omega) e.symm) | exact DO (by first | exact xu_1 X F hk7 v7 hnF c_26 | exact xu_3 X F hk7 v7 hk8 v8 hnF c_26 c_36) | exact SK (by first | exact unc_0 v7 | exact xu_2 X hk7 v7 hnF c_26 v8 | exact xu_4 X hk7 v7 hk8 v8 hnF c_26 c_36)
            · refine g_aload_3 (q := 40) C dX3_undo_39 rfl ?_
              refine g_null (q := 41) C dX3_undo_40 rfl ?_
              refine g_null (q := 42) C dX3_undo_41 rfl ?_
              refine g_cv2v (q := 45) C cv_X3_214 dX3_undo_42 rfl (IX.lp I (by assumption)) (IX.dp I (by assumption)) (m_X2_takeWay_nn I hip) (by decide) (Nat.le_of_ble_eq_true rfl) ⟨Nat.zero_le _, Nat.zero_le _⟩ ?_
              refine g_iinc_1 (v := nI (acc + 1)) (q := 48) C dX3_undo_45 rfl (by rw [hN]; decide) (nI_1 acc) ?_
              refine g_iinc_2 (v := nI (i + 1)) (q := 51) C dX3_undo_48 rfl (by rw [hN]; decide) (nI_1 i) ?_
              refine g_goto (tgt := 4) C dX3_undo_51 (by decide) ?_
              first | exact absurd c_26 (by decide) | exact absurd c_36 (by decide) | exact absurd v8 (by rw [(W i hip).2.2.2.2.2.2.2.2.2.2.1 v7]; exact fun e => nI_m1 (by omega) e.symm) | exact DO (by first | exact xu_1 X F hk7 v7 hnF c_26 | exact xu_3 X F hk7 v7 hk8 v8 hnF c_26 c_36) | exact SK (by first | exact unc_0 v7 | exact xu_2 X hk7 v7 hnF c_26 v8 | exact xu_4 X hk7 v7 hk8 v8 hnF c_26 c_36)
          · refine g_getr (q := 33) C f_X3_114 dX3_undo_30 rfl (IX.lp I (by assumption)) (IX.dp I (by assumption)) r8 ?_
            refine g_cs1i (q := 36) C cs_X3_210 dX3_undo_33 rfl (m_X3_isOffFlight_r I hk8) (by decide) (Nat.le_of_ble_eq_true rfl) ⟨Nat.zero_le _, Nat.zero_le _⟩ ?_
            refine g_ifeqb (tgt := 48) (q := 39) C dX3_undo_36 rfl (by decide) (fun c_36 => ?_) (fun c_36 => ?_)
            · refine g_iinc_2 (v := nI (i + 1)) (q := 51) C dX3_undo_48 rfl (by rw [hN]; decide) (nI_1 i) ?_
              refine g_goto (tgt := 4) C dX3_undo_51 (by decide) ?_
              first | exact absurd c_26 (by decide) | exact absurd c_36 (by decide) | exact absurd v8 (by rw [(W i hip).2.2.2.2.2.2.2.2.2.2.1 v7]; exact fun e => nI_m1 (by omega) e.symm) | exact DO (by first | exact xu_1 X F hk7 v7 hnF c_26 | exact xu_3 X F hk7 v7 hk8 v8 hnF c_26 c_36) | exact SK (by first | exact unc_0 v7 | exact xu_2 X hk7 v7 hnF c_26 v8 | exact xu_4 X hk7 v7 hk8 v8 hnF c_26 c_36)
            · refine g_aload_3 (q := 40) C dX3_undo_39 rfl ?_
              refine g_null (q := 41) C dX3_undo_40 rfl ?_
              refine g_null (q := 42) C dX3_undo_41 rfl ?_
              refine g_cv2v (q := 45) C cv_X3_214 dX3_undo_42 rfl (IX.lp I (by assumption)) (IX.dp I (by assumption)) (m_X2_takeWay_nn I hip) (by decide) (Nat.le_of_ble_eq_true rfl) ⟨Nat.zero_le _, Nat.zero_le _⟩ ?_
              refine g_iinc_1 (v := nI (acc + 1)) (q := 48) C dX3_undo_45 rfl (by rw [hN]; decide) (nI_1 acc) ?_
              refine g_iinc_2 (v := nI (i + 1)) (q := 51) C dX3_undo_48 rfl (by rw [hN]; decide) (nI_1 i) ?_
              refine g_goto (tgt := 4) C dX3_undo_51 (by decide) ?_
              first | exact absurd c_26 (by decide) | exact absurd c_36 (by decide) | exact absurd v8 (by rw [(W i hip).2.2.2.2.2.2.2.2.2.2.1 v7]; exact fun e => nI_m1 (by omega) e.symm) | exact DO (by first | exact xu_1 X F hk7 v7 hnF c_26 | exact xu_3 X F hk7 v7 hk8 v8 hnF c_26 c_36) | exact SK (by first | exact unc_0 v7 | exact xu_2 X hk7 v7 hnF c_26 v8 | exact xu_4 X hk7 v7 hk8 v8 hnF c_26 c_36)
  refine g_iconst (v := 0) (q := 1) C dX3_undo_0 rfl (by decide) ?_
  refine g_istore_1 (q := 2) C dX3_undo_1 rfl (by rw [hN]; decide) rfl ?_
  refine g_iconst (v := 0) (q := 3) C dX3_undo_2 rfl (by decide) ?_
  refine g_istore_2 (q := 4) C dX3_undo_3 rfl (by rw [hN]; decide) rfl ?_
  exact lp nP 0 0 _ _ (by omega) X B rfl

end X19
