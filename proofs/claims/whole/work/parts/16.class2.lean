section X16
variable {g : GM} {bs : Nat} {l : Launch} {ad : Nat → Nat} {dm : Nat → Bool} {a : Nat → Nat → Int32} {b : Nat → Nat → Int64} {r : Nat → Nat → Option Nat} {nF nP : Nat} {fl pa nu : Nat → Int32}
theorem flyc_eq {f : Nat} {p : Nat} (W : WP nF nP pa) (hp : p < nP) (hf : f < 8) : flyc pa (nI f) p = (fyS pa (nI f) p || decide (pa (9 * p + 7) = nI f) || decide (pa (9 * p + 8) = nI f)) := by
  obtain ⟨-, -, -, -, -, -, -, -, -, h0, -⟩ := W p hp
  have hm : ¬ (-1 : Int32) = nI f := fun e => nI_m1 (by omega) e.symm
  unfold flyc fyS
  by_cases h : pa (9 * p + 5) = 0
  · obtain ⟨-, h7, h8⟩ := h0 h
    rw [if_pos h, h7, h8]
    simp [h, hm]
  · rw [if_neg h]
    simp [h]
set_option maxHeartbeats 4000000 in
set_option maxRecDepth 100000 in
theorem m_X3_loadOf (X : XR nF nP fl pa nu dm a r) (W : WP nF nP pa) {f : Nat} (hf : f < nF) : MT g bs l yX3_loadOf cX3_loadOf 5 (some .int) 1 0 0 [.ref (ad 0), .ref (ad (20 + f))] ad dm a b r (PX (some (.int (ldS pa (nI f) nP))) ad dm a b r) := by
  refine mt_of (by decide) [some (.ref (ad 0)), some (.ref (ad (20 + f))), none, none, none] rfl (Nat.le_of_ble_eq_true rfl) ?_
  intro E hg hbs hl hN C RT9 hcells hslots hname
  have I := X.1
  have hnF := I.1
  have hnP := I.2.1
  have lp : ∀ (k i : Nat) (acc : Int32) (e4 : Option Value), i + k = nP → acc = ldS pa (nI f) i → G E 0 0 ad dm a b r 4 [some (.ref (ad 0)), some (.ref (ad (20 + f))), some (.int acc), some (.int (nI i)), e4] [] := by
    intro k
    induction k with
    | zero =>
      intro i acc e4 hi hacc
      refine g_iload_3 (q := 5) C dX3_loadOf_4 rfl ?_
      refine g_aload_0 (q := 6) C dX3_loadOf_5 rfl ?_
      refine g_geti (q := 9) C f_X3_40 dX3_loadOf_6 rfl rfl (IX.d0 I _ (by decide)) ?_
      refine g_icmp_ge (tgt := 61) (q := 12) C dX3_loadOf_9 rfl (by decide) (fun c_9 => ?_) (fun c_9 => absurd (by rw [X.nP]; exact nI_le (by omega) (by omega)) c_9)
      refine g_iload_2 (q := 62) C dX3_loadOf_61 rfl ?_
      exact g_iret C RT9 dX3_loadOf_62 (pxi (by rw [hacc, show i = nP by omega]))
    | succ k ih =>
      intro i acc e4 hi hacc
      have hip : i < nP := by omega
      obtain ⟨o, ho, ro, eo, e1, e2, e3, e4x, e5, e6, w7, w8⟩ := X.pt hip
      have hfc := flyc_eq W hip (f := f) (by omega)
      have hm : ¬ (-1 : Int32) = nI f := fun e => nI_m1 (by omega) e.symm
      refine g_iload_3 (q := 5) C dX3_loadOf_4 rfl ?_
      refine g_aload_0 (q := 6) C dX3_loadOf_5 rfl ?_
      refine g_geti (q := 9) C f_X3_40 dX3_loadOf_6 rfl rfl (IX.d0 I _ (by decide)) ?_
      refine g_icmp_ge (tgt := 61) (q := 12) C dX3_loadOf_9 rfl (by decide) (fun c_9 => absurd c_9 (by rw [X.nP]; exact nI_ge (by omega) (by omega))) (fun c_9 => ?_)
      refine g_aload_0 (q := 13) C dX3_loadOf_12 rfl ?_
      refine g_getc (q := 16) (m := 2) C f_X3_17 dX3_loadOf_13 rfl rfl (IX.d0 I _ (by decide)) ?_
      refine g_iload_3 (q := 17) C dX3_loadOf_16 rfl ?_
      refine g_aaP (q := 18) C dX3_loadOf_17 rfl rfl (IX.d0 I _ (by decide)) rfl (by omega) (by decide) (XR.rp X (by assumption)) ?_
      refine g_astore_4 (q := 20) C dX3_loadOf_18 rfl (by rw [hN]; decide) rfl ?_
      refine g_aload_4 (q := 22) C dX3_loadOf_20 rfl ?_
      refine g_aload_1 (q := 23) C dX3_loadOf_22 rfl ?_
      refine g_cv1i (q := 26) C cv_X3_218 dX3_loadOf_23 rfl (IX.lp I (by assumption)) (IX.dp I (by assumption)) (m_X2_fliesOn X (by assumption) (by assumption)) (by decide) (Nat.le_of_ble_eq_true rfl) ⟨Nat.zero_le _, Nat.zero_le _⟩ ?_
      refine g_ifneb (tgt := 47) (q := 29) C dX3_loadOf_26 rfl (by decide) (fun c_26 => ?_) (fun c_26 => ?_)
      · refine g_iload_2 (q := 48) C dX3_loadOf_47 rfl ?_
        refine g_aload_4 (q := 50) C dX3_loadOf_48 rfl ?_
        refine g_geti (q := 53) C f_X3_102 dX3_loadOf_50 rfl (IX.lp I (by assumption)) (IX.dp I (by assumption)) ?_
        refine g_iadd (q := 54) C dX3_loadOf_53 rfl ?_
        refine g_istore_2 (q := 55) C dX3_loadOf_54 rfl (by rw [hN]; decide) rfl ?_
        refine g_iinc_3 (v := nI (i + 1)) (q := 58) C dX3_loadOf_55 rfl (by rw [hN]; decide) (nI_1 i) ?_
        refine g_goto (tgt := 4) C dX3_loadOf_58 (by decide) ?_
        exact ih (i + 1) _ _ (by omega) (by first | (simp [ldS, hfc, hacc, e1, c_26, v7, nI_in8 hk7 hf hnF, show k7 = f by omega]; done) | (simp [ldS, hfc, hacc, e1, c_26, v7, hm, v8, hm]; done) | (simp [ldS, hfc, hacc, e1, c_26, v7, hm, v8, nI_in8 hk8 hf hnF, show ¬ k8 = f by omega]; done) | (simp [ldS, hfc, hacc, e1, c_26, v7, hm, v8, nI_in8 hk8 hf hnF, show k8 = f by omega]; done) | (simp [ldS, hfc, hacc, e1, c_26, v7, nI_in8 hk7 hf hnF, show ¬ k7 = f by omega, v8, hm]; done) | (simp [ldS, hfc, hacc, e1, c_26, v7, nI_in8 hk7 hf hnF, show ¬ k7 = f by omega, v8, nI_in8 hk8 hf hnF, show ¬ k8 = f by omega]; done) | (simp [ldS, hfc, hacc, e1, c_26, v7, nI_in8 hk7 hf hnF, show ¬ k7 = f by omega, v8, nI_in8 hk8 hf hnF, show k8 = f by omega]; done) | (simp [ldS, hfc, hacc, e1, c_26]; done))
      · refine g_aload_4 (q := 31) C dX3_loadOf_29 rfl ?_
        rcases w7 with ⟨r7, v7⟩ | ⟨k7, hk7, r7, v7⟩
        · refine g_getrN (q := 34) C f_X3_108 dX3_loadOf_31 rfl (IX.lp I (by assumption)) (IX.dp I (by assumption)) r7 ?_
          refine g_aload_1 (q := 35) C dX3_loadOf_34 rfl ?_
          refine g_acmp_eqN1 (tgt := 47) (q := 38) C dX3_loadOf_35 rfl (by decide) ?_
          refine g_aload_4 (q := 40) C dX3_loadOf_38 rfl ?_
          rcases w8 with ⟨r8, v8⟩ | ⟨k8, hk8, r8, v8⟩
          · refine g_getrN (q := 43) C f_X3_114 dX3_loadOf_40 rfl (IX.lp I (by assumption)) (IX.dp I (by assumption)) r8 ?_
            refine g_aload_1 (q := 44) C dX3_loadOf_43 rfl ?_
            refine g_acmp_neN1 (tgt := 55) (q := 47) C dX3_loadOf_44 rfl (by decide) ?_
            refine g_iinc_3 (v := nI (i + 1)) (q := 58) C dX3_loadOf_55 rfl (by rw [hN]; decide) (nI_1 i) ?_
            refine g_goto (tgt := 4) C dX3_loadOf_58 (by decide) ?_
            exact ih (i + 1) _ _ (by omega) (by first | (simp [ldS, hfc, hacc, e1, c_26, v7, nI_in8 hk7 hf hnF, show k7 = f by omega]; done) | (simp [ldS, hfc, hacc, e1, c_26, v7, hm, v8, hm]; done) | (simp [ldS, hfc, hacc, e1, c_26, v7, hm, v8, nI_in8 hk8 hf hnF, show ¬ k8 = f by omega]; done) | (simp [ldS, hfc, hacc, e1, c_26, v7, hm, v8, nI_in8 hk8 hf hnF, show k8 = f by omega]; done) | (simp [ldS, hfc, hacc, e1, c_26, v7, nI_in8 hk7 hf hnF, show ¬ k7 = f by omega, v8, hm]; done) | (simp [ldS, hfc, hacc, e1, c_26, v7, nI_in8 hk7 hf hnF, show ¬ k7 = f by omega, v8, nI_in8 hk8 hf hnF, show ¬ k8 = f by omega]; done) | (simp [ldS, hfc, hacc, e1, c_26, v7, nI_in8 hk7 hf hnF, show ¬ k7 = f by omega, v8, nI_in8 hk8 hf hnF, show k8 = f by omega]; done) | (simp [ldS, hfc, hacc, e1, c_26]; done))
          · refine g_getr (q := 43) C f_X3_114 dX3_loadOf_40 rfl (IX.lp I (by assumption)) (IX.dp I (by assumption)) r8 ?_
            refine g_aload_1 (q := 44) C dX3_loadOf_43 rfl ?_
            refine g_acmp_ne (tgt := 55) (q := 47) C dX3_loadOf_44 rfl (by decide) (IX.df I (by assumption)) (IX.df I (by assumption)) (fun c_44 => ?_) (fun c_44 => ?_)
            · refine g_iinc_3 (v := nI (i + 1)) (q := 58) C dX3_loadOf_55 rfl (by rw [hN]; decide) (nI_1 i) ?_
              refine g_goto (tgt := 4) C dX3_loadOf_58 (by decide) ?_
              exact ih (i + 1) _ _ (by omega) (by first | (simp [ldS, hfc, hacc, e1, c_26, v7, nI_in8 hk7 hf hnF, show k7 = f by omega]; done) | (simp [ldS, hfc, hacc, e1, c_26, v7, hm, v8, hm]; done) | (simp [ldS, hfc, hacc, e1, c_26, v7, hm, v8, nI_in8 hk8 hf hnF, show ¬ k8 = f by omega]; done) | (simp [ldS, hfc, hacc, e1, c_26, v7, hm, v8, nI_in8 hk8 hf hnF, show k8 = f by omega]; done) | (simp [ldS, hfc, hacc, e1, c_26, v7, nI_in8 hk7 hf hnF, show ¬ k7 = f by omega, v8, hm]; done) | (simp [ldS, hfc, hacc, e1, c_26, v7, nI_in8 hk7 hf hnF, show ¬ k7 = f by omega, v8, nI_in8 hk8 hf hnF, show ¬ k8 = f by omega]; done) | (simp [ldS, hfc, hacc, e1, c_26, v7, nI_in8 hk7 hf hnF, show ¬ k7 = f by omega, v8, nI_in8 hk8 hf hnF, show k8 = f by omega]; done) | (simp [ldS, hfc, hacc, e1, c_26]; done))
            · refine g_iload_2 (q := 48) C dX3_loadOf_47 rfl ?_
              refine g_aload_4 (q := 50) C dX3_loadOf_48 rfl ?_
              refine g_geti (q := 53) C f_X3_102 dX3_loadOf_50 rfl (IX.lp I (by assumption)) (IX.dp I (by assumption)) ?_
              refine g_iadd (q := 54) C dX3_loadOf_53 rfl ?_
              refine g_istore_2 (q := 55) C dX3_loadOf_54 rfl (by rw [hN]; decide) rfl ?_
              refine g_iinc_3 (v := nI (i + 1)) (q := 58) C dX3_loadOf_55 rfl (by rw [hN]; decide) (nI_1 i) ?_
              refine g_goto (tgt := 4) C dX3_loadOf_58 (by decide) ?_
              exact ih (i + 1) _ _ (by omega) (by first | (simp [ldS, hfc, hacc, e1, c_26, v7, nI_in8 hk7 hf hnF, show k7 = f by omega]; done) | (simp [ldS, hfc, hacc, e1, c_26, v7, hm, v8, hm]; done) | (simp [ldS, hfc, hacc, e1, c_26, v7, hm, v8, nI_in8 hk8 hf hnF, show ¬ k8 = f by omega]; done) | (simp [ldS, hfc, hacc, e1, c_26, v7, hm, v8, nI_in8 hk8 hf hnF, show k8 = f by omega]; done) | (simp [ldS, hfc, hacc, e1, c_26, v7, nI_in8 hk7 hf hnF, show ¬ k7 = f by omega, v8, hm]; done) | (simp [ldS, hfc, hacc, e1, c_26, v7, nI_in8 hk7 hf hnF, show ¬ k7 = f by omega, v8, nI_in8 hk8 hf hnF, show ¬ k8 = f by omega]; done) | (simp [ldS, hfc, hacc, e1, c_26, v7, nI_in8 hk7 hf hnF, show ¬ k7 = f by omega, v8, nI_in8 hk8 hf hnF, show k8 = f by omega]; done) | (simp [ldS, hfc, hacc, e1, c_26]; done))
        · refine g_getr (q := 34) C f_X3_108 dX3_loadOf_31 rfl (IX.lp I (by assumption)) (IX.dp I (by assumption)) r7 ?_
          refine g_aload_1 (q := 35) C dX3_loadOf_34 rfl ?_
          refine g_acmp_eq (tgt := 47) (q := 38) C dX3_loadOf_35 rfl (by decide) (IX.df I (by assumption)) (IX.df I (by assumption)) (fun c_35 => ?_) (fun c_35 => ?_)
          · refine g_iload_2 (q := 48) C dX3_loadOf_47 rfl ?_
            refine g_aload_4 (q := 50) C dX3_loadOf_48 rfl ?_
            refine g_geti (q := 53) C f_X3_102 dX3_loadOf_50 rfl (IX.lp I (by assumption)) (IX.dp I (by assumption)) ?_
            refine g_iadd (q := 54) C dX3_loadOf_53 rfl ?_
            refine g_istore_2 (q := 55) C dX3_loadOf_54 rfl (by rw [hN]; decide) rfl ?_
            refine g_iinc_3 (v := nI (i + 1)) (q := 58) C dX3_loadOf_55 rfl (by rw [hN]; decide) (nI_1 i) ?_
            refine g_goto (tgt := 4) C dX3_loadOf_58 (by decide) ?_
            exact ih (i + 1) _ _ (by omega) (by first | (simp [ldS, hfc, hacc, e1, c_26, v7, nI_in8 hk7 hf hnF, show k7 = f by omega]; done) | (simp [ldS, hfc, hacc, e1, c_26, v7, hm, v8, hm]; done) | (simp [ldS, hfc, hacc, e1, c_26, v7, hm, v8, nI_in8 hk8 hf hnF, show ¬ k8 = f by omega]; done) | (simp [ldS, hfc, hacc, e1, c_26, v7, hm, v8, nI_in8 hk8 hf hnF, show k8 = f by omega]; done) | (simp [ldS, hfc, hacc, e1, c_26, v7, nI_in8 hk7 hf hnF, show ¬ k7 = f by omega, v8, hm]; done) | (simp [ldS, hfc, hacc, e1, c_26, v7, nI_in8 hk7 hf hnF, show ¬ k7 = f by omega, v8, nI_in8 hk8 hf hnF, show ¬ k8 = f by omega]; done) | (simp [ldS, hfc, hacc, e1, c_26, v7, nI_in8 hk7 hf hnF, show ¬ k7 = f by omega, v8, nI_in8 hk8 hf hnF, show k8 = f by omega]; done) | (simp [ldS, hfc, hacc, e1, c_26]; done))
          · refine g_aload_4 (q := 40) C dX3_loadOf_38 rfl ?_
            rcases w8 with ⟨r8, v8⟩ | ⟨k8, hk8, r8, v8⟩
            · refine g_getrN (q := 43) C f_X3_114 dX3_loadOf_40 rfl (IX.lp I (by assumption)) (IX.dp I (by assumption)) r8 ?_
              refine g_aload_1 (q := 44) C dX3_loadOf_43 rfl ?_
              refine g_acmp_neN1 (tgt := 55) (q := 47) C dX3_loadOf_44 rfl (by decide) ?_
              refine g_iinc_3 (v := nI (i + 1)) (q := 58) C dX3_loadOf_55 rfl (by rw [hN]; decide) (nI_1 i) ?_
              refine g_goto (tgt := 4) C dX3_loadOf_58 (by decide) ?_
              exact ih (i + 1) _ _ (by omega) (by first | (simp [ldS, hfc, hacc, e1, c_26, v7, nI_in8 hk7 hf hnF, show k7 = f by omega]; done) | (simp [ldS, hfc, hacc, e1, c_26, v7, hm, v8, hm]; done) | (simp [ldS, hfc, hacc, e1, c_26, v7, hm, v8, nI_in8 hk8 hf hnF, show ¬ k8 = f by omega]; done) | (simp [ldS, hfc, hacc, e1, c_26, v7, hm, v8, nI_in8 hk8 hf hnF, show k8 = f by omega]; done) | (simp [ldS, hfc, hacc, e1, c_26, v7, nI_in8 hk7 hf hnF, show ¬ k7 = f by omega, v8, hm]; done) | (simp [ldS, hfc, hacc, e1, c_26, v7, nI_in8 hk7 hf hnF, show ¬ k7 = f by omega, v8, nI_in8 hk8 hf hnF, show ¬ k8 = f by omega]; done) | (simp [ldS, hfc, hacc, e1, c_26, v7, nI_in8 hk7 hf hnF, show ¬ k7 = f by omega, v8, nI_in8 hk8 hf hnF, show k8 = f by omega]; done) | (simp [ldS, hfc, hacc, e1, c_26]; done))
            · refine g_getr (q := 43) C f_X3_114 dX3_loadOf_40 rfl (IX.lp I (by assumption)) (IX.dp I (by assumption)) r8 ?_
              refine g_aload_1 (q := 44) C dX3_loadOf_43 rfl ?_
              refine g_acmp_ne (tgt := 55) (q := 47) C dX3_loadOf_44 rfl (by decide) (IX.df I (by assumption)) (IX.df I (by assumption)) (fun c_44 => ?_) (fun c_44 => ?_)
              · refine g_iinc_3 (v := nI (i + 1)) (q := 58) C dX3_loadOf_55 rfl (by rw [hN]; decide) (nI_1 i) ?_
                refine g_goto (tgt := 4) C dX3_loadOf_58 (by decide) ?_
                exact ih (i + 1) _ _ (by omega) (by first | (simp [ldS, hfc, hacc, e1, c_26, v7, nI_in8 hk7 hf hnF, show k7 = f by omega]; done) | (simp [ldS, hfc, hacc, e1, c_26, v7, hm, v8, hm]; done) | (simp [ldS, hfc, hacc, e1, c_26, v7, hm, v8, nI_in8 hk8 hf hnF, show ¬ k8 = f by omega]; done) | (simp [ldS, hfc, hacc, e1, c_26, v7, hm, v8, nI_in8 hk8 hf hnF, show k8 = f by omega]; done) | (simp [ldS, hfc, hacc, e1, c_26, v7, nI_in8 hk7 hf hnF, show ¬ k7 = f by omega, v8, hm]; done) | (simp [ldS, hfc, hacc, e1, c_26, v7, nI_in8 hk7 hf hnF, show ¬ k7 = f by omega, v8, nI_in8 hk8 hf hnF, show ¬ k8 = f by omega]; done) | (simp [ldS, hfc, hacc, e1, c_26, v7, nI_in8 hk7 hf hnF, show ¬ k7 = f by omega, v8, nI_in8 hk8 hf hnF, show k8 = f by omega]; done) | (simp [ldS, hfc, hacc, e1, c_26]; done))
              · refine g_iload_2 (q := 48) C dX3_loadOf_47 rfl ?_
                refine g_aload_4 (q := 50) C dX3_loadOf_48 rfl ?_
                refine g_geti (q := 53) C f_X3_102 dX3_loadOf_50 rfl (IX.lp I (by assumption)) (IX.dp I (by assumption)) ?_
                refine g_iadd (q := 54) C dX3_loadOf_53 rfl ?_
                refine g_istore_2 (q := 55) C dX3_loadOf_54 rfl (by rw [hN]; decide) rfl ?_
                refine g_iinc_3 (v := nI (i + 1)) (q := 58) C dX3_loadOf_55 rfl (by rw [hN]; decide) (nI_1 i) ?_
                refine g_goto (tgt := 4) C dX3_loadOf_58 (by decide) ?_
                exact ih (i + 1) _ _ (by omega) (by first | (simp [ldS, hfc, hacc, e1, c_26, v7, nI_in8 hk7 hf hnF, show k7 = f by omega]; done) | (simp [ldS, hfc, hacc, e1, c_26, v7, hm, v8, hm]; done) | (simp [ldS, hfc, hacc, e1, c_26, v7, hm, v8, nI_in8 hk8 hf hnF, show ¬ k8 = f by omega]; done) | (simp [ldS, hfc, hacc, e1, c_26, v7, hm, v8, nI_in8 hk8 hf hnF, show k8 = f by omega]; done) | (simp [ldS, hfc, hacc, e1, c_26, v7, nI_in8 hk7 hf hnF, show ¬ k7 = f by omega, v8, hm]; done) | (simp [ldS, hfc, hacc, e1, c_26, v7, nI_in8 hk7 hf hnF, show ¬ k7 = f by omega, v8, nI_in8 hk8 hf hnF, show ¬ k8 = f by omega]; done) | (simp [ldS, hfc, hacc, e1, c_26, v7, nI_in8 hk7 hf hnF, show ¬ k7 = f by omega, v8, nI_in8 hk8 hf hnF, show k8 = f by omega]; done) | (simp [ldS, hfc, hacc, e1, c_26]; done))
  refine g_iconst (v := 0) (q := 1) C dX3_loadOf_0 rfl (by decide) ?_
  refine g_istore_2 (q := 2) C dX3_loadOf_1 rfl (by rw [hN]; decide) rfl ?_
  refine g_iconst (v := 0) (q := 3) C dX3_loadOf_2 rfl (by decide) ?_
  refine g_istore_3 (q := 4) C dX3_loadOf_3 rfl (by rw [hN]; decide) rfl ?_
  exact lp nP 0 0 _ (by omega) rfl

theorem ov_0 (X : XR nF nP fl pa nu dm a r) {f : Nat} (hf : f < nF) (c : a (20 + f) 7 = 0) : (if 0 < ldS pa (nI f) nP - a (20 + f) 5 then ldS pa (nI f) nP - a (20 + f) 5 else 0) = ovS fl pa nP f := by
  have h6 : a (20 + f) 7 = fl (7 * f + 6) := X.fk (k := 6) hf (by decide)
  have h4 : a (20 + f) 5 = fl (7 * f + 4) := X.fk (k := 4) hf (by decide)
  have hn : ¬ fl (7 * f + 6) = 1 := by rw [← h6, c]; decide
  unfold ovS
  rw [if_neg hn, h4]
  rfl
theorem ov_1 (X : XR nF nP fl pa nu dm a r) (F : WF nF fl) {f : Nat} (hf : f < nF) (c : ¬ a (20 + f) 7 = 0) : ldS pa (nI f) nP = ovS fl pa nP f := by
  have h6 : a (20 + f) 7 = fl (7 * f + 6) := X.fk (k := 6) hf (by decide)
  rw [h6] at c
  have h1 : fl (7 * f + 6) = 1 := (F f hf).2.2.2.2.2.2.resolve_left c
  unfold ovS
  rw [if_pos h1]
set_option maxHeartbeats 4000000 in
set_option maxRecDepth 100000 in
theorem m_X3_overOf (X : XR nF nP fl pa nu dm a r) (W : WP nF nP pa) (F : WF nF fl) {f : Nat} (hf : f < nF) : MT g bs l yX3_overOf cX3_overOf 3 (some .int) 2 0 0 [.ref (ad 0), .ref (ad (20 + f))] ad dm a b r (PX (some (.int (ovS fl pa nP f))) ad dm a b r) := by
  refine mt_of (by decide) [some (.ref (ad 0)), some (.ref (ad (20 + f))), none] rfl (Nat.le_of_ble_eq_true rfl) ?_
  intro E hg hbs hl hN C RT9 hcells hslots hname
  have I := X.1
  have hnF := I.1
  have hnP := I.2.1
  refine g_aload_0 (q := 1) C dX3_overOf_0 rfl ?_
  refine g_aload_1 (q := 2) C dX3_overOf_1 rfl ?_
  refine g_cv1i (q := 5) C cv_X3_68 dX3_overOf_2 rfl rfl (IX.d0 I _ (by decide)) (m_X3_loadOf X W (by assumption)) (by decide) (Nat.le_of_ble_eq_true rfl) ⟨Nat.zero_le _, Nat.zero_le _⟩ ?_
  refine g_istore_2 (q := 6) C dX3_overOf_5 rfl (by rw [hN]; decide) rfl ?_
  refine g_aload_1 (q := 7) C dX3_overOf_6 rfl ?_
  refine g_geti (q := 10) C f_X3_57 dX3_overOf_7 rfl (IX.lf I (by assumption)) (IX.df I (by assumption)) ?_
  refine g_if_eq (tgt := 17) (q := 13) C dX3_overOf_10 rfl (by decide) (fun c_10 => ?_) (fun c_10 => ?_)
  · refine g_iconst (v := 0) (q := 18) C dX3_overOf_17 rfl (by decide) ?_
    refine g_iload_2 (q := 19) C dX3_overOf_18 rfl ?_
    refine g_aload_1 (q := 20) C dX3_overOf_19 rfl ?_
    refine g_geti (q := 23) C f_X3_75 dX3_overOf_20 rfl (IX.lf I (by assumption)) (IX.df I (by assumption)) ?_
    refine g_isub (q := 24) C dX3_overOf_23 rfl ?_
    refine g_mmax (q := 27) C cm_X3_221 dX3_overOf_24 rfl (by decide) (Nat.le_of_ble_eq_true rfl) ⟨Nat.zero_le _, Nat.zero_le _⟩ ?_
    exact g_iret C RT9 dX3_overOf_27 (pxi (by first | exact ov_0 X hf c_10 | exact ov_1 X F hf c_10))
  · refine g_iload_2 (q := 14) C dX3_overOf_13 rfl ?_
    refine g_goto (tgt := 27) C dX3_overOf_14 (by decide) ?_
    exact g_iret C RT9 dX3_overOf_27 (pxi (by first | exact ov_0 X hf c_10 | exact ov_1 X F hf c_10))

theorem ms_fy {f x : Int32} {p : Nat} (h : pa (9 * p + 4) = 0 ∨ pa (9 * p + 4) = 1) (e : pa (9 * p + 4) = x) : msc pa f p = (decide (¬ x = 0) && fyS pa f p) := by
  subst e
  unfold msc fyS
  rcases h with h | h <;> simp [h, Bool.and_comm]
set_option maxHeartbeats 4000000 in
set_option maxRecDepth 100000 in
theorem m_X3_mustPeople (X : XR nF nP fl pa nu dm a r) (W : WP nF nP pa) {f : Nat} (hf : f < nF) : MT g bs l yX3_mustPeople cX3_mustPeople 4 (some .int) 1 0 0 [.ref (ad 0), .ref (ad (20 + f))] ad dm a b r (PX (some (.int (smS pa (msc pa (nI f)) nP))) ad dm a b r) := by
  refine mt_of (by decide) [some (.ref (ad 0)), some (.ref (ad (20 + f))), none, none] rfl (Nat.le_of_ble_eq_true rfl) ?_
  intro E hg hbs hl hN C RT9 hcells hslots hname
  have I := X.1
  have hnF := I.1
  have hnP := I.2.1
  have lp : ∀ (k i : Nat) (acc : Int32), i + k = nP → acc = smS pa (msc pa (nI f)) i → G E 0 0 ad dm a b r 4 [some (.ref (ad 0)), some (.ref (ad (20 + f))), some (.int acc), some (.int (nI i))] [] := by
    intro k
    induction k with
    | zero =>
      intro i acc  hi hacc
      refine g_iload_3 (q := 5) C dX3_mustPeople_4 rfl ?_
      refine g_aload_0 (q := 6) C dX3_mustPeople_5 rfl ?_
      refine g_geti (q := 9) C f_X3_40 dX3_mustPeople_6 rfl rfl (IX.d0 I _ (by decide)) ?_
      refine g_icmp_ge (tgt := 55) (q := 12) C dX3_mustPeople_9 rfl (by decide) (fun c_9 => ?_) (fun c_9 => absurd (by rw [X.nP]; exact nI_le (by omega) (by omega)) c_9)
      refine g_iload_2 (q := 56) C dX3_mustPeople_55 rfl ?_
      exact g_iret C RT9 dX3_mustPeople_56 (pxi (by rw [hacc, show i = nP by omega]))
    | succ k ih =>
      intro i acc  hi hacc
      have hip : i < nP := by omega
      obtain ⟨o, ho, ro, eo, e1, e2, e3, e4, e5, e6, w7, w8⟩ := X.pt hip
      have hms : msc pa (nI f) i = (decide (¬ a (30 + i) 4 = 0) && fyS pa (nI f) i) := ms_fy (W i hip).2.2.2.2.1 e4
      refine g_iload_3 (q := 5) C dX3_mustPeople_4 rfl ?_
      refine g_aload_0 (q := 6) C dX3_mustPeople_5 rfl ?_
      refine g_geti (q := 9) C f_X3_40 dX3_mustPeople_6 rfl rfl (IX.d0 I _ (by decide)) ?_
      refine g_icmp_ge (tgt := 55) (q := 12) C dX3_mustPeople_9 rfl (by decide) (fun c_9 => absurd c_9 (by rw [X.nP]; exact nI_ge (by omega) (by omega))) (fun c_9 => ?_)
      refine g_aload_0 (q := 13) C dX3_mustPeople_12 rfl ?_
      refine g_getc (q := 16) (m := 2) C f_X3_17 dX3_mustPeople_13 rfl rfl (IX.d0 I _ (by decide)) ?_
      refine g_iload_3 (q := 17) C dX3_mustPeople_16 rfl ?_
      refine g_aaP (q := 18) C dX3_mustPeople_17 rfl rfl (IX.d0 I _ (by decide)) rfl (by omega) (by decide) (XR.rp X (by assumption)) ?_
      refine g_geti (q := 21) C f_X3_227 dX3_mustPeople_18 rfl (IX.lp I (by assumption)) (IX.dp I (by assumption)) ?_
      refine g_if_eq (tgt := 49) (q := 24) C dX3_mustPeople_21 rfl (by decide) (fun c_21 => ?_) (fun c_21 => ?_)
      · refine g_iinc_3 (v := nI (i + 1)) (q := 52) C dX3_mustPeople_49 rfl (by rw [hN]; decide) (nI_1 i) ?_
        refine g_goto (tgt := 4) C dX3_mustPeople_52 (by decide) ?_
        exact ih (i + 1) _  (by omega) (by first | (simp [smS, hms, hacc, e1, c_21, c_34]; done) | (simp [smS, hms, hacc, c_21]; done))
      · refine g_aload_0 (q := 25) C dX3_mustPeople_24 rfl ?_
        refine g_getc (q := 28) (m := 2) C f_X3_17 dX3_mustPeople_25 rfl rfl (IX.d0 I _ (by decide)) ?_
        refine g_iload_3 (q := 29) C dX3_mustPeople_28 rfl ?_
        refine g_aaP (q := 30) C dX3_mustPeople_29 rfl rfl (IX.d0 I _ (by decide)) rfl (by omega) (by decide) (XR.rp X (by assumption)) ?_
        refine g_aload_1 (q := 31) C dX3_mustPeople_30 rfl ?_
        refine g_cv1i (q := 34) C cv_X3_218 dX3_mustPeople_31 rfl (IX.lp I (by assumption)) (IX.dp I (by assumption)) (m_X2_fliesOn X (by assumption) (by assumption)) (by decide) (Nat.le_of_ble_eq_true rfl) ⟨Nat.zero_le _, Nat.zero_le _⟩ ?_
        refine g_ifeqb (tgt := 49) (q := 37) C dX3_mustPeople_34 rfl (by decide) (fun c_34 => ?_) (fun c_34 => ?_)
        · refine g_iinc_3 (v := nI (i + 1)) (q := 52) C dX3_mustPeople_49 rfl (by rw [hN]; decide) (nI_1 i) ?_
          refine g_goto (tgt := 4) C dX3_mustPeople_52 (by decide) ?_
          exact ih (i + 1) _  (by omega) (by first | (simp [smS, hms, hacc, e1, c_21, c_34]; done) | (simp [smS, hms, hacc, c_21]; done))
        · refine g_iload_2 (q := 38) C dX3_mustPeople_37 rfl ?_
          refine g_aload_0 (q := 39) C dX3_mustPeople_38 rfl ?_
          refine g_getc (q := 42) (m := 2) C f_X3_17 dX3_mustPeople_39 rfl rfl (IX.d0 I _ (by decide)) ?_
          refine g_iload_3 (q := 43) C dX3_mustPeople_42 rfl ?_
          refine g_aaP (q := 44) C dX3_mustPeople_43 rfl rfl (IX.d0 I _ (by decide)) rfl (by omega) (by decide) (XR.rp X (by assumption)) ?_
          refine g_geti (q := 47) C f_X3_102 dX3_mustPeople_44 rfl (IX.lp I (by assumption)) (IX.dp I (by assumption)) ?_
          refine g_iadd (q := 48) C dX3_mustPeople_47 rfl ?_
          refine g_istore_2 (q := 49) C dX3_mustPeople_48 rfl (by rw [hN]; decide) rfl ?_
          refine g_iinc_3 (v := nI (i + 1)) (q := 52) C dX3_mustPeople_49 rfl (by rw [hN]; decide) (nI_1 i) ?_
          refine g_goto (tgt := 4) C dX3_mustPeople_52 (by decide) ?_
          exact ih (i + 1) _  (by omega) (by first | (simp [smS, hms, hacc, e1, c_21, c_34]; done) | (simp [smS, hms, hacc, c_21]; done))
  refine g_iconst (v := 0) (q := 1) C dX3_mustPeople_0 rfl (by decide) ?_
  refine g_istore_2 (q := 2) C dX3_mustPeople_1 rfl (by rw [hN]; decide) rfl ?_
  refine g_iconst (v := 0) (q := 3) C dX3_mustPeople_2 rfl (by decide) ?_
  refine g_istore_3 (q := 4) C dX3_mustPeople_3 rfl (by rw [hN]; decide) rfl ?_
  exact lp nP 0 0 (by omega) rfl

set_option maxHeartbeats 4000000 in
set_option maxRecDepth 100000 in
theorem m_X3_flyingPeople (X : XR nF nP fl pa nu dm a r) : MT g bs l yX3_flyingPeople cX3_flyingPeople 3 (some .int) 0 0 0 [.ref (ad 0)] ad dm a b r (PX (some (.int (smS pa (cnc fl pa 2) nP))) ad dm a b r) := by
  refine mt_of (by decide) [some (.ref (ad 0)), none, none] rfl (Nat.le_of_ble_eq_true rfl) ?_
  intro E hg hbs hl hN C RT9 hcells hslots hname
  have I := X.1
  have hnF := I.1
  have hnP := I.2.1
  have lp : ∀ (k i : Nat) (acc : Int32), i + k = nP → acc = smS pa (cnc fl pa 2) i → G E 0 0 ad dm a b r 4 [some (.ref (ad 0)), some (.int acc), some (.int (nI i))] [] := by
    intro k
    induction k with
    | zero =>
      intro i acc  hi hacc
      refine g_iload_2 (q := 5) C dX3_flyingPeople_4 rfl ?_
      refine g_aload_0 (q := 6) C dX3_flyingPeople_5 rfl ?_
      refine g_geti (q := 9) C f_X3_40 dX3_flyingPeople_6 rfl rfl (IX.d0 I _ (by decide)) ?_
      refine g_icmp_ge (tgt := 57) (q := 12) C dX3_flyingPeople_9 rfl (by decide) (fun c_9 => ?_) (fun c_9 => absurd (by rw [X.nP]; exact nI_le (by omega) (by omega)) c_9)
      refine g_iload_1 (q := 58) C dX3_flyingPeople_57 rfl ?_
      exact g_iret C RT9 dX3_flyingPeople_58 (pxi (by rw [hacc, show i = nP by omega]))
    | succ k ih =>
      intro i acc  hi hacc
      have hip : i < nP := by omega
      obtain ⟨o, ho, ro, eo, e1, e2, e3, e4, e5, e6, w7, w8⟩ := X.pt hip
      have ef : fl (7 * cN (pa (9 * i)) + 6) = a (20 + o) 7 := by rw [eo, cN_nI (by omega)]; exact (X.fk (k := 6) ho (by decide)).symm
      refine g_iload_2 (q := 5) C dX3_flyingPeople_4 rfl ?_
      refine g_aload_0 (q := 6) C dX3_flyingPeople_5 rfl ?_
      refine g_geti (q := 9) C f_X3_40 dX3_flyingPeople_6 rfl rfl (IX.d0 I _ (by decide)) ?_
      refine g_icmp_ge (tgt := 57) (q := 12) C dX3_flyingPeople_9 rfl (by decide) (fun c_9 => absurd c_9 (by rw [X.nP]; exact nI_ge (by omega) (by omega))) (fun c_9 => ?_)
      refine g_aload_0 (q := 13) C dX3_flyingPeople_12 rfl ?_
      refine g_getc (q := 16) (m := 2) C f_X3_17 dX3_flyingPeople_13 rfl rfl (IX.d0 I _ (by decide)) ?_
      refine g_iload_2 (q := 17) C dX3_flyingPeople_16 rfl ?_
      refine g_aaP (q := 18) C dX3_flyingPeople_17 rfl rfl (IX.d0 I _ (by decide)) rfl (by omega) (by decide) (XR.rp X (by assumption)) ?_
      refine g_geti (q := 21) C f_X3_92 dX3_flyingPeople_18 rfl (IX.lp I (by assumption)) (IX.dp I (by assumption)) ?_
      refine g_if_ne (tgt := 51) (q := 24) C dX3_flyingPeople_21 rfl (by decide) (fun c_21 => ?_) (fun c_21 => ?_)
      · refine g_iinc_2 (v := nI (i + 1)) (q := 54) C dX3_flyingPeople_51 rfl (by rw [hN]; decide) (nI_1 i) ?_
        refine g_goto (tgt := 4) C dX3_flyingPeople_54 (by decide) ?_
        exact ih (i + 1) _  (by omega) (by first | (simp [smS, cnc_2, hacc, e5, ef, e1, c_21, c_36]; done) | (simp [smS, cnc_2, hacc, e5, ef, c_21]; done))
      · refine g_aload_0 (q := 25) C dX3_flyingPeople_24 rfl ?_
        refine g_getc (q := 28) (m := 2) C f_X3_17 dX3_flyingPeople_25 rfl rfl (IX.d0 I _ (by decide)) ?_
        refine g_iload_2 (q := 29) C dX3_flyingPeople_28 rfl ?_
        refine g_aaP (q := 30) C dX3_flyingPeople_29 rfl rfl (IX.d0 I _ (by decide)) rfl (by omega) (by decide) (XR.rp X (by assumption)) ?_
        refine g_getr (q := 33) C f_X3_95 dX3_flyingPeople_30 rfl (IX.lp I (by assumption)) (IX.dp I (by assumption)) ro ?_
        refine g_geti (q := 36) C f_X3_57 dX3_flyingPeople_33 rfl (IX.lf I (by assumption)) (IX.df I (by assumption)) ?_
        refine g_if_ne (tgt := 51) (q := 39) C dX3_flyingPeople_36 rfl (by decide) (fun c_36 => ?_) (fun c_36 => ?_)
        · refine g_iinc_2 (v := nI (i + 1)) (q := 54) C dX3_flyingPeople_51 rfl (by rw [hN]; decide) (nI_1 i) ?_
          refine g_goto (tgt := 4) C dX3_flyingPeople_54 (by decide) ?_
          exact ih (i + 1) _  (by omega) (by first | (simp [smS, cnc_2, hacc, e5, ef, e1, c_21, c_36]; done) | (simp [smS, cnc_2, hacc, e5, ef, c_21]; done))
        · refine g_iload_1 (q := 40) C dX3_flyingPeople_39 rfl ?_
          refine g_aload_0 (q := 41) C dX3_flyingPeople_40 rfl ?_
          refine g_getc (q := 44) (m := 2) C f_X3_17 dX3_flyingPeople_41 rfl rfl (IX.d0 I _ (by decide)) ?_
          refine g_iload_2 (q := 45) C dX3_flyingPeople_44 rfl ?_
          refine g_aaP (q := 46) C dX3_flyingPeople_45 rfl rfl (IX.d0 I _ (by decide)) rfl (by omega) (by decide) (XR.rp X (by assumption)) ?_
          refine g_geti (q := 49) C f_X3_102 dX3_flyingPeople_46 rfl (IX.lp I (by assumption)) (IX.dp I (by assumption)) ?_
          refine g_iadd (q := 50) C dX3_flyingPeople_49 rfl ?_
          refine g_istore_1 (q := 51) C dX3_flyingPeople_50 rfl (by rw [hN]; decide) rfl ?_
          refine g_iinc_2 (v := nI (i + 1)) (q := 54) C dX3_flyingPeople_51 rfl (by rw [hN]; decide) (nI_1 i) ?_
          refine g_goto (tgt := 4) C dX3_flyingPeople_54 (by decide) ?_
          exact ih (i + 1) _  (by omega) (by first | (simp [smS, cnc_2, hacc, e5, ef, e1, c_21, c_36]; done) | (simp [smS, cnc_2, hacc, e5, ef, c_21]; done))
  refine g_iconst (v := 0) (q := 1) C dX3_flyingPeople_0 rfl (by decide) ?_
  refine g_istore_1 (q := 2) C dX3_flyingPeople_1 rfl (by rw [hN]; decide) rfl ?_
  refine g_iconst (v := 0) (q := 3) C dX3_flyingPeople_2 rfl (by decide) ?_
  refine g_istore_2 (q := 4) C dX3_flyingPeople_3 rfl (by rw [hN]; decide) rfl ?_
  exact lp nP 0 0 (by omega) rfl

set_option maxHeartbeats 4000000 in
set_option maxRecDepth 100000 in
theorem m_X3_peopleIn (X : XR nF nP fl pa nu dm a r) (z : Int32) : MT g bs l yX3_peopleIn cX3_peopleIn 4 (some .int) 0 0 0 [.ref (ad 0), .int z] ad dm a b r (PX (some (.int (smS pa (fun p => decide (pa (9 * p + 5) = z)) nP))) ad dm a b r) := by
  refine mt_of (by decide) [some (.ref (ad 0)), some (.int z), none, none] rfl (Nat.le_of_ble_eq_true rfl) ?_
  intro E hg hbs hl hN C RT9 hcells hslots hname
  have I := X.1
  have hnF := I.1
  have hnP := I.2.1
  have lp : ∀ (k i : Nat) (acc : Int32), i + k = nP → acc = smS pa (fun p => decide (pa (9 * p + 5) = z)) i → G E 0 0 ad dm a b r 4 [some (.ref (ad 0)), some (.int z), some (.int acc), some (.int (nI i))] [] := by
    intro k
    induction k with
    | zero =>
      intro i acc  hi hacc
      refine g_iload_3 (q := 5) C dX3_peopleIn_4 rfl ?_
      refine g_aload_0 (q := 6) C dX3_peopleIn_5 rfl ?_
      refine g_geti (q := 9) C f_X3_40 dX3_peopleIn_6 rfl rfl (IX.d0 I _ (by decide)) ?_
      refine g_icmp_ge (tgt := 43) (q := 12) C dX3_peopleIn_9 rfl (by decide) (fun c_9 => ?_) (fun c_9 => absurd (by rw [X.nP]; exact nI_le (by omega) (by omega)) c_9)
      refine g_iload_2 (q := 44) C dX3_peopleIn_43 rfl ?_
      exact g_iret C RT9 dX3_peopleIn_44 (pxi (by rw [hacc, show i = nP by omega]))
    | succ k ih =>
      intro i acc  hi hacc
      have hip : i < nP := by omega
      obtain ⟨o, ho, ro, eo, e1, e2, e3, e4, e5, e6, w7, w8⟩ := X.pt hip
      refine g_iload_3 (q := 5) C dX3_peopleIn_4 rfl ?_
      refine g_aload_0 (q := 6) C dX3_peopleIn_5 rfl ?_
      refine g_geti (q := 9) C f_X3_40 dX3_peopleIn_6 rfl rfl (IX.d0 I _ (by decide)) ?_
      refine g_icmp_ge (tgt := 43) (q := 12) C dX3_peopleIn_9 rfl (by decide) (fun c_9 => absurd c_9 (by rw [X.nP]; exact nI_ge (by omega) (by omega))) (fun c_9 => ?_)
      refine g_aload_0 (q := 13) C dX3_peopleIn_12 rfl ?_
      refine g_getc (q := 16) (m := 2) C f_X3_17 dX3_peopleIn_13 rfl rfl (IX.d0 I _ (by decide)) ?_
      refine g_iload_3 (q := 17) C dX3_peopleIn_16 rfl ?_
      refine g_aaP (q := 18) C dX3_peopleIn_17 rfl rfl (IX.d0 I _ (by decide)) rfl (by omega) (by decide) (XR.rp X (by assumption)) ?_
      refine g_geti (q := 21) C f_X3_92 dX3_peopleIn_18 rfl (IX.lp I (by assumption)) (IX.dp I (by assumption)) ?_
      refine g_iload_1 (q := 22) C dX3_peopleIn_21 rfl ?_
      refine g_icmp_ne (tgt := 37) (q := 25) C dX3_peopleIn_22 rfl (by decide) (fun c_22 => ?_) (fun c_22 => ?_)
      · refine g_iinc_3 (v := nI (i + 1)) (q := 40) C dX3_peopleIn_37 rfl (by rw [hN]; decide) (nI_1 i) ?_
        refine g_goto (tgt := 4) C dX3_peopleIn_40 (by decide) ?_
        exact ih (i + 1) _  (by omega) (by first | (simp [smS, hacc, e5, e1, c_22]; done))
      · refine g_iload_2 (q := 26) C dX3_peopleIn_25 rfl ?_
        refine g_aload_0 (q := 27) C dX3_peopleIn_26 rfl ?_
        refine g_getc (q := 30) (m := 2) C f_X3_17 dX3_peopleIn_27 rfl rfl (IX.d0 I _ (by decide)) ?_
        refine g_iload_3 (q := 31) C dX3_peopleIn_30 rfl ?_
        refine g_aaP (q := 32) C dX3_peopleIn_31 rfl rfl (IX.d0 I _ (by decide)) rfl (by omega) (by decide) (XR.rp X (by assumption)) ?_
        refine g_geti (q := 35) C f_X3_102 dX3_peopleIn_32 rfl (IX.lp I (by assumption)) (IX.dp I (by assumption)) ?_
        refine g_iadd (q := 36) C dX3_peopleIn_35 rfl ?_
        refine g_istore_2 (q := 37) C dX3_peopleIn_36 rfl (by rw [hN]; decide) rfl ?_
        refine g_iinc_3 (v := nI (i + 1)) (q := 40) C dX3_peopleIn_37 rfl (by rw [hN]; decide) (nI_1 i) ?_
        refine g_goto (tgt := 4) C dX3_peopleIn_40 (by decide) ?_
        exact ih (i + 1) _  (by omega) (by first | (simp [smS, hacc, e5, e1, c_22]; done))
  refine g_iconst (v := 0) (q := 1) C dX3_peopleIn_0 rfl (by decide) ?_
  refine g_istore_2 (q := 2) C dX3_peopleIn_1 rfl (by rw [hN]; decide) rfl ?_
  refine g_iconst (v := 0) (q := 3) C dX3_peopleIn_2 rfl (by decide) ?_
  refine g_istore_3 (q := 4) C dX3_peopleIn_3 rfl (by rw [hN]; decide) rfl ?_
  exact lp nP 0 0 (by omega) rfl

set_option maxHeartbeats 4000000 in
set_option maxRecDepth 100000 in
theorem m_X3_peopleWithWay (X : XR nF nP fl pa nu dm a r) : MT g bs l yX3_peopleWithWay cX3_peopleWithWay 3 (some .int) 0 0 0 [.ref (ad 0)] ad dm a b r (PX (some (.int (smS pa (fun p => decide (pa (9 * p + 7) ≠ -1)) nP))) ad dm a b r) := by
  refine mt_of (by decide) [some (.ref (ad 0)), none, none] rfl (Nat.le_of_ble_eq_true rfl) ?_
  intro E hg hbs hl hN C RT9 hcells hslots hname
  have I := X.1
  have hnF := I.1
  have hnP := I.2.1
  have lp : ∀ (k i : Nat) (acc : Int32), i + k = nP → acc = smS pa (fun p => decide (pa (9 * p + 7) ≠ -1)) i → G E 0 0 ad dm a b r 4 [some (.ref (ad 0)), some (.int acc), some (.int (nI i))] [] := by
    intro k
    induction k with
    | zero =>
      intro i acc  hi hacc
      refine g_iload_2 (q := 5) C dX3_peopleWithWay_4 rfl ?_
      refine g_aload_0 (q := 6) C dX3_peopleWithWay_5 rfl ?_
      refine g_geti (q := 9) C f_X3_40 dX3_peopleWithWay_6 rfl rfl (IX.d0 I _ (by decide)) ?_
      refine g_icmp_ge (tgt := 42) (q := 12) C dX3_peopleWithWay_9 rfl (by decide) (fun c_9 => ?_) (fun c_9 => absurd (by rw [X.nP]; exact nI_le (by omega) (by omega)) c_9)
      refine g_iload_1 (q := 43) C dX3_peopleWithWay_42 rfl ?_
      exact g_iret C RT9 dX3_peopleWithWay_43 (pxi (by rw [hacc, show i = nP by omega]))
    | succ k ih =>
      intro i acc  hi hacc
      have hip : i < nP := by omega
      obtain ⟨o, ho, ro, eo, e1, e2, e3, e4, e5, e6, w7, w8⟩ := X.pt hip
      refine g_iload_2 (q := 5) C dX3_peopleWithWay_4 rfl ?_
      refine g_aload_0 (q := 6) C dX3_peopleWithWay_5 rfl ?_
      refine g_geti (q := 9) C f_X3_40 dX3_peopleWithWay_6 rfl rfl (IX.d0 I _ (by decide)) ?_
      refine g_icmp_ge (tgt := 42) (q := 12) C dX3_peopleWithWay_9 rfl (by decide) (fun c_9 => absurd c_9 (by rw [X.nP]; exact nI_ge (by omega) (by omega))) (fun c_9 => ?_)
      refine g_aload_0 (q := 13) C dX3_peopleWithWay_12 rfl ?_
      refine g_getc (q := 16) (m := 2) C f_X3_17 dX3_peopleWithWay_13 rfl rfl (IX.d0 I _ (by decide)) ?_
      refine g_iload_2 (q := 17) C dX3_peopleWithWay_16 rfl ?_
      refine g_aaP (q := 18) C dX3_peopleWithWay_17 rfl rfl (IX.d0 I _ (by decide)) rfl (by omega) (by decide) (XR.rp X (by assumption)) ?_
      rcases w7 with ⟨r7, v7⟩ | ⟨k7, hk7, r7, v7⟩
      · refine g_getrN (q := 21) C f_X3_108 dX3_peopleWithWay_18 rfl (IX.lp I (by assumption)) (IX.dp I (by assumption)) r7 ?_
        refine g_ifnullN (tgt := 36) C dX3_peopleWithWay_21 (by decide) ?_
        refine g_iinc_2 (v := nI (i + 1)) (q := 39) C dX3_peopleWithWay_36 rfl (by rw [hN]; decide) (nI_1 i) ?_
        refine g_goto (tgt := 4) C dX3_peopleWithWay_39 (by decide) ?_
        exact ih (i + 1) _  (by omega) (by first | (simp [smS, hacc, e1, v7, nI_m1 (show k7 < 2 ^ 31 by omega)]; done) | (simp [smS, hacc, v7]; done))
      · refine g_getr (q := 21) C f_X3_108 dX3_peopleWithWay_18 rfl (IX.lp I (by assumption)) (IX.dp I (by assumption)) r7 ?_
        refine g_ifnull (q := 24) C dX3_peopleWithWay_21 rfl ?_
        refine g_iload_1 (q := 25) C dX3_peopleWithWay_24 rfl ?_
        refine g_aload_0 (q := 26) C dX3_peopleWithWay_25 rfl ?_
        refine g_getc (q := 29) (m := 2) C f_X3_17 dX3_peopleWithWay_26 rfl rfl (IX.d0 I _ (by decide)) ?_
        refine g_iload_2 (q := 30) C dX3_peopleWithWay_29 rfl ?_
        refine g_aaP (q := 31) C dX3_peopleWithWay_30 rfl rfl (IX.d0 I _ (by decide)) rfl (by omega) (by decide) (XR.rp X (by assumption)) ?_
        refine g_geti (q := 34) C f_X3_102 dX3_peopleWithWay_31 rfl (IX.lp I (by assumption)) (IX.dp I (by assumption)) ?_
        refine g_iadd (q := 35) C dX3_peopleWithWay_34 rfl ?_
        refine g_istore_1 (q := 36) C dX3_peopleWithWay_35 rfl (by rw [hN]; decide) rfl ?_
        refine g_iinc_2 (v := nI (i + 1)) (q := 39) C dX3_peopleWithWay_36 rfl (by rw [hN]; decide) (nI_1 i) ?_
        refine g_goto (tgt := 4) C dX3_peopleWithWay_39 (by decide) ?_
        exact ih (i + 1) _  (by omega) (by first | (simp [smS, hacc, e1, v7, nI_m1 (show k7 < 2 ^ 31 by omega)]; done) | (simp [smS, hacc, v7]; done))
  refine g_iconst (v := 0) (q := 1) C dX3_peopleWithWay_0 rfl (by decide) ?_
  refine g_istore_1 (q := 2) C dX3_peopleWithWay_1 rfl (by rw [hN]; decide) rfl ?_
  refine g_iconst (v := 0) (q := 3) C dX3_peopleWithWay_2 rfl (by decide) ?_
  refine g_istore_2 (q := 4) C dX3_peopleWithWay_3 rfl (by rw [hN]; decide) rfl ?_
  exact lp nP 0 0 (by omega) rfl

set_option maxHeartbeats 4000000 in
set_option maxRecDepth 100000 in
theorem m_X3_baseFee (X : XR nF nP fl pa nu dm a r) (z : Int32) : MT g bs l yX3_baseFee cX3_baseFee 2 (some .int) 0 0 0 [.ref (ad 0), .int z] ad dm a b r (PX (some (.int (if z ≤ 1500 then nu 1 else if z ≤ 3500 then nu 2 else nu 3))) ad dm a b r) := by
  refine mt_of (by decide) [some (.ref (ad 0)), some (.int z)] rfl (Nat.le_of_ble_eq_true rfl) ?_
  intro E hg hbs hl hN C RT9 hcells hslots hname
  have I := X.1
  have hnF := I.1
  have hnP := I.2.1
  refine g_iload_1 (q := 1) C dX3_baseFee_0 rfl ?_
  refine g_sipush (v := 1500) (q := 4) C dX3_baseFee_1 rfl (by decide) ?_
  refine g_icmp_gt (tgt := 14) (q := 7) C dX3_baseFee_4 rfl (by decide) (fun c_4 => ?_) (fun c_4 => ?_)
  · refine g_iload_1 (q := 15) C dX3_baseFee_14 rfl ?_
    refine g_sipush (v := 3500) (q := 18) C dX3_baseFee_15 rfl (by decide) ?_
    refine g_icmp_gt (tgt := 30) (q := 21) C dX3_baseFee_18 rfl (by decide) (fun c_18 => ?_) (fun c_18 => ?_)
    · refine g_aload_0 (q := 31) C dX3_baseFee_30 rfl ?_
      refine g_getc (q := 34) (m := 3) C f_X3_21 dX3_baseFee_31 rfl rfl (IX.d0 I _ (by decide)) ?_
      refine g_iconst (v := 2) (q := 35) C dX3_baseFee_34 rfl (by decide) ?_
      refine g_ia (q := 36) C dX3_baseFee_35 rfl rfl (IX.d0 I _ (by decide)) (show _ = nI 2 from rfl) (by decide) (by decide) ?_
      exact g_iret C RT9 dX3_baseFee_36 (pxi (by rw [if_neg (Int32.not_le.mpr c_4)]; first | rw [X.fe (k := 1) (by decide), if_pos (Int32.not_lt.mp c_18)] | rw [X.fe (k := 2) (by decide), if_neg (Int32.not_le.mpr c_18)]))
    · refine g_aload_0 (q := 22) C dX3_baseFee_21 rfl ?_
      refine g_getc (q := 25) (m := 3) C f_X3_21 dX3_baseFee_22 rfl rfl (IX.d0 I _ (by decide)) ?_
      refine g_iconst (v := 1) (q := 26) C dX3_baseFee_25 rfl (by decide) ?_
      refine g_ia (q := 27) C dX3_baseFee_26 rfl rfl (IX.d0 I _ (by decide)) (show _ = nI 1 from rfl) (by decide) (by decide) ?_
      refine g_goto (tgt := 36) C dX3_baseFee_27 (by decide) ?_
      exact g_iret C RT9 dX3_baseFee_36 (pxi (by rw [if_neg (Int32.not_le.mpr c_4)]; first | rw [X.fe (k := 1) (by decide), if_pos (Int32.not_lt.mp c_18)] | rw [X.fe (k := 2) (by decide), if_neg (Int32.not_le.mpr c_18)]))
  · refine g_aload_0 (q := 8) C dX3_baseFee_7 rfl ?_
    refine g_getc (q := 11) (m := 3) C f_X3_21 dX3_baseFee_8 rfl rfl (IX.d0 I _ (by decide)) ?_
    refine g_iconst (v := 0) (q := 12) C dX3_baseFee_11 rfl (by decide) ?_
    refine g_ia (q := 13) C dX3_baseFee_12 rfl rfl (IX.d0 I _ (by decide)) (show _ = nI 0 from rfl) (by decide) (by decide) ?_
    exact g_iret C RT9 dX3_baseFee_13 (pxi (by rw [X.fe (k := 0) (by decide), if_pos (Int32.not_lt.mp c_4)]))

theorem mx0_ne (x : Int32) : ¬ mx0 x = -1 := by
  unfold mx0
  split
  · intro e
    subst e
    exact absurd ‹(0 : Int32) < -1› (by decide)
  · decide
theorem lo_m1 {j k : Nat} (hk : k < nF) (v7 : pa (9 * j + 7) = nI k) (hn : nF ≤ 8) : ¬ loS fl pa j = -1 := by
  rw [loS, if_neg (by rw [v7]; exact nI_m1 (by omega))]
  exact mx0_ne _
theorem cl_a {j : Nat} {x5 x6 x1 : Int32} (h5 : pa (9 * j + 5) = 0 ∨ pa (9 * j + 5) = 1 ∨ pa (9 * j + 5) = 2) (h0 : pa (9 * j + 5) = 0 → pa (9 * j + 6) = 0 ∧ pa (9 * j + 7) = -1 ∧ pa (9 * j + 8) = -1) (e5 : pa (9 * j + 5) = x5) (e6 : pa (9 * j + 6) = x6) (e1 : pa (9 * j + 1) = x1) (c : ¬ x5 = 2) {z : Int32} : x6 * x1 = (if pa (9 * j + 5) = 0 then 0 else if pa (9 * j + 5) = 1 then pa (9 * j + 6) * pa (9 * j + 1) else z) := by
  rw [← e5] at c
  rcases h5 with h | h | h
  · rw [if_pos h, ← e6, (h0 h).1]; simp
  · rw [if_neg (by rw [h]; decide), if_pos h, e6, e1]
  · exact absurd h c
set_option maxHeartbeats 4000000 in
set_option maxRecDepth 100000 in
theorem m_X3_claimOf (X : XR nF nP fl pa nu dm a r) (W : WP nF nP pa) {j : Nat} (hj : j < nP) : MT g bs l yX3_claimOf cX3_claimOf 4 (some .int) 3 0 0 [.ref (ad 0), .ref (ad (30 + j))] ad dm a b r (PX (some (.int (clS fl pa nu j))) ad dm a b r) := by
  refine mt_of (by decide) [some (.ref (ad 0)), some (.ref (ad (30 + j))), none, none] rfl (Nat.le_of_ble_eq_true rfl) ?_
  intro E hg hbs hl hN C RT9 hcells hslots hname
  have I := X.1
  have hnF := I.1
  have hnP := I.2.1
  obtain ⟨o, ho, ro, eo, e1, e2, e3, e4, e5, e6, w7, w8⟩ := X.pt hj
  refine g_aload_1 (q := 1) C dX3_claimOf_0 rfl ?_
  refine g_geti (q := 4) C f_X3_92 dX3_claimOf_1 rfl (IX.lp I (by assumption)) (IX.dp I (by assumption)) ?_
  refine g_iconst (v := 2) (q := 5) C dX3_claimOf_4 rfl (by decide) ?_
  refine g_icmp_eq (tgt := 18) (q := 8) C dX3_claimOf_5 rfl (by decide) (fun c_5 => ?_) (fun c_5 => ?_)
  · refine g_aload_0 (q := 19) C dX3_claimOf_18 rfl ?_
    refine g_aload_1 (q := 20) C dX3_claimOf_19 rfl ?_
    refine g_getr (q := 23) C f_X3_95 dX3_claimOf_20 rfl (IX.lp I (by assumption)) (IX.dp I (by assumption)) ro ?_
    refine g_geti (q := 26) C f_X3_230 dX3_claimOf_23 rfl (IX.lf I (by assumption)) (IX.df I (by assumption)) ?_
    refine g_cv1i (q := 29) C cv_X3_233 dX3_claimOf_26 rfl rfl (IX.d0 I _ (by decide)) (m_X3_baseFee X _) (by decide) (Nat.le_of_ble_eq_true rfl) ⟨Nat.zero_le _, Nat.zero_le _⟩ ?_
    have hbs9 : (if a (20 + o) 6 ≤ 1500 then nu 1 else if a (20 + o) 6 ≤ 3500 then nu 2 else nu 3) = bsS fl pa nu j := by rw [bsS, eo, cN_nI (by omega), ← X.fk (k := 5) ho (by decide)]
    rw [hbs9]
    refine g_istore_2 (q := 30) C dX3_claimOf_29 rfl (by rw [hN]; decide) rfl ?_
    refine g_aload_1 (q := 31) C dX3_claimOf_30 rfl ?_
    rcases w7 with ⟨r7, v7⟩ | ⟨k7, hk7, r7, v7⟩
    · refine g_getrN (q := 34) C f_X3_108 dX3_claimOf_31 rfl (IX.lp I (by assumption)) (IX.dp I (by assumption)) r7 ?_
      refine g_ifnonnullN (q := 37) C dX3_claimOf_34 rfl ?_
      refine g_iload_2 (q := 38) C dX3_claimOf_37 rfl ?_
      refine g_aload_1 (q := 39) C dX3_claimOf_38 rfl ?_
      refine g_geti (q := 42) C f_X3_102 dX3_claimOf_39 rfl (IX.lp I (by assumption)) (IX.dp I (by assumption)) ?_
      refine g_imul (q := 43) C dX3_claimOf_42 rfl ?_
      exact g_iret C RT9 dX3_claimOf_43 (pxi (by rw [clS, e5, c_5, if_neg (by decide), if_neg (by decide), if_pos (by rw [loS, if_pos v7]), e1]))
    · refine g_getr (q := 34) C f_X3_108 dX3_claimOf_31 rfl (IX.lp I (by assumption)) (IX.dp I (by assumption)) r7 ?_
      refine g_ifnonnull (tgt := 44) C dX3_claimOf_34 (by decide) ?_
      refine g_aload_1 (q := 45) C dX3_claimOf_44 rfl ?_
      refine g_cv0i (q := 48) C cv_X3_117 dX3_claimOf_45 rfl (IX.lp I (by assumption)) (IX.dp I (by assumption)) (m_X2_lateByWay X (by assumption)) (by decide) (Nat.le_of_ble_eq_true rfl) ⟨Nat.zero_le _, Nat.zero_le _⟩ ?_
      refine g_istore_3 (q := 49) C dX3_claimOf_48 rfl (by rw [hN]; decide) rfl ?_
      refine g_iload_3 (q := 50) C dX3_claimOf_49 rfl ?_
      refine g_bipush (v := 120) (q := 52) C dX3_claimOf_50 rfl (by decide) ?_
      refine g_icmp_ge (tgt := 57) (q := 55) C dX3_claimOf_52 rfl (by decide) (fun c_52 => ?_) (fun c_52 => ?_)
      · refine g_iload_3 (q := 58) C dX3_claimOf_57 rfl ?_
        refine g_sipush (v := 240) (q := 61) C dX3_claimOf_58 rfl (by decide) ?_
        refine g_icmp_ge (tgt := 70) (q := 64) C dX3_claimOf_61 rfl (by decide) (fun c_61 => ?_) (fun c_61 => ?_)
        · refine g_iload_2 (q := 71) C dX3_claimOf_70 rfl ?_
          refine g_aload_1 (q := 72) C dX3_claimOf_71 rfl ?_
          refine g_geti (q := 75) C f_X3_102 dX3_claimOf_72 rfl (IX.lp I (by assumption)) (IX.dp I (by assumption)) ?_
          refine g_imul (q := 76) C dX3_claimOf_75 rfl ?_
          exact g_iret C RT9 dX3_claimOf_76 (pxi (by rw [clS, e5, c_5, if_neg (by decide), if_neg (by decide), if_neg (lo_m1 hk7 v7 hnF), if_neg (Int32.not_lt.mpr c_52), e1]; first | rw [if_pos (Int32.not_le.mp c_61)] | rw [if_neg (Int32.not_lt.mpr c_61)]))
        · refine g_iload_2 (q := 65) C dX3_claimOf_64 rfl ?_
          refine g_iconst (v := 2) (q := 66) C dX3_claimOf_65 rfl (by decide) ?_
          refine g_idiv (q := 67) C dX3_claimOf_66 rfl (by decide) ?_
          refine g_goto (tgt := 71) C dX3_claimOf_67 (by decide) ?_
          refine g_aload_1 (q := 72) C dX3_claimOf_71 rfl ?_
          refine g_geti (q := 75) C f_X3_102 dX3_claimOf_72 rfl (IX.lp I (by assumption)) (IX.dp I (by assumption)) ?_
          refine g_imul (q := 76) C dX3_claimOf_75 rfl ?_
          exact g_iret C RT9 dX3_claimOf_76 (pxi (by rw [clS, e5, c_5, if_neg (by decide), if_neg (by decide), if_neg (lo_m1 hk7 v7 hnF), if_neg (Int32.not_lt.mpr c_52), e1]; first | rw [if_pos (Int32.not_le.mp c_61)] | rw [if_neg (Int32.not_lt.mpr c_61)]))
      · refine g_iconst (v := 0) (q := 56) C dX3_claimOf_55 rfl (by decide) ?_
        exact g_iret C RT9 dX3_claimOf_56 (pxi (by rw [clS, e5, c_5, if_neg (by decide), if_neg (by decide), if_neg (lo_m1 hk7 v7 hnF), if_pos (Int32.not_le.mp c_52)]; simp))
  · refine g_aload_1 (q := 9) C dX3_claimOf_8 rfl ?_
    refine g_geti (q := 12) C f_X3_105 dX3_claimOf_9 rfl (IX.lp I (by assumption)) (IX.dp I (by assumption)) ?_
    refine g_aload_1 (q := 13) C dX3_claimOf_12 rfl ?_
    refine g_geti (q := 16) C f_X3_102 dX3_claimOf_13 rfl (IX.lp I (by assumption)) (IX.dp I (by assumption)) ?_
    refine g_imul (q := 17) C dX3_claimOf_16 rfl ?_
    exact g_iret C RT9 dX3_claimOf_17 (pxi (by rw [clS]; first | exact cl_a (W j hj).2.2.2.2.2.1 (W j hj).2.2.2.2.2.2.2.2.2.1 e5 e6 e1 c_5))

set_option maxHeartbeats 4000000 in
set_option maxRecDepth 100000 in
theorem m_X3_allClaims (X : XR nF nP fl pa nu dm a r) (W : WP nF nP pa) : MT g bs l yX3_allClaims cX3_allClaims 3 (some .int) 4 0 0 [.ref (ad 0)] ad dm a b r (PX (some (.int (csS fl pa nu nP))) ad dm a b r) := by
  refine mt_of (by decide) [some (.ref (ad 0)), none, none] rfl (Nat.le_of_ble_eq_true rfl) ?_
  intro E hg hbs hl hN C RT9 hcells hslots hname
  have I := X.1
  have hnF := I.1
  have hnP := I.2.1
  have lp : ∀ (k i : Nat) (acc : Int32), i + k = nP → acc = csS fl pa nu i → G E 0 0 ad dm a b r 4 [some (.ref (ad 0)), some (.int acc), some (.int (nI i))] [] := by
    intro k
    induction k with
    | zero =>
      intro i acc  hi hacc
      refine g_iload_2 (q := 5) C dX3_allClaims_4 rfl ?_
      refine g_aload_0 (q := 6) C dX3_allClaims_5 rfl ?_
      refine g_geti (q := 9) C f_X3_40 dX3_allClaims_6 rfl rfl (IX.d0 I _ (by decide)) ?_
      refine g_icmp_ge (tgt := 31) (q := 12) C dX3_allClaims_9 rfl (by decide) (fun c_9 => ?_) (fun c_9 => absurd (by rw [X.nP]; exact nI_le (by omega) (by omega)) c_9)
      refine g_iload_1 (q := 32) C dX3_allClaims_31 rfl ?_
      exact g_iret C RT9 dX3_allClaims_32 (pxi (by rw [hacc, show i = nP by omega]))
    | succ k ih =>
      intro i acc  hi hacc
      have hip : i < nP := by omega
      refine g_iload_2 (q := 5) C dX3_allClaims_4 rfl ?_
      refine g_aload_0 (q := 6) C dX3_allClaims_5 rfl ?_
      refine g_geti (q := 9) C f_X3_40 dX3_allClaims_6 rfl rfl (IX.d0 I _ (by decide)) ?_
      refine g_icmp_ge (tgt := 31) (q := 12) C dX3_allClaims_9 rfl (by decide) (fun c_9 => absurd c_9 (by rw [X.nP]; exact nI_ge (by omega) (by omega))) (fun c_9 => ?_)
      refine g_iload_1 (q := 13) C dX3_allClaims_12 rfl ?_
      refine g_aload_0 (q := 14) C dX3_allClaims_13 rfl ?_
      refine g_aload_0 (q := 15) C dX3_allClaims_14 rfl ?_
      refine g_getc (q := 18) (m := 2) C f_X3_17 dX3_allClaims_15 rfl rfl (IX.d0 I _ (by decide)) ?_
      refine g_iload_2 (q := 19) C dX3_allClaims_18 rfl ?_
      refine g_aaP (q := 20) C dX3_allClaims_19 rfl rfl (IX.d0 I _ (by decide)) rfl (by omega) (by decide) (XR.rp X (by assumption)) ?_
      refine g_cv1i (q := 23) C cv_X3_121 dX3_allClaims_20 rfl rfl (IX.d0 I _ (by decide)) (m_X3_claimOf X W (by assumption)) (by decide) (Nat.le_of_ble_eq_true rfl) ⟨Nat.zero_le _, Nat.zero_le _⟩ ?_
      refine g_iadd (q := 24) C dX3_allClaims_23 rfl ?_
      refine g_istore_1 (q := 25) C dX3_allClaims_24 rfl (by rw [hN]; decide) rfl ?_
      refine g_iinc_2 (v := nI (i + 1)) (q := 28) C dX3_allClaims_25 rfl (by rw [hN]; decide) (nI_1 i) ?_
      refine g_goto (tgt := 4) C dX3_allClaims_28 (by decide) ?_
      exact ih (i + 1) _  (by omega) (by first | rw [csS, hacc])
  refine g_iconst (v := 0) (q := 1) C dX3_allClaims_0 rfl (by decide) ?_
  refine g_istore_1 (q := 2) C dX3_allClaims_1 rfl (by rw [hN]; decide) rfl ?_
  refine g_iconst (v := 0) (q := 3) C dX3_allClaims_2 rfl (by decide) ?_
  refine g_istore_2 (q := 4) C dX3_allClaims_3 rfl (by rw [hN]; decide) rfl ?_
  exact lp nP 0 0 (by omega) rfl

end X16
