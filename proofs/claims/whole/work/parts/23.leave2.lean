section L23
variable {g : GM} {bs : Nat} {l : Launch} {ad : Nat → Nat} {dm : Nat → Bool} {a : Nat → Nat → Int32} {b : Nat → Nat → Int64} {r : Nat → Nat → Option Nat} {nF nP : Nat} {fl pa nu : Nat → Int32}
theorem m_nt_some (X : XR nF nP fl pa nu dm a r) {f q : Nat} (hf : f < nF) (h : nlS pa (nI f) nP = some q) : MT g bs l yX3_nextToLeave cX3_nextToLeave 5 (some (.object "TooMany$Party")) 1 0 0 [.ref (ad 0), .ref (ad (20 + f))] ad dm a b r (PX (some (.ref (ad (30 + q)))) ad dm a b r) := by
  have h1 := m_X3_nextToLeave (g := g) (bs := bs) (l := l) (ad := ad) (b := b) X hf
  rw [h] at h1
  exact h1
theorem gv_fly (W : WP nF nP pa) {q : Nat} {x y : Int32} (hq : q < nP) (h : pa (9 * q + 5) = 0) : paU pa q x y (pa (9 * q + 7)) (pa (9 * q + 8)) = gvP pa q x y := by
  obtain ⟨-, -, -, -, -, -, -, -, -, h0, -⟩ := W q hq
  rw [(h0 h).2.1, (h0 h).2.2, gv_paU]
theorem el_st {f : Int32} {p : Nat} (h : elS pa f p = true) : pa (9 * p + 5) = 0 := by
  simp [elS] at h
  exact h.1.2
set_option maxHeartbeats 4000000 in
set_option maxRecDepth 100000 in
theorem xl_loop {E : EN} (C : CX E cX3_leave yX3_leave.cls 4) (hN : eN E = 7) {P : PO} (RT9 : RT E 0 0 (some .int) P) (F : WF nF fl) {f : Nat} (hf : f < nF) {f1 ov : Int32} {ov0 : Nat} (hov : ov = nI ov0) (hov0 : ov0 ≤ 120) : ∀ (n turn : Nat) (a0 : Nat → Nat → Int32) (pk : Nat → Int32) (pe : Int32) (peN : Nat) (e6 : Option Value), turn + n = nP → XR nF nP fl pk nu dm a0 r → WP nF nP pk → (∀ m, 100 ≤ m → a0 m = a m) → pe = nI peN → peN ≤ 6 * turn → ovN fl pk nP f = ov0 - peN → ov0 - peN ≤ sN pk (elS pk (nI f)) nP → (∀ a', XR nF nP fl (lvN fl nP f n pk pe).1 nu dm a' r → (∀ m, 100 ≤ m → a' m = a m) → P (some (.int (lvN fl nP f n pk pe).2)) ad dm a' b r) → G E 0 0 ad dm a0 b r 36 [some (.ref (ad 0)), some (.int f1), some (.ref (ad (20 + f))), some (.int ov), some (.int pe), some (.int (nI turn)), e6] [] := by
  intro n
  induction n with
  | zero =>
    intro turn a0 pk pe peN e6 hi X Wk hfr hpe hpn hrel hoe hP
    have I := X.1
    have hnF := I.1
    have hnP := I.2.1
    refine g_iload_5 (q := 38) C dX3_leave_36 rfl ?_
    refine g_aload_0 (q := 39) C dX3_leave_38 rfl ?_
    refine g_geti (q := 42) C f_X3_40 dX3_leave_39 rfl rfl (IX.d0 I _ (by decide)) ?_
    refine g_icmp_ge (tgt := 89) (q := 45) C dX3_leave_42 rfl (by decide) (fun c_42 => ?_) (fun c_42 => absurd (by rw [X.nP]; exact nI_le (by omega) (by omega)) c_42)
    refine g_iload_4 (q := 91) C dX3_leave_89 rfl ?_
    exact g_iret C RT9 dX3_leave_91 (hP a0 X hfr)
  | succ n ih =>
    intro turn a0 pk pe peN e6 hi X Wk hfr hpe hpn hrel hoe hP
    have I := X.1
    have hnF := I.1
    have hnP := I.2.1
    refine g_iload_5 (q := 38) C dX3_leave_36 rfl ?_
    refine g_aload_0 (q := 39) C dX3_leave_38 rfl ?_
    refine g_geti (q := 42) C f_X3_40 dX3_leave_39 rfl rfl (IX.d0 I _ (by decide)) ?_
    refine g_icmp_ge (tgt := 89) (q := 45) C dX3_leave_42 rfl (by decide) (fun c_42 => absurd c_42 (by rw [X.nP]; exact nI_ge (by omega) (by omega))) (fun c_42 => ?_)
    refine g_iload_4 (q := 47) C dX3_leave_45 rfl ?_
    refine g_iload_3 (q := 48) C dX3_leave_47 rfl ?_
    refine g_icmp_ge (tgt := 89) (q := 51) C dX3_leave_48 rfl (by decide) (fun c_48 => ?_) (fun c_48 => ?_)
    · refine g_iload_4 (q := 91) C dX3_leave_89 rfl ?_
      exact g_iret C RT9 dX3_leave_91 (by rw [lvN_0 (by rw [ovS_N Wk F hnP hf, nI_0lt (by omega), hrel]; rw [hpe, hov, nI_leI (by omega) (by omega)] at c_48; omega)] at hP; exact hP a0 X hfr)
    · have hlt : peN < ov0 := by rw [hpe, hov, nI_leI (by omega) (by omega)] at c_48; omega
      have hov1 : 0 < ovS fl pk nP f := by rw [ovS_N Wk F hnP hf, nI_0lt (by omega), hrel]; omega
      obtain ⟨q, eq, hq, hel⟩ := lv_some Wk F hnP hf (by omega) hov1
      refine g_aload_0 (q := 52) C dX3_leave_51 rfl ?_
      refine g_aload_2 (q := 53) C dX3_leave_52 rfl ?_
      refine g_cv1i (q := 56) C cv_X3_172 dX3_leave_53 rfl rfl (IX.d0 I _ (by decide)) (m_nt_some X hf eq) (by decide) (Nat.le_of_ble_eq_true rfl) ⟨Nat.zero_le _, Nat.zero_le _⟩ ?_
      refine g_astore_6 (q := 58) C dX3_leave_56 rfl (by rw [hN]; decide) rfl ?_
      refine g_aload_6 (q := 60) C dX3_leave_58 rfl ?_
      refine g_ifnonnull (tgt := 66) C dX3_leave_60 (by decide) ?_
      refine g_aload_6 (q := 68) C dX3_leave_66 rfl ?_
      refine g_iconst (v := 2) (q := 69) C dX3_leave_68 rfl (by decide) ?_
      refine g_iconst (v := 0) (q := 70) C dX3_leave_69 rfl (by decide) ?_
      refine g_cv2v (q := 73) C cv_X3_154 dX3_leave_70 rfl (IX.lp I (by assumption)) (IX.dp I (by assumption)) (m_X2_giveUp I hq _ _) (by decide) (Nat.le_of_ble_eq_true rfl) ⟨Nat.zero_le _, Nat.zero_le _⟩ ?_
      refine g_iload_4 (q := 75) C dX3_leave_73 rfl ?_
      refine g_aload_6 (q := 77) C dX3_leave_75 rfl ?_
      refine g_geti (q := 80) C f_X3_102 dX3_leave_77 rfl (IX.lp I (by assumption)) (IX.dp I (by assumption)) ?_
      refine g_iadd (q := 81) C dX3_leave_80 rfl ?_
      rw [u2_k (by decide), u2_k (by decide), (X.2.2.2.2.2.2 q hq).2.2.1 1 (by decide) (by decide)]
      refine g_istore_4 (q := 83) C dX3_leave_81 rfl (by rw [hN]; decide) rfl ?_
      refine g_iinc_5 (v := nI (turn + 1)) (q := 86) C dX3_leave_83 rfl (by rw [hN]; decide) (nI_1 turn) ?_
      refine g_goto (tgt := 36) C dX3_leave_86 (by decide) ?_
      have hsz := sz_ok Wk hq
      have hst := el_rm (pa := pk) (nP := nP) (q := q) (f := f) (x := 2) (y := 0) hq (by decide) hel
      have hov2 := ov_rm (fl := fl) Wk (x := 2) (y := 0) hq (by omega) (by decide) (el_fc hel)
      have X2 := X.pua hq (x := 2) (y := 0)
      rw [gv_fly Wk hq (el_st hel)] at X2
      exact ih (turn + 1) _ (gvP pk q 2 0) _ (peN + cN (pk (9 * q + 1))) _ (by omega) X2 (gv_WP Wk hnF hq (Or.inr rfl) (k := 0) (by decide) rfl) (fun m hm => by rw [u2_dn (by omega) (by omega)]; exact hfr m hm) (by rw [hpe, ← nI_add, ← hsz.1]) (by omega) (by omega) (by omega) (fun a' h1 h2 => by rw [lvN_s hov1 eq] at hP; exact hP a' h1 h2)
set_option maxHeartbeats 4000000 in
set_option maxRecDepth 100000 in
theorem m_X3_leave (X : XR nF nP fl pa nu dm a r) (W : WP nF nP pa) (F : WF nF fl) (f1 : Int32) : MT g bs l yX3_leave cX3_leave 7 (some .int) 4 0 0 [.ref (ad 0), .int f1] ad dm a b r (fun v ad0 dm0 a0 b0 r0 => v = some (.int (lvV fl pa nF nP f1)) ∧ ad0 = ad ∧ dm0 = dm ∧ b0 = b ∧ r0 = r ∧ XR nF nP fl (lvP fl pa nF nP f1) nu dm a0 r ∧ ∀ m, 100 ≤ m → a0 m = a m) := by
  refine mt_of (by decide) [some (.ref (ad 0)), some (.int f1), none, none, none, none, none] rfl (Nat.le_of_ble_eq_true rfl) ?_
  intro E hg hbs hl hN C RT9 hcells hslots hname
  have I := X.1
  have hnF := I.1
  have hnP := I.2.1
  refine g_aload_0 (q := 1) C dX3_leave_0 rfl ?_
  refine g_iload_1 (q := 2) C dX3_leave_1 rfl ?_
  rcases hk : fok nF f1 with _ | _
  · refine g_cv1i (q := 5) C cv_X3_53 dX3_leave_2 rfl rfl (IX.d0 I _ (by decide)) (m_X3_flightAt_n X hk) (by decide) (Nat.le_of_ble_eq_true rfl) ⟨Nat.zero_le _, Nat.zero_le _⟩ ?_
    refine g_astore_2N (q := 6) C dX3_leave_5 rfl (by rw [hN]; decide) rfl ?_
    refine g_aload_2N (q := 7) C dX3_leave_6 rfl ?_
    refine g_ifnonnullN (q := 10) C dX3_leave_7 rfl ?_
    refine g_iconst (v := (-1)) (q := 11) C dX3_leave_10 rfl (by decide) ?_
    exact g_iret C RT9 dX3_leave_11 ⟨by rw [lvV, if_neg (by rw [hk]; decide)], rfl, rfl, rfl, rfl, by rw [lvP, if_neg (by simp [lvK, hk])]; exact X, fun _ _ => rfl⟩
  · obtain ⟨f, hf, rfl⟩ := fok_t hk (by omega)
    refine g_cv1i (q := 5) C cv_X3_53 dX3_leave_2 rfl rfl (IX.d0 I _ (by decide)) (m_X3_flightAt_y X hf) (by decide) (Nat.le_of_ble_eq_true rfl) ⟨Nat.zero_le _, Nat.zero_le _⟩ ?_
    refine g_astore_2 (q := 6) C dX3_leave_5 rfl (by rw [hN]; decide) rfl ?_
    refine g_aload_2 (q := 7) C dX3_leave_6 rfl ?_
    refine g_ifnonnull (tgt := 12) C dX3_leave_7 (by decide) ?_
    refine g_aload_0 (q := 13) C dX3_leave_12 rfl ?_
    refine g_aload_2 (q := 14) C dX3_leave_13 rfl ?_
    refine g_cv1i (q := 17) C cv_X3_72 dX3_leave_14 rfl rfl (IX.d0 I _ (by decide)) (m_X3_overOf X W F (by assumption)) (by decide) (Nat.le_of_ble_eq_true rfl) ⟨Nat.zero_le _, Nat.zero_le _⟩ ?_
    refine g_istore_3 (q := 18) C dX3_leave_17 rfl (by rw [hN]; decide) rfl ?_
    refine g_aload_0 (q := 19) C dX3_leave_18 rfl ?_
    refine g_aload_2 (q := 20) C dX3_leave_19 rfl ?_
    refine g_cv1i (q := 23) C cv_X3_169 dX3_leave_20 rfl rfl (IX.d0 I _ (by decide)) (m_X3_leavablePeople X (by assumption)) (by decide) (Nat.le_of_ble_eq_true rfl) ⟨Nat.zero_le _, Nat.zero_le _⟩ ?_
    refine g_iload_3 (q := 24) C dX3_leave_23 rfl ?_
    refine g_icmp_ge (tgt := 30) (q := 27) C dX3_leave_24 rfl (by decide) (fun c_24 => ?_) (fun c_24 => ?_)
    · refine g_iconst (v := 0) (q := 31) C dX3_leave_30 rfl (by decide) ?_
      refine g_istore_4 (q := 33) C dX3_leave_31 rfl (by rw [hN]; decide) rfl ?_
      refine g_iconst (v := 0) (q := 34) C dX3_leave_33 rfl (by decide) ?_
      refine g_istore_5 (q := 36) C dX3_leave_34 rfl (by rw [hN]; decide) rfl ?_
      have ho := ovN_le (fl := fl) W (f := f)
      have hs := sN_le W (elS pa (nI f)) (Nat.le_refl nP)
      have h2 : ¬ smS pa (elS pa (nI f)) nP < ovS fl pa nP f := Int32.not_lt.mpr c_24
      refine xl_loop C hN RT9 F hf (ovS_N W F hnP hf) (by omega) nP 0 a pa 0 0 none (by omega) X W (fun _ _ => rfl) rfl (by omega) (by omega) ?_ (fun a' h3 h4 => ⟨?_, rfl, rfl, rfl, rfl, ?_, h4⟩)
      · rw [smS_N W _ (Nat.le_refl _), ovS_N W F hnP hf, nI_ltI (by omega) (by omega)] at h2
        omega
      · rw [lvV, if_pos hk, cN_nI (by omega), if_neg h2]
      · rw [lvP, if_pos (by rw [lvK, hk, cN_nI (by omega)]; simpa using h2), cN_nI (by omega)]
        exact h3
    · refine g_bipush (v := (-2)) (q := 29) C dX3_leave_27 rfl (by decide) ?_
      exact g_iret C RT9 dX3_leave_29 ⟨by rw [lvV, if_pos hk, cN_nI (by omega), if_pos (Int32.not_le.mp c_24)], rfl, rfl, rfl, rfl, by rw [lvP, if_neg (by rw [lvK, cN_nI (by omega)]; simp [Int32.not_le.mp c_24])]; exact X, fun _ _ => rfl⟩

theorem gv_WP0 (W : WP nF nP pa) (hnF : nF ≤ 8) {q : Nat} (hq : q < nP) : WP nF nP (gvP pa q 0 0) := by
  intro p hp
  obtain ⟨h1, h2, h3, h4, h5, h6, h7, h8, h9, h10, h11, h12, h13⟩ := W p hp
  by_cases e : p = q
  · subst e
    obtain ⟨o, ho, eo⟩ := h1
    rw [gv_0, gv_lo (by decide), gv_lo (by decide), gv_lo (by decide), gv_lo (by decide), gv_paU, paU_5, paU_6, paU_7, paU_8]
    have hm : ¬ (-1 : Int32) = nI o := fun z => nI_m1 (by omega) z.symm
    exact ⟨⟨o, ho, eo⟩, h2, h3, h4, h5, Or.inl rfl, ⟨0, by omega, rfl⟩, Or.inl rfl, Or.inl rfl, fun _ => ⟨rfl, rfl, rfl⟩, fun _ => rfl, by rw [eo]; exact hm, by rw [eo]; exact hm⟩
  · rw [gv_0, gv_lo (by decide), gv_lo (by decide), gv_lo (by decide), gv_lo (by decide), gv_o (by decide) e, gv_o (by decide) e, gv_o (by decide) e, gv_o (by decide) e]
    exact ⟨h1, h2, h3, h4, h5, h6, h7, h8, h9, h10, h11, h12, h13⟩
theorem ldS_cong {pb : Nat → Int32} {f : Int32} : ∀ {n : Nat}, (∀ p, p < n → flyc pb f p = flyc pa f p ∧ pb (9 * p + 1) = pa (9 * p + 1)) → ldS pb f n = ldS pa f n
  | 0, _ => rfl
  | n + 1, h => by
    unfold ldS
    rw [(h n (by omega)).1, (h n (by omega)).2, ldS_cong (fun p hp => h p (by omega))]
theorem bk_eq (W : WP nF nP pa) (F : WF nF fl) (hnF : nF ≤ 8) (hnP : nP ≤ 20) (p1 : Int32) : bkM fl pa nP p1 = bkX fl pa nP p1 := by
  unfold bkM bkX
  rcases hk : fok nP p1 with _ | _
  · rfl
  · obtain ⟨j, hj, rfl⟩ := fok_t hk (by omega)
    obtain ⟨⟨o, ho, eo⟩, -, -, -, -, -, -, -, -, -, -, h12, h13⟩ := W j hj
    rw [cN_nI (by omega), eo, cN_nI (by omega)]
    by_cases h5 : pa (9 * j + 5) = 0
    · simp [h5]
    · have W0 := gv_WP0 W hnF hj
      have e1 : ovS fl (paU pa j 0 (pa (9 * j + 6)) (-1) (-1)) nP o = ovS fl (gvP pa j 0 0) nP o := by
        unfold ovS
        rw [ldS_cong (pa := gvP pa j 0 0) (pb := paU pa j 0 (pa (9 * j + 6)) (-1) (-1)) (fun p hp => ?_)]
        refine ⟨?_, by rw [gv_lo (by decide), paU_o (by omega)]⟩
        unfold flyc
        rw [gv_paU]
        by_cases e : p = j
        · subst e
          rw [paU_5, paU_5, paU_7, paU_7, paU_8, paU_8, paU_o (by omega), paU_o (by omega)]
        · rw [paU_o (by omega), paU_o (by omega), paU_o (by omega), paU_o (by omega), paU_o (by omega), paU_o (by omega), paU_o (by omega), paU_o (by omega)]
      have hq' : flyc pa (nI o) j = false := by
        unfold flyc
        rw [if_neg h5]
        rw [eo] at h12 h13
        simp [h12, h13]
      have hq : flyc (gvP pa j 0 0) (nI o) j = true := by
        unfold flyc
        rw [gv_paU, paU_5, if_pos rfl, paU_o (by omega), eo]
        simp
      have hs := sN_rm (pa := gvP pa j 0 0) (pb := pa) (c := flyc pa (nI o)) (d := flyc (gvP pa j 0 0) (nI o)) hq hq' (n := nP) hj (fun p _ hp => (gv_fc hp).symm) (fun p _ => (gv_lo (by decide)).symm)
      rw [gv_lo (by decide)] at hs
      have hz := sz_ok W hj
      have hl := sN_le W (flyc pa (nI o)) (Nat.le_refl nP)
      obtain ⟨s, s1, s2, es⟩ := (F o ho).2.2.2.2.1
      rw [e1, ovS_N W0 F hnP ho, ldS_N W, hz.1, nI_add, es]
      have h9 : (nI (ovN fl (gvP pa j 0 0) nP o) = 0) ↔ ovN fl (gvP pa j 0 0) nP o = 0 := by
        have := ovN_le (fl := fl) W0 (f := o)
        exact nI_eq (b := 0) (by omega) (by omega)
      have h10 : (nI (sN pa (flyc pa (nI o)) nP + cN (pa (9 * j + 1))) ≤ nI s) ↔ sN pa (flyc pa (nI o)) nP + cN (pa (9 * j + 1)) ≤ s := nI_leI (by omega) (by omega)
      have key : (ovN fl (gvP pa j 0 0) nP o = 0) ↔ (fl (7 * o + 6) = 0 ∧ sN pa (flyc pa (nI o)) nP + cN (pa (9 * j + 1)) ≤ s) := by
        unfold ovN
        rw [es, cN_nI (by omega), ← hs]
        rcases (F o ho).2.2.2.2.2.2 with h0 | h0
        · rw [if_neg (by rw [h0]; decide)]
          exact ⟨fun h => ⟨h0, by omega⟩, fun h => by omega⟩
        · rw [if_pos h0]
          have : ¬ fl (7 * o + 6) = 0 := by rw [h0]; decide
          simp only [this, false_and, iff_false]
          omega
      have k1 : decide (nI (ovN fl (gvP pa j 0 0) nP o) = 0) = (decide (fl (7 * o + 6) = 0) && decide (nI (sN pa (flyc pa (nI o)) nP + cN (pa (9 * j + 1))) ≤ nI s)) := by
        rw [← Bool.decide_and]
        exact decide_eq_decide.mpr (h9.trans (key.trans (and_congr Iff.rfl h10.symm)))
      rw [k1]
      simp [h5]
end L23
