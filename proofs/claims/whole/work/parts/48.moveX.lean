section X48
variable {g : GM} {bs : Nat} {l : Launch} {ad : Nat → Nat} {dm : Nat → Bool} {a : Nat → Nat → Int32} {b : Nat → Nat → Int64} {r : Nat → Nat → Option Nat} {nF nP : Nat} {fl pa nu : Nat → Int32}
variable {D : MD} {n : Nat} {q : Nat → Nat} {tw : Nat → Option Nat}
def frS (fl pa : Nat → Int32) (nP f : Nat) : Int := (cN (fl (7 * f + 4)) : Int) - (sN pa (flyc pa (nI f)) nP : Int)
theorem fr_cap : capI (frS fl pa nP) = capS fl pa nP := by
  funext f
  unfold capI frS capS
  omega
theorem BS.XM (W : WP nF nP pa) (X : XR nF nP fl pa nu dm a r) (h : BS (xD fl pa nu nF nP) (qK pa nP) tw (stN pa nP) a b r) : ∃ pl, XM (xD fl pa nu nF nP) (stN pa nP) nP (qK pa nP) pl a b r ∧ PLok (xD fl pa nu nF nP) (stN pa nP) pl := by
  have hnP := X.1.2.1
  obtain ⟨pl, hpl⟩ := Classical.axiomOfChoice (α := Nat) (β := fun _ => Nat → Nat) (r := fun i z => i < stN pa nP → XW (xD fl pa nu nF nP) i ((xD fl pa nu nF nP).2.1 i) z a b r) (fun i => by
    by_cases hi : i < stN pa nP
    · obtain ⟨-, -, -, -, z, hz⟩ := h.2 i hi
      exact ⟨z, fun _ => hz⟩
    · exact ⟨fun _ => 0, fun z => absurd z hi⟩)
  refine ⟨pl, ⟨h.1, fun i hi => ?_, fun i hi w hw => (hpl i hi).1 w hw⟩, fun i hi => (hpl i hi).2⟩
  obtain ⟨h1, h2, h3, h4, -⟩ := h.2 i hi
  have q1 := qK_ok W hnP hi
  obtain ⟨-, -, -, -, e1, -⟩ := X.pt q1.1
  exact ⟨h1, q1.1, by rw [← e1, xD_s W hnP hi]; exact (sz_ok W q1.1).1, h4⟩
def FV (fl pa : Nat → Int32) (nP i : Nat) (a a0 : Nat → Nat → Int32) : Prop := (∀ m, (m < 20 ∨ 28 ≤ m) → a0 m = a m) ∧ (∀ m j, j ≠ 8 → a0 m j = a m j) ∧ ∀ f, f < i → (a0 (20 + f) 8).toInt = frS fl pa nP f
theorem FV.XR {i : Nat} {a0 : Nat → Nat → Int32} (h : FV fl pa nP i a a0) (X : XR nF nP fl pa nu dm a r) : XR nF nP fl pa nu dm a0 r := X.fm (fun m hm => h.1 m (by omega)) (fun m m1 m2 j hj => h.2.1 m j (by omega)) (fun m hm => rfl)
set_option maxHeartbeats 4000000 in
set_option maxRecDepth 100000 in
theorem mx_free {E : EN} (C : CX E cX3_move yX3_move.cls 11) (hN : eN E = 2) (X0 : XR nF nP fl pa nu dm a r) (W : WP nF nP pa) (F : WF nF fl) (hk : ∀ a0 : Nat → Nat → Int32, FV fl pa nP nF a a0 → G E 0 0 ad dm a0 b r 56 [some (.ref (ad 0)), some (.int (nI nF))] []) : ∀ (s i : Nat) (a0 : Nat → Nat → Int32), i + s = nF → FV fl pa nP i a a0 → G E 0 0 ad dm a0 b r 13 [some (.ref (ad 0)), some (.int (nI i))] [] := by
  have I := X0.1
  have hnF := I.1
  have hnP := I.2.1
  intro s
  induction s with
  | zero =>
    intro i a0 his hI
    have X := hI.XR X0
    refine g_iload_1 (q := 14) C dX3_move_13 rfl ?_
    refine g_aload_0 (q := 15) C dX3_move_14 rfl ?_
    refine g_geti (q := 18) C f_X3_36 dX3_move_15 rfl rfl (IX.d0 I _ (by decide)) ?_
    refine g_icmp_ge (tgt := 56) (q := 21) C dX3_move_18 rfl (by decide) (fun c_18 => ?_) (fun c_18 => absurd (by rw [X.nF]; exact nI_le (by omega) (by omega)) c_18)
    have e9 : i = nF := by omega
    subst e9
    exact hk a0 hI
  | succ s ih =>
    intro i a0 his hI
    have X := hI.XR X0
    have hi : i < nF := by omega
    obtain ⟨se, s1, s2, es⟩ := (F i hi).2.2.2.2.1
    have hld := sN_le W (flyc pa (nI i)) (Nat.le_refl nP)
    refine g_iload_1 (q := 14) C dX3_move_13 rfl ?_
    refine g_aload_0 (q := 15) C dX3_move_14 rfl ?_
    refine g_geti (q := 18) C f_X3_36 dX3_move_15 rfl rfl (IX.d0 I _ (by decide)) ?_
    refine g_icmp_ge (tgt := 56) (q := 21) C dX3_move_18 rfl (by decide) (fun c_18 => absurd c_18 (by rw [X.nF]; exact nI_ge (by omega) (by omega))) (fun c_18 => ?_)
    refine g_aload_0 (q := 22) C dX3_move_21 rfl ?_
    refine g_getc (q := 25) (m := 1) C f_X3_11 dX3_move_22 rfl rfl (IX.d0 I _ (by decide)) ?_
    refine g_iload_1 (q := 26) C dX3_move_25 rfl ?_
    refine g_aaF (q := 27) C dX3_move_26 rfl rfl (IX.d0 I _ (by decide)) rfl (by omega) (by decide) (XR.rf X (by assumption)) ?_
    refine g_aload_0 (q := 28) C dX3_move_27 rfl ?_
    refine g_getc (q := 31) (m := 1) C f_X3_11 dX3_move_28 rfl rfl (IX.d0 I _ (by decide)) ?_
    refine g_iload_1 (q := 32) C dX3_move_31 rfl ?_
    refine g_aaF (q := 33) C dX3_move_32 rfl rfl (IX.d0 I _ (by decide)) rfl (by omega) (by decide) (XR.rf X (by assumption)) ?_
    refine g_geti (q := 36) C f_X3_75 dX3_move_33 rfl (IX.lf I (by assumption)) (IX.df I (by assumption)) ?_
    refine g_aload_0 (q := 37) C dX3_move_36 rfl ?_
    refine g_aload_0 (q := 38) C dX3_move_37 rfl ?_
    refine g_getc (q := 41) (m := 1) C f_X3_11 dX3_move_38 rfl rfl (IX.d0 I _ (by decide)) ?_
    refine g_iload_1 (q := 42) C dX3_move_41 rfl ?_
    refine g_aaF (q := 43) C dX3_move_42 rfl rfl (IX.d0 I _ (by decide)) rfl (by omega) (by decide) (XR.rf X (by assumption)) ?_
    refine g_cv1i (q := 46) C cv_X3_68 dX3_move_43 rfl rfl (IX.d0 I _ (by decide)) (m_X3_loadOf X W hi) (by omega) (Nat.le_of_ble_eq_true rfl) ⟨Nat.zero_le _, Nat.zero_le _⟩ ?_
    rw [ldS_N W, X.fk hi (show 4 < 7 by decide), es]
    refine g_isub (q := 47) C dX3_move_46 rfl ?_
    refine g_puti (q := 50) C p_X3_194 dX3_move_47 rfl (IX.lf I (by assumption)) (IX.df I (by assumption)) rfl rfl ?_
    refine g_iinc_1 (v := nI (i + 1)) (q := 53) C dX3_move_50 rfl (by rw [hN]; decide) (nI_1 i) ?_
    refine g_goto (tgt := 13) C dX3_move_53 (by decide) ?_
    refine ih (i + 1) _ (by omega) ⟨fun m hm => by rw [u2_n (by omega)]; exact hI.1 m hm, fun m j hj => by rw [u2_k hj]; exact hI.2.1 m j hj, fun f hf => ?_⟩
    by_cases e : f = i
    · subst e
      rw [u2_s, pk_sub_toInt (by omega) (by omega)]
      unfold frS
      rw [es, cN_nI (by omega)]
    · rw [u2_n (by omega)]
      exact hI.2.2 f (by omega)
set_option maxHeartbeats 4000000 in
set_option maxRecDepth 100000 in
theorem mx_add {E : EN} (C : CX E cX3_move yX3_move.cls 11) (hN : eN E = 2) (X : XR nF nP fl pa nu dm a r) (W : WP nF nP pa) (F : WF nF fl) (N : WN nu) (h6 : stN pa nP ≤ 6) (hk : ∀ (a0 : Nat → Nat → Int32) (b0 : Nat → Nat → Int64) (r0 : Nat → Nat → Option Nat), FS nF nP a b r a0 b0 r0 → BS (xD fl pa nu nF nP) (qK pa nP) (wK pa nP) (stN pa nP) a0 b0 r0 → G E 0 0 ad dm a0 b0 r0 82 [some (.ref (ad 0)), some (.int (nI 0))] []) : ∀ (s : Nat) (a0 : Nat → Nat → Int32) (b0 : Nat → Nat → Int64) (r0 : Nat → Nat → Option Nat), s ≤ 6 → FS nF nP a b r a0 b0 r0 → BS (xD fl pa nu nF nP) (qK pa nP) (wK pa nP) (ctS (cK pa nP) (20 * (6 - s))) a0 b0 r0 → G E 0 0 ad dm a0 b0 r0 66 [some (.ref (ad 0)), some (.int (nI s))] [] := by
  have I := X.1
  have hnF := I.1
  have hnP := I.2.1
  intro s
  induction s with
  | zero =>
    intro a0 b0 r0 hs6 hF hB
    refine g_iload_1 (q := 67) C dX3_move_66 rfl ?_
    refine g_iconst (v := 1) (q := 68) C dX3_move_67 rfl (by decide) ?_
    refine g_icmp_lt (tgt := 82) (q := 71) C dX3_move_68 rfl (by decide) (fun c_68 => ?_) (fun c_68 => absurd (by decide) c_68)
    rw [show 20 * (6 - 0) = 120 by decide, nK W hnP] at hB
    exact hk a0 b0 r0 hF hB
  | succ s ih =>
    intro a0 b0 r0 hs6 hF hB
    refine g_iload_1 (q := 67) C dX3_move_66 rfl ?_
    refine g_iconst (v := 1) (q := 68) C dX3_move_67 rfl (by decide) ?_
    refine g_icmp_lt (tgt := 82) (q := 71) C dX3_move_68 rfl (by decide) (fun c_68 => absurd c_68 (by rw [show (1 : Int32) = nI 1 from rfl, nI_ltI (by omega) (by decide)]; omega)) (fun c_68 => ?_)
    refine g_aload_0 (q := 72) C dX3_move_71 rfl ?_
    refine g_iload_1 (q := 73) C dX3_move_72 rfl ?_
    refine g_cv1g (q := 76) C cv_X3_200 dX3_move_73 rfl rfl (IX.d0 I _ (by decide)) (m_X3_addStranded (hF.XR X) W F N h6 (by omega) hs6 hB) (by omega) (Nat.le_of_ble_eq_true rfl) ⟨Nat.zero_le _, Nat.zero_le _⟩ (fun v ad' dm' a' b' r' hp => ?_)
    obtain ⟨rfl, q1, q2, hF2, hB2⟩ := hp
    have q1 := q1.symm
    have q2 := q2.symm
    subst q1 q2
    change G E 0 0 _ _ a' b' r' 76 _ []
    refine g_iinc_1 (v := nI s) (q := 79) C dX3_move_76 rfl (by rw [hN]; decide) (nI_dc s) ?_
    refine g_goto (tgt := 66) C dX3_move_79 (by decide) ?_
    rw [show 7 - (s + 1) = 6 - s by omega] at hB2
    exact ih a' b' r' (by omega) (hF.tr hF2) hB2
set_option maxHeartbeats 4000000 in
set_option maxRecDepth 100000 in
theorem m_X3_move (X : XR nF nP fl pa nu dm a r) (W : WP nF nP pa) (F : WF nF fl) (N : WN nu) : MT g bs l yX3_move cX3_move 2 (some .int) 11 0 0 [.ref (ad 0)] ad dm a b r (fun v ad0 dm0 a0 b0 r0 => v = some (.int (mvV fl pa nu nF nP)) ∧ ad0 = ad ∧ dm0 = dm ∧ XR nF nP fl (mvP fl pa nu nF nP) nu dm a0 r0 ∧ (RB nF nP r → RB nF nP r0) ∧ (∀ m, 100 ≤ m → a0 m = a m) ∧ ∀ m, 17 ≤ m → b0 m = b m) := by
  refine mt_of (by decide) [some (.ref (ad 0)), none] rfl (Nat.le_of_ble_eq_true rfl) ?_
  intro E hg hbs hl hN C RT9 hcells hslots hname
  have I := X.1
  have hnF := X.1.1
  have hnP := X.1.2.1
  have hct := ctS_le (stc pa) nP
  refine g_aload_0 (q := 1) C dX3_move_0 rfl ?_
  refine g_cv0i (q := 4) C cv_X3_191 dX3_move_1 rfl rfl (IX.d0 I _ (by decide)) (m_X3_stranded X W) (by omega) (Nat.le_of_ble_eq_true rfl) ⟨Nat.zero_le _, Nat.zero_le _⟩ ?_
  refine g_bipush (v := 6) (q := 6) C dX3_move_4 rfl (by decide) ?_
  refine g_icmp_le (tgt := 11) (q := 9) C dX3_move_6 rfl (by decide) (fun c_6 => ?_) (fun c_6 => ?_)
  · refine g_iconst (v := 0) (q := 12) C dX3_move_11 rfl (by decide) ?_
    refine g_istore_1 (q := 13) C dX3_move_12 rfl (by rw [hN]; decide) rfl ?_
    rw [show (6 : Int32) = nI 6 from rfl, nI_leI (by omega) (by decide)] at c_6
    have h6 : stN pa nP ≤ 6 := c_6
    refine mx_free C hN X W F (fun a1 hI => ?_) nF 0 a (by omega) ⟨fun _ _ => rfl, fun _ _ _ => rfl, fun f hf => absurd hf (Nat.not_lt_zero _)⟩
    have X1 : XR nF nP fl pa nu dm (u2 a1 5 12 (nI 0)) r := (hI.XR X).fm (fun m hm => u2_n (by omega)) (fun m m1 m2 j hj => by rw [u2_n (by omega)]) (fun _ _ => rfl)
    refine g_aload_0 (q := 57) C dX3_move_56 rfl ?_
    refine g_getc (q := 60) (m := 5) C f_X3_32 dX3_move_57 rfl rfl (IX.d0 I _ (by decide)) ?_
    refine g_cv0v (q := 63) C cv_X3_197 dX3_move_60 rfl rfl (IX.d0 I _ (by decide)) (m_X1_begin I) (by omega) (Nat.le_of_ble_eq_true rfl) ⟨Nat.zero_le _, Nat.zero_le _⟩ ?_
    refine g_bipush (v := 6) (q := 65) C dX3_move_63 rfl (by decide) ?_
    refine g_istore_1 (q := 66) C dX3_move_65 rfl (by rw [hN]; decide) rfl ?_
    refine mx_add (a := u2 a1 5 12 (nI 0)) (b := u2 b 5 11 (lN 0)) C hN X1 W F N h6 (fun a2 b2 r2 hF2 hB2 => ?_) 6 _ _ _ (Nat.le_refl _) FS.rf ⟨u2_s, fun i hi => absurd hi (Nat.not_lt_zero _)⟩
    have X2 := hF2.XR X1
    have hD := xD_ok (nu := nu) W F hnF hnP h6
    have hco := xD_co (nu := nu) W F hnF hnP
    obtain ⟨pl, M, hpl⟩ := hB2.XM W X2
    have hfr : ∀ f, f < nF → (a2 (20 + f) 8).toInt = frS fl pa nP f := fun f hf => by rw [hF2.1 (20 + f) (by omega), u2_n (by omega)]; exact hI.2.2 f hf
    have hT : ∀ j, j < stN pa nP → a2 8 j = twI (wK pa nP j) := fun j hj => (hB2.2 j hj).2.2.1
    have hb5 : b2 5 11 = lN 0 := by rw [hF2.2.1 5 (by decide), u2_s]
    have hy := mvY_ok (nu := nu) W F hnF h6
    have hzz : ∀ z, cn (xD fl pa nu nF nP) (stN pa nP) z → (∀ xs, Opt (xD fl pa nu nF nP) nF (capI (frS fl pa nP)) (stN pa nP) xs → sm (xD fl pa nu nF nP) z (stN pa nP) = sm (xD fl pa nu nF nP) xs (stN pa nP)) → ∀ j, j < stN pa nP → z j = mvY fl pa nu nF nP (tK pa nP j) := fun z z1 z2 => by
      rw [fr_cap] at z2
      exact Opt_q (mD_ok (nu := nu) W F hnF h6) mD_i (tK_inj W hnP) hy z1 (z2 _ (Opt_p mD_i (tK_inj W hnP) hy))
    refine g_aload_0 (q := 83) C dX3_move_82 rfl ?_
    refine g_getc (q := 86) (m := 5) C f_X3_32 dX3_move_83 rfl rfl (IX.d0 I _ (by decide)) ?_
    refine g_cv0g (q := 89) C cv_X3_204 dX3_move_86 rfl rfl (IX.d0 I _ (by decide)) (m_X1_findBest (fr := frS fl pa nP) (tw := wK pa nP) I hD hco hpl (wK_ok W hnP) M hfr hT hb5) (by omega) (Nat.le_of_ble_eq_true rfl) ⟨Nat.zero_le _, Nat.zero_le _⟩ (fun v ad' dm' a' b' r' hp => ?_)
    obtain ⟨rfl, q1, q2, q5, g1, g2, z, z1, z2, z3⟩ := hp
    have q1 := q1.symm
    have q2 := q2.symm
    have q5 := q5.symm
    subst q1 q2 q5
    change G E 0 0 _ _ a' b' _ 89 _ []
    have hzy := hzz z z1 z2
    refine g_aload_0 (q := 90) C dX3_move_89 rfl ?_
    refine g_getc (q := 93) (m := 5) C f_X3_32 dX3_move_90 rfl rfl (IX.d0 I _ (by decide)) ?_
    refine g_cv0g (q := 96) C cv_X3_207 dX3_move_93 rfl rfl (IX.d0 I _ (by decide)) (m_X1_giveWays (y := mvY fl pa nu nF nP) (X2.fm (fun m hm => g1 m (by omega) (by omega) (by omega)) (fun m m1 m2 j hj => by rw [g1 m (by omega) (by omega) (by omega)]) (fun _ _ => rfl)) W hD hco (M.frx (fun m hm => g1 m (by omega) (by omega) (by omega)) (g2 16 (by decide))) hzy z3) (by omega) (Nat.le_of_ble_eq_true rfl) ⟨Nat.zero_le _, Nat.zero_le _⟩ (fun v ad' dm' a' b' r' hp => ?_)
    obtain ⟨rfl, q1, q2, rfl, rfl, X3, hR3⟩ := hp
    have q1 := q1.symm
    have q2 := q2.symm
    subst q1 q2
    change G E 0 0 _ _ a' b' r' 96 _ [.int (nI (sT (fun j => pW (xD fl pa nu nF nP) j (z j)) (stN pa nP)))]
    exact g_iret C RT9 dX3_move_96 (by
have ev : sT (fun j => pW (xD fl pa nu nF nP) j (z j)) (stN pa nP) = spp (mD fl pa nu nF nP) (mvY fl pa nu nF nP) (stN pa nP) := by
  rw [sT_cong (F := fun j => pW (xD fl pa nu nF nP) j (z j)) (H := fun j => (fun k => pW (mD fl pa nu nF nP) k (mvY fl pa nu nF nP k)) (tK pa nP j)) (fun j hj => by show pW (xD fl pa nu nF nP) j (z j) = _; rw [hzy j hj]; rfl)]
  exact perm (tK_inj W hnP) (F := fun k => pW (mD fl pa nu nF nP) k (mvY fl pa nu nF nP k))
refine ⟨?_, rfl, rfl, ?_, fun hRB => hR3 (hF2.2.2.2 hRB), fun m hm => ?_, fun m hm => ?_⟩
· unfold mvV
  rw [if_neg (by omega), ev]
· unfold mvP
  rw [if_neg (by omega)]
  exact X3
· rw [g1 m (by omega) (by omega) (by omega), hF2.1 m (by omega), u2_n (by omega), hI.1 m (by omega)]
· rw [g2 m (by omega), hF2.2.1 m (by omega), u2_n (by omega)])
  · refine g_iconst (v := (-1)) (q := 10) C dX3_move_9 rfl (by decide) ?_
    exact g_iret C RT9 dX3_move_10 (by
  rw [show (6 : Int32) = nI 6 from rfl, nI_leI (by omega) (by decide)] at c_6
  have h6 : 6 < stN pa nP := by unfold stN; omega
  refine ⟨?_, rfl, rfl, ?_, fun h => h, fun _ _ => rfl, fun _ _ => rfl⟩
  · unfold mvV
    rw [if_pos h6]
  · unfold mvP
    rw [if_pos h6]
    exact X)

end X48
