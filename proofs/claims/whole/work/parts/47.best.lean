section X47
variable {g : GM} {bs : Nat} {l : Launch} {ad : Nat → Nat} {dm : Nat → Bool} {a : Nat → Nat → Int32} {b : Nat → Nat → Int64} {r : Nat → Nat → Option Nat} {nF nP : Nat} {fl pa nu : Nat → Int32}
variable {D : MD} {n : Nat} {q : Nat → Nat} {pl : Nat → Nat → Nat} {tw : Nat → Option Nat} {fr : Nat → Int}
theorem u_15 (hD : Dok D n) {f m : Nat} (hm : m ≤ n) : us D f (fun _ => 15) m = 0 := by
  have h1 := sT_bd (F := fun k => uW D f k 15) (c := 0) (n := m) (fun k hk => by rw [uW_15 hD (by omega)]; exact Nat.le_refl _)
  have h2 : us D f (fun _ => 15) m ≤ m * 0 := h1
  omega
theorem s_15 (hD : Dok D n) {m : Nat} (hm : m ≤ n) : sm D (fun _ => 15) m = 0 := by
  have h1 := sT_bd (F := fun k => mW D k 15) (c := 0) (n := m) (fun k hk => by rw [mW_0 (by have := (hD.2 k (by omega)).2.2.1; omega)]; exact Nat.le_refl _)
  have h2 : sm D (fun _ => 15) m ≤ m * 0 := h1
  omega
theorem XM.frx {a' : Nat → Nat → Int32} {b' : Nat → Nat → Int64} (M : XM D n nP q pl a b r) (h : ∀ m, (m = 5 ∨ m = 9 ∨ m = 15 ∨ 29 ≤ m) → a' m = a m) (hb : b' 16 = b 16) : XM D n nP q pl a' b' r := by
  refine ⟨by rw [h 5 (by decide)]; exact M.1, fun i hi => ?_, fun i hi w hw => ?_⟩
  · rw [h 9 (by decide), h (30 + q i) (by omega)]
    exact M.2.1 i hi
  · rw [h 15 (by decide), hb]
    exact M.2.2 i hi w hw
def FB (i n : Nat) (D : MD) (a a0 : Nat → Nat → Int32) : Prop := (∀ m, m ≠ 11 → m ≠ 12 → a0 m = a m) ∧ a0 12 i = nI (sT D.1 n - sT D.1 i) ∧ ∀ j, i ≤ j → j < n → a0 12 j = nI (sT D.1 n - sT D.1 j) ∧ a0 11 j = nI (D.2.1 j)
set_option maxHeartbeats 4000000 in
set_option maxRecDepth 100000 in
theorem m_X1_findBest (I : IX dm nF nP) (hD : Dok D n) (hco : CO D n nF) (hpl : PLok D n pl) (htw : TWok D n tw) (M : XM D n nP q pl a b r) (hfr : ∀ f, f < nF → (a (20 + f) 8).toInt = fr f) (hT : ∀ j, j < n → a 8 j = twI (tw j)) (hb5 : b 5 11 = lN 0) : MT g bs l yX1_findBest cX1_findBest 2 none 10 0 0 [.ref (ad 5)] ad dm a b r (fun v ad0 dm0 a0 b0 r0 => v = none ∧ ad0 = ad ∧ dm0 = dm ∧ r0 = r ∧ (∀ m, m ≠ 10 → m ≠ 11 → m ≠ 12 → a0 m = a m) ∧ (∀ m, m ≠ 5 → b0 m = b m) ∧ ∃ z, cn D n z ∧ (∀ xs, Opt D nF (capI fr) n xs → sm D z n = sm D xs n) ∧ ∀ j, j < n → ENC D pl (a0 11 j) j (z j)) := by
  refine mt_of (by decide) [some (.ref (ad 5)), none] rfl (Nat.le_of_ble_eq_true rfl) ?_
  intro E hg hbs hl hN C RT9 hcells hslots hname
  have hn6 := hD.1
  have lp : ∀ (i : Nat) (a0 : Nat → Nat → Int32), i ≤ n → FB i n D a a0 → G E 0 0 ad dm a0 b r 17 [some (.ref (ad 5)), some (.int (nI i - 1))] [] := by
    intro i
    induction i with
    | zero =>
      intro a0 hin hI
      have S9 : CHS D n nF nP fr q pl tw (fun _ => 15) 0 a0 b r := ⟨M.frx (fun m hm => hI.1 m (by omega) (by omega)) rfl, fun f hf => by rw [hI.1 (20 + f) (by omega) (by omega), u_15 hD (Nat.zero_le _)]; exact (hfr f hf).trans (by omega), fun j hj => (hI.2.2 j (by omega) hj).1, fun j hj => by rw [hI.1 8 (by decide) (by decide)]; exact hT j hj, fun j hj => absurd hj (Nat.not_lt_zero _)⟩
      have B9 : XBs D n nF fr pl a0 b 0 := ⟨hb5, fun _ => 15, fun _ _ => Or.inr rfl, fun f hf => by rw [u_15 hD (Nat.le_refl _)]; exact Nat.zero_le _, s_15 hD (Nat.le_refl _), fun j hj => Or.inr ⟨rfl, (hI.2.2 j (by omega) hj).2⟩⟩
      refine g_iload_1 (q := 18) C dX1_findBest_17 rfl ?_
      refine g_if_lt (tgt := 63) (q := 21) C dX1_findBest_18 rfl (by decide) (fun c_18 => ?_) (fun c_18 => absurd (by decide) c_18)
      refine g_aload_0 (q := 64) C dX1_findBest_63 rfl ?_
      refine g_iconst (v := 0) (q := 65) C dX1_findBest_64 rfl (by decide) ?_
      refine g_lconst (v := 0) (q := 66) C dX1_findBest_65 rfl rfl ?_
      refine g_cv2g (q := 69) C cv_X1_79 dX1_findBest_66 rfl rfl (IX.d0 I _ (by decide)) (m_X1_choose (fr := fr) I hD hco hpl htw n 0 a0 b (fun _ => 15) 0 (by omega) S9 (fun k hk => absurd hk (Nat.not_lt_zero _)) (fun f hf => Nat.zero_le _) B9) (by omega) (Nat.le_of_ble_eq_true rfl) ⟨Nat.zero_le _, Nat.zero_le _⟩ (fun v ad' dm' a' b' r' hp => ?_)
      obtain ⟨rfl, q1, q2, q5, hf2, sc2, h1, h2, h3⟩ := hp
      have q1 := q1.symm
      have q2 := q2.symm
      have q5 := q5.symm
      subst q1 q2 q5
      change G E 0 0 _ _ a' b' _ 69 _ []
      exact g_vret C RT9 dX1_findBest_69 (by
  obtain ⟨y1, z, z1, z2, z3, z4⟩ := h2
  refine ⟨rfl, rfl, rfl, rfl, fun m m1 m2 m3 => (hf2.1 m m1 m2).trans (hI.1 m m2 m3), hf2.2.2, z, z1, fun xs hx => ?_, z4⟩
  have h4 := h3 xs hx (fun j hj => absurd hj (Nat.not_lt_zero _))
  have h5 := hx.2.2 z z1 z2
  omega)
    | succ i ih =>
      intro a0 hin hI
      obtain ⟨n1, n2, n3, n4⟩ := M.2.1 i (by omega)
      have e9 : sT D.1 n - sT D.1 (i + 1) + D.1 i = sT D.1 n - sT D.1 i := by
        have h1 := sT_mono (F := D.1) (k := i + 1) (n := n) (by omega)
        have h2 : sT D.1 (i + 1) = sT D.1 i + D.1 i := rfl
        omega
      rw [nI_sc]
      refine g_iload_1 (q := 18) C dX1_findBest_17 rfl ?_
      refine g_if_lt (tgt := 63) (q := 21) C dX1_findBest_18 rfl (by decide) (fun c_18 => absurd c_18 (nI_n0 (by omega))) (fun c_18 => ?_)
      refine g_aload_0 (q := 22) C dX1_findBest_21 rfl ?_
      refine g_getc (q := 25) (m := 12) C f_X1_33 dX1_findBest_22 rfl rfl (IX.d0 I _ (by decide)) ?_
      refine g_iload_1 (q := 26) C dX1_findBest_25 rfl ?_
      refine g_aload_0 (q := 27) C dX1_findBest_26 rfl ?_
      refine g_getc (q := 30) (m := 12) C f_X1_33 dX1_findBest_27 rfl rfl (IX.d0 I _ (by decide)) ?_
      refine g_iload_1 (q := 31) C dX1_findBest_30 rfl ?_
      refine g_iconst (v := 1) (q := 32) C dX1_findBest_31 rfl (by decide) ?_
      refine g_iadd (q := 33) C dX1_findBest_32 rfl ?_
      rw [nI_1]
      refine g_ia (q := 34) C dX1_findBest_33 rfl rfl (IX.d0 I _ (by decide)) rfl (by omega) (by decide) ?_
      refine g_aload_0 (q := 35) C dX1_findBest_34 rfl ?_
      refine g_getc (q := 38) (m := 6) C f_X1_11 dX1_findBest_35 rfl rfl (IX.d0 I _ (by decide)) ?_
      refine g_iload_1 (q := 39) C dX1_findBest_38 rfl ?_
      refine g_aaP (q := 40) C dX1_findBest_39 rfl rfl (IX.d0 I _ (by decide)) rfl (by omega) (by decide) n1 ?_
      refine g_geti (q := 43) C f_X1_76 dX1_findBest_40 rfl (IX.lp I (by assumption)) (IX.dp I (by assumption)) ?_
      rw [hI.1 (30 + q i) (by omega) (by omega), n3, hI.2.1]
      refine g_iadd (q := 44) C dX1_findBest_43 rfl ?_
      rw [nI_add]
      refine g_iast (q := 45) C dX1_findBest_44 rfl rfl (IX.d0 I _ (by decide)) rfl (by omega) (by decide) ?_
      refine g_aload_0 (q := 46) C dX1_findBest_45 rfl ?_
      refine g_getc (q := 49) (m := 11) C f_X1_30 dX1_findBest_46 rfl rfl (IX.d0 I _ (by decide)) ?_
      refine g_iload_1 (q := 50) C dX1_findBest_49 rfl ?_
      refine g_aload_0 (q := 51) C dX1_findBest_50 rfl ?_
      refine g_getc (q := 54) (m := 9) C f_X1_24 dX1_findBest_51 rfl rfl (IX.d0 I _ (by decide)) ?_
      refine g_iload_1 (q := 55) C dX1_findBest_54 rfl ?_
      refine g_ia (q := 56) C dX1_findBest_55 rfl rfl (IX.d0 I _ (by decide)) rfl (by omega) (by decide) ?_
      rw [u2_n (show (9 : Nat) ≠ 12 by decide), hI.1 9 (by decide) (by decide), n4]
      refine g_iast (q := 57) C dX1_findBest_56 rfl rfl (IX.d0 I _ (by decide)) rfl (by omega) (by decide) ?_
      refine g_iinc_1 (v := (nI i - 1)) (q := 60) C dX1_findBest_57 rfl (by rw [hN]; decide) (nI_dn i) ?_
      refine g_goto (tgt := 17) C dX1_findBest_60 (by decide) ?_
      refine ih _ (by omega) ⟨fun m m1 m2 => by rw [u2_n m1, u2_n m2]; exact hI.1 m m1 m2, ?_, fun j j1 j2 => ?_⟩
      · rw [u2_n (show (12 : Nat) ≠ 11 by decide), u2_s, e9]
      · by_cases e : j = i
        · subst e
          rw [u2_n (show (12 : Nat) ≠ 11 by decide), u2_s, u2_s, e9]
          exact ⟨rfl, rfl⟩
        · rw [u2_n (show (12 : Nat) ≠ 11 by decide), u2_k e, u2_k e, u2_n (show (11 : Nat) ≠ 12 by decide)]
          exact hI.2.2 j (by omega) j2
  refine g_aload_0 (q := 1) C dX1_findBest_0 rfl ?_
  refine g_getc (q := 4) (m := 12) C f_X1_33 dX1_findBest_1 rfl rfl (IX.d0 I _ (by decide)) ?_
  refine g_aload_0 (q := 5) C dX1_findBest_4 rfl ?_
  refine g_geti (q := 8) C f_X1_56 dX1_findBest_5 rfl rfl (IX.d0 I _ (by decide)) ?_
  refine g_iconst (v := 0) (q := 9) C dX1_findBest_8 rfl (by decide) ?_
  refine g_iast (q := 10) C dX1_findBest_9 rfl rfl (IX.d0 I _ (by decide)) M.1 (by omega) (by decide) ?_
  refine g_aload_0 (q := 11) C dX1_findBest_10 rfl ?_
  refine g_geti (q := 14) C f_X1_56 dX1_findBest_11 rfl rfl (IX.d0 I _ (by decide)) ?_
  rw [u2_n (show (5 : Nat) ≠ 12 by decide), M.1]
  refine g_iconst (v := 1) (q := 15) C dX1_findBest_14 rfl (by decide) ?_
  refine g_isub (q := 16) C dX1_findBest_15 rfl ?_
  refine g_istore_1 (q := 17) C dX1_findBest_16 rfl (by rw [hN]; decide) rfl ?_
  exact lp n _ (Nat.le_refl _) ⟨fun m m1 m2 => u2_n m2, by rw [u2_s, Nat.sub_self]; rfl, fun j j1 j2 => by omega⟩

set_option maxHeartbeats 4000000 in
set_option maxRecDepth 100000 in
theorem m_X1_giveWays (X : XR nF nP fl pa nu dm a r) (W : WP nF nP pa) (hD : Dok (xD fl pa nu nF nP) (stN pa nP)) (hco : CO (xD fl pa nu nF nP) (stN pa nP) nF) (M : XM (xD fl pa nu nF nP) (stN pa nP) nP (qK pa nP) pl a b r) {y z : Nat → Nat} (hz : ∀ j, j < stN pa nP → z j = y (tK pa nP j)) (hE : ∀ j, j < stN pa nP → ENC (xD fl pa nu nF nP) pl (a 11 j) j (z j)) : MT g bs l yX1_giveWays cX1_giveWays 4 (some .int) 1 0 0 [.ref (ad 5)] ad dm a b r (fun v ad0 dm0 a0 b0 r0 => v = some (.int (nI (sT (fun j => pW (xD fl pa nu nF nP) j (z j)) (stN pa nP)))) ∧ ad0 = ad ∧ dm0 = dm ∧ a0 = a ∧ b0 = b ∧ XR nF nP fl (mvF (mD fl pa nu nF nP) pa nP y (fun _ => true)) nu dm a r0 ∧ (RB nF nP r → RB nF nP r0)) := by
  refine mt_of (by decide) [some (.ref (ad 5)), none, none, none] rfl (Nat.le_of_ble_eq_true rfl) ?_
  intro E hg hbs hl hN C RT9 hcells hslots hname
  have I := X.1
  have hnF := X.1.1
  have hnP := X.1.2.1
  have hn6 := hD.1
  have lp : ∀ (k i : Nat) (r0 : Nat → Nat → Option Nat) (e3 : Option Value), i + k = stN pa nP → XR nF nP fl (mvF (mD fl pa nu nF nP) pa nP y (inP (tK pa nP) (i))) nu dm a r0 → (∀ m, m < 30 → r0 m = r m) → (RB nF nP r → RB nF nP r0) → G E 0 0 ad dm a b r0 4 [some (.ref (ad 5)), some (.int (nI (sT (fun j => pW (xD fl pa nu nF nP) j (z j)) i))), some (.int (nI i)), e3] [] := by
    intro k
    induction k with
    | zero =>
      intro i r0 e3 hin X hr hR
      refine g_iload_2 (q := 5) C dX1_giveWays_4 rfl ?_
      refine g_aload_0 (q := 6) C dX1_giveWays_5 rfl ?_
      refine g_geti (q := 9) C f_X1_56 dX1_giveWays_6 rfl rfl (IX.d0 I _ (by decide)) ?_
      refine g_icmp_ge (tgt := 78) (q := 12) C dX1_giveWays_9 rfl (by decide) (fun c_9 => ?_) (fun c_9 => absurd (by rw [M.1]; exact nI_le (by omega) (by omega)) c_9)
      refine g_iload_1 (q := 79) C dX1_giveWays_78 rfl ?_
      exact g_iret C RT9 dX1_giveWays_79 (by
  rw [show i = stN pa nP by omega] at X ⊢
  have e9 : (mvF (mD fl pa nu nF nP) pa nP y (inP (tK pa nP) (stN pa nP))) = mvF (mD fl pa nu nF nP) pa nP y (fun _ => true) := mvF_cong (fun k hk => inP_all (tK_inj W hnP) k hk) (fun _ _ => rfl)
  rw [e9] at X
  exact ⟨rfl, rfl, rfl, rfl, rfl, X, hR⟩)
    | succ k ih =>
      intro i r0 e3 hin X hr hR
      have hin2 : i < stN pa nP := by omega
      obtain ⟨n1, n2, n3, n4⟩ := M.2.1 i hin2
      obtain ⟨d1, d2, d3, d4, d5⟩ := hD.2 i hin2
      have hzy := hz i hin2
      have hdd : ∀ j, j ≠ tK pa nP i → inP (tK pa nP) i j = inP (tK pa nP) (i + 1) j := fun j hj => by
        rw [show inP (tK pa nP) (i + 1) j = (inP (tK pa nP) i j || decide (tK pa nP i = j)) from rfl, decide_eq_false (Ne.symm hj), Bool.or_false]
      refine g_iload_2 (q := 5) C dX1_giveWays_4 rfl ?_
      refine g_aload_0 (q := 6) C dX1_giveWays_5 rfl ?_
      refine g_geti (q := 9) C f_X1_56 dX1_giveWays_6 rfl rfl (IX.d0 I _ (by decide)) ?_
      refine g_icmp_ge (tgt := 78) (q := 12) C dX1_giveWays_9 rfl (by decide) (fun c_9 => absurd c_9 (by rw [M.1]; exact nI_ge (by omega) (by omega))) (fun c_9 => ?_)
      refine g_aload_0 (q := 13) C dX1_giveWays_12 rfl ?_
      refine g_getc (q := 16) (m := 11) C f_X1_30 dX1_giveWays_13 rfl rfl (IX.d0 I _ (by decide)) ?_
      refine g_iload_2 (q := 17) C dX1_giveWays_16 rfl ?_
      refine g_ia (q := 18) C dX1_giveWays_17 rfl rfl (IX.d0 I _ (by decide)) rfl (by omega) (by decide) ?_
      refine g_aload_0 (q := 19) C dX1_giveWays_18 rfl ?_
      refine g_getc (q := 22) (m := 9) C f_X1_24 dX1_giveWays_19 rfl rfl (IX.d0 I _ (by decide)) ?_
      refine g_iload_2 (q := 23) C dX1_giveWays_22 rfl ?_
      refine g_ia (q := 24) C dX1_giveWays_23 rfl rfl (IX.d0 I _ (by decide)) rfl (by omega) (by decide) ?_
      refine g_icmp_ge (tgt := 72) (q := 27) C dX1_giveWays_24 rfl (by decide) (fun c_24 => ?_) (fun c_24 => ?_)
      · refine g_iinc_2 (v := nI (i + 1)) (q := 75) C dX1_giveWays_72 rfl (by rw [hN]; decide) (nI_1 i) ?_
        refine g_goto (tgt := 4) C dX1_giveWays_75 (by decide) ?_
        have hzw : ¬ z i < (xD fl pa nu nF nP).2.1 i := by
          rcases hE i hin2 with ⟨e0, w, e1, e2, e4⟩ | ⟨e0, e2⟩
          · rw [n4, e2, nI_leI (by omega) (by omega)] at c_24
            omega
          · omega
        have e9 : sT (fun j => pW (xD fl pa nu nF nP) j (z j)) (i + 1) = sT (fun j => pW (xD fl pa nu nF nP) j (z j)) i := by
          show sT (fun j => pW (xD fl pa nu nF nP) j (z j)) i + pW (xD fl pa nu nF nP) i (z i) = _
          rw [pW, if_neg hzw, Nat.add_zero]
        rw [← e9]
        refine ih (i + 1) r0 _ (by omega) ?_ hr hR
        rw [mvF_n (k := tK pa nP i) hdd (by rw [← hzy]; exact hzw)]
        exact X
      · obtain ⟨w, hw, ew, w2, hzw⟩ : ∃ w, w < (xD fl pa nu nF nP).2.1 i ∧ a 11 i = nI w ∧ pl i w = z i ∧ z i < (xD fl pa nu nF nP).2.1 i := by
          rcases hE i hin2 with ⟨e0, w, e1, e2, e4⟩ | ⟨e0, e2⟩
          · exact ⟨w, e1, e2, e4, e0⟩
          · rw [n4, e2] at c_24
            exact absurd (Int32.le_refl _) c_24
        obtain ⟨m1, m2, m3, m4, m5, m6⟩ := M.2.2 i hin2 w hw
        obtain ⟨c1, c2, c3⟩ := hco i hin2 _ hzw
        have c1y : (mD fl pa nu nF nP).2.2.1 (tK pa nP i) (y (tK pa nP i)) / 9 < nF := by rw [← hzy]; exact c1
        have e9 : sT (fun j => pW (xD fl pa nu nF nP) j (z j)) (i + 1) = sT (fun j => pW (xD fl pa nu nF nP) j (z j)) i + (xD fl pa nu nF nP).1 i := by
          show sT (fun j => pW (xD fl pa nu nF nP) j (z j)) i + pW (xD fl pa nu nF nP) i (z i) = _
          rw [pW, if_pos hzw]
        refine g_iload_2 (q := 28) C dX1_giveWays_27 rfl ?_
        refine g_bipush (v := 12) (q := 30) C dX1_giveWays_28 rfl (by decide) ?_
        refine g_imul (q := 31) C dX1_giveWays_30 rfl ?_
        refine g_aload_0 (q := 32) C dX1_giveWays_31 rfl ?_
        refine g_getc (q := 35) (m := 11) C f_X1_30 dX1_giveWays_32 rfl rfl (IX.d0 I _ (by decide)) ?_
        refine g_iload_2 (q := 36) C dX1_giveWays_35 rfl ?_
        refine g_ia (q := 37) C dX1_giveWays_36 rfl rfl (IX.d0 I _ (by decide)) rfl (by omega) (by decide) ?_
        rw [ew]
        refine g_iadd (q := 38) C dX1_giveWays_37 rfl ?_
        rw [ix12]
        refine g_istore_3 (q := 39) C dX1_giveWays_38 rfl (by rw [hN]; decide) rfl ?_
        refine g_aload_0 (q := 40) C dX1_giveWays_39 rfl ?_
        refine g_getc (q := 43) (m := 6) C f_X1_11 dX1_giveWays_40 rfl rfl (IX.d0 I _ (by decide)) ?_
        refine g_iload_2 (q := 44) C dX1_giveWays_43 rfl ?_
        refine g_aaP (q := 45) C dX1_giveWays_44 rfl rfl (IX.d0 I _ (by decide)) rfl (by omega) (by decide) (by rw [hr 6 (by decide)]; exact n1) ?_
        refine g_aload_0 (q := 46) C dX1_giveWays_45 rfl ?_
        refine g_getc (q := 49) (m := 13) C f_X1_38 dX1_giveWays_46 rfl rfl (IX.d0 I _ (by decide)) ?_
        refine g_iload_3 (q := 50) C dX1_giveWays_49 rfl ?_
        refine g_aaF (q := 51) C dX1_giveWays_50 rfl rfl (IX.d0 I _ (by decide)) rfl (by omega) (by decide) (by rw [hr 13 (by decide), m4, w2]) ?_
        refine g_aload_0 (q := 52) C dX1_giveWays_51 rfl ?_
        refine g_getc (q := 55) (m := 14) C f_X1_42 dX1_giveWays_52 rfl rfl (IX.d0 I _ (by decide)) ?_
        refine g_iload_3 (q := 56) C dX1_giveWays_55 rfl ?_
        rcases hb9 : (xD fl pa nu nF nP).2.2.1 i (z i) % 9 with _ | fb
        · refine g_aaFN (q := 57) C dX1_giveWays_56 rfl rfl (IX.d0 I _ (by decide)) rfl (by omega) (by decide) (by rw [hr 14 (by decide)]; exact m5 (by rw [w2]; exact hb9)) ?_
          refine g_cv2v (q := 60) C cv_X1_83 dX1_giveWays_57 rfl (IX.lp I (by assumption)) (IX.dp I (by assumption)) (m_X2_takeWay_rn I n2 _) (by decide) (Nat.le_of_ble_eq_true rfl) ⟨Nat.zero_le _, Nat.zero_le _⟩ ?_
          refine g_iload_1 (q := 61) C dX1_giveWays_60 rfl ?_
          refine g_aload_0 (q := 62) C dX1_giveWays_61 rfl ?_
          refine g_getc (q := 65) (m := 6) C f_X1_11 dX1_giveWays_62 rfl rfl (IX.d0 I _ (by decide)) ?_
          refine g_iload_2 (q := 66) C dX1_giveWays_65 rfl ?_
          refine g_aaP (q := 67) C dX1_giveWays_66 rfl rfl (IX.d0 I _ (by decide)) rfl (by omega) (by decide) (by rw [u2_n (by omega), u2_n (by omega), hr 6 (by decide)]; exact n1) ?_
          refine g_geti (q := 70) C f_X1_76 dX1_giveWays_67 rfl (IX.lp I (by assumption)) (IX.dp I (by assumption)) ?_
          rw [n3]
          refine g_iadd (q := 71) C dX1_giveWays_70 rfl ?_
          rw [nI_add, ← e9]
          refine g_istore_1 (q := 72) C dX1_giveWays_71 rfl (by rw [hN]; decide) rfl ?_
          refine g_iinc_2 (v := nI (i + 1)) (q := 75) C dX1_giveWays_72 rfl (by rw [hN]; decide) (nI_1 i) ?_
          refine g_goto (tgt := 4) C dX1_giveWays_75 (by decide) ?_
          have hyk : y (tK pa nP i) < (mD fl pa nu nF nP).2.1 (tK pa nP i) := by rw [← hzy]; exact hzw
          refine ih (i + 1) _ _ (by omega) ?_ (fun m hm => by rw [u2_n (by omega), u2_n (by omega)]; exact hr m hm) (fun hRB => rb_none (rb_u2 (hR hRB) (fun m e => Or.inl (of_F c1 m e))))
          rw [mvF_y (k := tK pa nP i) (tK_lt W hnP hin2) hdd (inP_f (tK_inj W hnP) hin2) (inP_y (by omega)) hyk, lf_tK W hnP hin2]
          exact X.pur n2 (Or.inr ⟨_, c1y, by rw [← hzy]; rfl, rfl⟩) (Or.inl ⟨rfl, by rw [← hzy, show (mD fl pa nu nF nP).2.2.1 (tK pa nP i) (z i) % 9 = 0 from hb9]; decide⟩)
        · have hfb : fb < nF := by omega
          refine g_aaF (q := 57) C dX1_giveWays_56 rfl rfl (IX.d0 I _ (by decide)) rfl (by omega) (by decide) (by rw [hr 14 (by decide)]; exact m6 fb (by rw [w2]; exact hb9)) ?_
          refine g_cv2v (q := 60) C cv_X1_83 dX1_giveWays_57 rfl (IX.lp I (by assumption)) (IX.dp I (by assumption)) (m_X2_takeWay_rr I n2 _ _) (by decide) (Nat.le_of_ble_eq_true rfl) ⟨Nat.zero_le _, Nat.zero_le _⟩ ?_
          refine g_iload_1 (q := 61) C dX1_giveWays_60 rfl ?_
          refine g_aload_0 (q := 62) C dX1_giveWays_61 rfl ?_
          refine g_getc (q := 65) (m := 6) C f_X1_11 dX1_giveWays_62 rfl rfl (IX.d0 I _ (by decide)) ?_
          refine g_iload_2 (q := 66) C dX1_giveWays_65 rfl ?_
          refine g_aaP (q := 67) C dX1_giveWays_66 rfl rfl (IX.d0 I _ (by decide)) rfl (by omega) (by decide) (by rw [u2_n (by omega), u2_n (by omega), hr 6 (by decide)]; exact n1) ?_
          refine g_geti (q := 70) C f_X1_76 dX1_giveWays_67 rfl (IX.lp I (by assumption)) (IX.dp I (by assumption)) ?_
          rw [n3]
          refine g_iadd (q := 71) C dX1_giveWays_70 rfl ?_
          rw [nI_add, ← e9]
          refine g_istore_1 (q := 72) C dX1_giveWays_71 rfl (by rw [hN]; decide) rfl ?_
          refine g_iinc_2 (v := nI (i + 1)) (q := 75) C dX1_giveWays_72 rfl (by rw [hN]; decide) (nI_1 i) ?_
          refine g_goto (tgt := 4) C dX1_giveWays_75 (by decide) ?_
          have hyk : y (tK pa nP i) < (mD fl pa nu nF nP).2.1 (tK pa nP i) := by rw [← hzy]; exact hzw
          refine ih (i + 1) _ _ (by omega) ?_ (fun m hm => by rw [u2_n (by omega), u2_n (by omega)]; exact hr m hm) (fun hRB => rb_u2 (rb_u2 (hR hRB) (fun m e => Or.inl (of_F c1 m e))) (fun m e => Or.inl (of_F hfb m e)))
          rw [mvF_y (k := tK pa nP i) (tK_lt W hnP hin2) hdd (inP_f (tK_inj W hnP) hin2) (inP_y (by omega)) hyk, lf_tK W hnP hin2]
          exact X.pur n2 (Or.inr ⟨_, c1y, by rw [← hzy]; rfl, rfl⟩) (Or.inr ⟨fb, hfb, rfl, by rw [← hzy, show (mD fl pa nu nF nP).2.2.1 (tK pa nP i) (z i) % 9 = fb + 1 from hb9]; exact nI_sc fb⟩)
  refine g_iconst (v := 0) (q := 1) C dX1_giveWays_0 rfl (by decide) ?_
  refine g_istore_1 (q := 2) C dX1_giveWays_1 rfl (by rw [hN]; decide) rfl ?_
  refine g_iconst (v := 0) (q := 3) C dX1_giveWays_2 rfl (by decide) ?_
  refine g_istore_2 (q := 4) C dX1_giveWays_3 rfl (by rw [hN]; decide) rfl ?_
  exact lp (stN pa nP) 0 r _ (by omega) (by rw [show inP (tK pa nP) 0 = fun _ => false from rfl, mvF_0]; exact X) (fun _ _ => rfl) (fun h => h)

end X47
