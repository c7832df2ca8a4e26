section X46
variable {g : GM} {bs : Nat} {l : Launch} {ad : Nat → Nat} {dm : Nat → Bool} {a : Nat → Nat → Int32} {b : Nat → Nat → Int64} {r : Nat → Nat → Option Nat} {nF nP : Nat} {fl pa nu : Nat → Int32}
variable {D : MD} {n : Nat} {q : Nat → Nat} {tw : Nat → Option Nat}
def AS (D : MD) (nF nP c : Nat) (ok : Nat → Bool) (C : Nat) (a : Nat → Nat → Int32) (b : Nat → Nat → Int64) (r : Nat → Nat → Option Nat) (a0 : Nat → Nat → Int32) (b0 : Nat → Nat → Int64) (r0 : Nat → Nat → Option Nat) : Prop := FW nF nP c a b r a0 b0 r0 ∧ a0 9 c = nI (ctS ok C) ∧ ∃ pl, XW D c (ctS ok C) pl a0 b0 r0
theorem AS.sk {c C C2 : Nat} {ok : Nat → Bool} {a0 : Nat → Nat → Int32} {b0 : Nat → Nat → Int64} {r0 : Nat → Nat → Option Nat} (h : AS D nF nP c ok C a b r a0 b0 r0) (hC : C ≤ C2) (hk : ∀ k, C ≤ k → k < C2 → ok k = false) : AS D nF nP c ok C2 a b r a0 b0 r0 := by
  unfold AS
  rw [ctS_skip hC hk]
  exact h
theorem AS.more {c C : Nat} {ok : Nat → Bool} {a0 a1 : Nat → Nat → Int32} {b0 b1 : Nat → Nat → Int64} {r0 r1 : Nat → Nat → Option Nat} (h : AS D nF nP c ok C a b r a0 b0 r0) (hok : ok C = true) (h1 : FW nF nP c a0 b0 r0 a1 b1 r1) (h2 : a1 9 c = nI (ctS ok C + 1)) (h3 : ∃ pl, XW D c (ctS ok C + 1) pl a1 b1 r1) : AS D nF nP c ok (C + 1) a b r a1 b1 r1 := by
  unfold AS
  have e : ctS ok (C + 1) = ctS ok C + 1 := by
    rw [show ctS ok (C + 1) = if ok C = true then ctS ok C + 1 else ctS ok C from rfl, if_pos hok]
  rw [e]
  exact ⟨h.1.tr h1, h2, h3⟩
theorem FW.XR {c : Nat} {a0 : Nat → Nat → Int32} {b0 : Nat → Nat → Int64} {r0 : Nat → Nat → Option Nat} (h : FW nF nP c a b r a0 b0 r0) (X : XR nF nP fl pa nu dm a r) : XR nF nP fl pa nu dm a0 r0 := X.fm (fun m hm => h.1 m (by omega) (by omega)) (fun m m1 m2 j hj => by rw [h.1 m (by omega) (by omega)]) (fun m hm => h.2.2.2.2.1 m (by omega) (by omega))
set_option maxHeartbeats 4000000 in
set_option maxRecDepth 100000 in
theorem m_X3_addWays (X : XR nF nP fl pa nu dm a r) (F : WF nF fl) (N : WN nu) (hD : Dok D n) (hco : CO D n nF) {c j : Nat} (hc : c < n) (hj : j < nP) (ho : cN (pa (9 * j)) < nF) (hd1 : D.2.1 c = ctS (okW fl nu nF (cN (pa (9 * j)))) 72) (hd2 : ∀ p, D.2.2.1 c p = nthS (okW fl nu nF (cN (pa (9 * j)))) 72 p) (hd3 : ∀ p, D.2.2.2.1 c p = lateN fl (cN (pa (9 * j))) (nthS (okW fl nu nF (cN (pa (9 * j)))) 72 p)) (h5 : a 5 12 = nI (c + 1)) (hr6 : r 6 c = some (30 + j)) (hsz : a (30 + j) 1 = nI (D.1 c)) (htn : a 7 c = nI (D.2.2.2.2 c)) (hw9 : a 9 c = nI 0) : MT g bs l yX3_addWays cX3_addWays 4 none 3 0 0 [.ref (ad 0), .ref (ad (30 + j))] ad dm a b r (fun v ad0 dm0 a0 b0 r0 => v = none ∧ ad0 = ad ∧ dm0 = dm ∧ FW nF nP c a b r a0 b0 r0 ∧ a0 9 c = nI (D.2.1 c) ∧ ∃ pl, XW D c (D.2.1 c) pl a0 b0 r0) := by
  refine mt_of (by decide) [some (.ref (ad 0)), some (.ref (ad (30 + j))), none, none] rfl (Nat.le_of_ble_eq_true rfl) ?_
  intro E hg hbs hl hN C RT9 hcells hslots hname
  have I := X.1
  have hnF := X.1.1
  have lp : ∀ (s i : Nat) (a0 : Nat → Nat → Int32) (b0 : Nat → Nat → Int64) (r0 : Nat → Nat → Option Nat) (e3 : Option Value), i + s = nF → AS D nF nP c (okW fl nu nF (cN (pa (9 * j)))) (9 * i) a b r a0 b0 r0 → G E 0 0 ad dm a0 b0 r0 2 [some (.ref (ad 0)), some (.ref (ad (30 + j))), some (.int (nI i)), e3] [] := by
    intro s
    induction s with
    | zero =>
      intro i a0 b0 r0 e3 hin hA
      have X := hA.1.XR X
      refine g_iload_2 (q := 3) C dX3_addWays_2 rfl ?_
      refine g_aload_0 (q := 4) C dX3_addWays_3 rfl ?_
      refine g_geti (q := 7) C f_X3_36 dX3_addWays_4 rfl rfl (IX.d0 I _ (by decide)) ?_
      refine g_icmp_ge (tgt := 100) (q := 10) C dX3_addWays_7 rfl (by decide) (fun c_7 => ?_) (fun c_7 => absurd (by rw [X.nF]; exact nI_le (by omega) (by omega)) c_7)
      exact g_vret C RT9 dX3_addWays_100 (by
  have h9 := hA.sk (C2 := 72) (by omega) (fun k k1 k2 => by
    unfold okW
    rw [decide_eq_false (show ¬ k / 9 < nF by omega)]
    rfl)
  obtain ⟨z1, z2, z3⟩ := h9
  rw [← hd1] at z2 z3
  exact ⟨rfl, rfl, rfl, z1, z2, z3⟩)
    | succ s ih =>
      intro i a0 b0 r0 e3 hin hA
      have hi : i < nF := by omega
      have X0 := X
      have inner : ∀ (t k : Nat) (a0 : Nat → Nat → Int32) (b0 : Nat → Nat → Int64) (r0 : Nat → Nat → Option Nat), k + t = nF → AS D nF nP c (okW fl nu nF (cN (pa (9 * j)))) (9 * i + (k + 1)) a b r a0 b0 r0 → G E 0 0 ad dm a0 b0 r0 41 [some (.ref (ad 0)), some (.ref (ad (30 + j))), some (.int (nI i)), some (.int (nI k))] [] := by
        intro t
        induction t with
        | zero =>
          intro k a0 b0 r0 hkn hA
          have X := hA.1.XR X0
          refine g_iload_3 (q := 42) C dX3_addWays_41 rfl ?_
          refine g_aload_0 (q := 43) C dX3_addWays_42 rfl ?_
          refine g_geti (q := 46) C f_X3_36 dX3_addWays_43 rfl rfl (IX.d0 I _ (by decide)) ?_
          refine g_icmp_ge (tgt := 94) (q := 49) C dX3_addWays_46 rfl (by decide) (fun c_46 => ?_) (fun c_46 => absurd (by rw [X.nF]; exact nI_le (by omega) (by omega)) c_46)
          refine g_iinc_2 (v := nI (i + 1)) (q := 97) C dX3_addWays_94 rfl (by rw [hN]; decide) (nI_1 i) ?_
          refine g_goto (tgt := 2) C dX3_addWays_97 (by decide) ?_
          refine ih (i + 1) a0 b0 r0 _ (by omega) (hA.sk (by omega) (fun z z1 z2 => ?_))
          rw [show z = 9 * i + (z - 9 * i) by omega]
          exact okW_g (by omega) (by omega)
        | succ t ihk =>
          intro k a0 b0 r0 hkn hA
          have X := hA.1.XR X0
          have hk : k < nF := by omega
          refine g_iload_3 (q := 42) C dX3_addWays_41 rfl ?_
          refine g_aload_0 (q := 43) C dX3_addWays_42 rfl ?_
          refine g_geti (q := 46) C f_X3_36 dX3_addWays_43 rfl rfl (IX.d0 I _ (by decide)) ?_
          refine g_icmp_ge (tgt := 94) (q := 49) C dX3_addWays_46 rfl (by decide) (fun c_46 => absurd c_46 (by rw [X.nF]; exact nI_ge (by omega) (by omega))) (fun c_46 => ?_)
          refine g_aload_0 (q := 50) C dX3_addWays_49 rfl ?_
          refine g_aload_1 (q := 51) C dX3_addWays_50 rfl ?_
          refine g_aload_0 (q := 52) C dX3_addWays_51 rfl ?_
          refine g_getc (q := 55) (m := 1) C f_X3_11 dX3_addWays_52 rfl rfl (IX.d0 I _ (by decide)) ?_
          refine g_iload_2 (q := 56) C dX3_addWays_55 rfl ?_
          refine g_aaF (q := 57) C dX3_addWays_56 rfl rfl (IX.d0 I _ (by decide)) rfl (by omega) (by decide) (XR.rf X (by assumption)) ?_
          refine g_aload_0 (q := 58) C dX3_addWays_57 rfl ?_
          refine g_getc (q := 61) (m := 1) C f_X3_11 dX3_addWays_58 rfl rfl (IX.d0 I _ (by decide)) ?_
          refine g_iload_3 (q := 62) C dX3_addWays_61 rfl ?_
          refine g_aaF (q := 63) C dX3_addWays_62 rfl rfl (IX.d0 I _ (by decide)) rfl (by omega) (by decide) (XR.rf X (by assumption)) ?_
          refine g_cv3i (q := 66) C cv_X3_179 dX3_addWays_63 rfl rfl (IX.d0 I _ (by decide)) (m_X3_isWay_r X F N hj hi hk) (by decide) (Nat.le_of_ble_eq_true rfl) ⟨Nat.zero_le _, Nat.zero_le _⟩ ?_
          refine g_ifeqb (tgt := 88) (q := 69) C dX3_addWays_66 rfl (by decide) (fun c_66 => ?_) (fun c_66 => ?_)
          · refine g_iinc_3 (v := nI (k + 1)) (q := 91) C dX3_addWays_88 rfl (by rw [hN]; decide) (nI_1 k) ?_
            refine g_goto (tgt := 41) C dX3_addWays_91 (by decide) ?_
            first
              | exact ihk (k + 1) a' b' r' (by omega) (hA.more hok hfw h9w hX2)
              | (refine ihk (k + 1) a0 b0 r0 (by omega) (hA.sk (by omega) (fun z z1 z2 => ?_))
                 rw [show z = 9 * i + (k + 1) by omega, okW_s hnF hi hk]
                 exact c_66)
          · have hok : okW fl nu nF (cN (pa (9 * j))) (9 * i + (k + 1)) = true := (by rw [okW_s hnF hi hk]; exact c_66)
            have hwl : ctS (okW fl nu nF (cN (pa (9 * j)))) (9 * i + (k + 1)) < D.2.1 c := by rw [hd1]; exact ctS_lt (by omega) hok
            have hn9 : nthS (okW fl nu nF (cN (pa (9 * j)))) 72 (ctS (okW fl nu nF (cN (pa (9 * j)))) (9 * i + (k + 1))) = 9 * i + (k + 1) := nth_of (by omega) hok
            have hlt9 : ltS fl (cN (pa (9 * j))) k = nI (D.2.2.2.1 c (ctS (okW fl nu nF (cN (pa (9 * j)))) (9 * i + (k + 1)))) := by
              rw [hd3, hn9]
              unfold lateN lastW
              rw [cB_s (by omega)]
              exact (lt_ok F ho (by assumption)).1
            have hq9 := hd2 (ctS (okW fl nu nF (cN (pa (9 * j)))) (9 * i + (k + 1)))
            rw [hn9] at hq9
            obtain ⟨pl9, hX9⟩ := hA.2.2
            have f1 := hA.1.1
            have f2 := hA.1.2.2.2.2.1
            refine g_aload_0 (q := 70) C dX3_addWays_69 rfl ?_
            refine g_getc (q := 73) (m := 5) C f_X3_32 dX3_addWays_70 rfl rfl (IX.d0 I _ (by decide)) ?_
            refine g_aload_0 (q := 74) C dX3_addWays_73 rfl ?_
            refine g_getc (q := 77) (m := 1) C f_X3_11 dX3_addWays_74 rfl rfl (IX.d0 I _ (by decide)) ?_
            refine g_iload_2 (q := 78) C dX3_addWays_77 rfl ?_
            refine g_aaF (q := 79) C dX3_addWays_78 rfl rfl (IX.d0 I _ (by decide)) rfl (by omega) (by decide) (XR.rf X (by assumption)) ?_
            refine g_aload_0 (q := 80) C dX3_addWays_79 rfl ?_
            refine g_getc (q := 83) (m := 1) C f_X3_11 dX3_addWays_80 rfl rfl (IX.d0 I _ (by decide)) ?_
            refine g_iload_3 (q := 84) C dX3_addWays_83 rfl ?_
            refine g_aaF (q := 85) C dX3_addWays_84 rfl rfl (IX.d0 I _ (by decide)) rfl (by omega) (by decide) (XR.rf X (by assumption)) ?_
            refine g_cv2g (q := 88) C cv_X3_275 dX3_addWays_85 rfl rfl (IX.d0 I _ (by decide)) (m_X1_addWay_r X hD hco hc hwl hX9 (by rw [f1 5 (by decide) (by decide)]; exact h5) (by rw [f2 6 (by decide) (by decide)]; exact hr6) hj (by rw [f1 (30 + j) (by omega) (by omega)]; exact hsz) (by rw [f1 7 (by decide) (by decide)]; exact htn) hA.2.1 hi hk hlt9 (by rw [hq9]; omega) (by rw [hq9]; omega)) (by decide) (Nat.le_of_ble_eq_true rfl) ⟨Nat.zero_le _, Nat.zero_le _⟩ (fun v ad' dm' a' b' r' hp => ?_)
            obtain ⟨rfl, q1, q2, hfw, h9w, hX2⟩ := hp
            have q1 := q1.symm
            have q2 := q2.symm
            subst q1 q2
            change G E 0 0 _ _ a' b' r' 88 _ []
            have X := hfw.XR X
            refine g_iinc_3 (v := nI (k + 1)) (q := 91) C dX3_addWays_88 rfl (by rw [hN]; decide) (nI_1 k) ?_
            refine g_goto (tgt := 41) C dX3_addWays_91 (by decide) ?_
            first
              | exact ihk (k + 1) a' b' r' (by omega) (hA.more hok hfw h9w hX2)
              | (refine ihk (k + 1) a0 b0 r0 (by omega) (hA.sk (by omega) (fun z z1 z2 => ?_))
                 rw [show z = 9 * i + (k + 1) by omega, okW_s hnF hi hk]
                 exact c_66)
      have X := hA.1.XR X
      refine g_iload_2 (q := 3) C dX3_addWays_2 rfl ?_
      refine g_aload_0 (q := 4) C dX3_addWays_3 rfl ?_
      refine g_geti (q := 7) C f_X3_36 dX3_addWays_4 rfl rfl (IX.d0 I _ (by decide)) ?_
      refine g_icmp_ge (tgt := 100) (q := 10) C dX3_addWays_7 rfl (by decide) (fun c_7 => absurd c_7 (by rw [X.nF]; exact nI_ge (by omega) (by omega))) (fun c_7 => ?_)
      refine g_aload_0 (q := 11) C dX3_addWays_10 rfl ?_
      refine g_aload_1 (q := 12) C dX3_addWays_11 rfl ?_
      refine g_aload_0 (q := 13) C dX3_addWays_12 rfl ?_
      refine g_getc (q := 16) (m := 1) C f_X3_11 dX3_addWays_13 rfl rfl (IX.d0 I _ (by decide)) ?_
      refine g_iload_2 (q := 17) C dX3_addWays_16 rfl ?_
      refine g_aaF (q := 18) C dX3_addWays_17 rfl rfl (IX.d0 I _ (by decide)) rfl (by omega) (by decide) (XR.rf X (by assumption)) ?_
      refine g_null (q := 19) C dX3_addWays_18 rfl ?_
      refine g_cv3i (q := 22) C cv_X3_179 dX3_addWays_19 rfl rfl (IX.d0 I _ (by decide)) (m_X3_isWay_n X F hj hi) (by decide) (Nat.le_of_ble_eq_true rfl) ⟨Nat.zero_le _, Nat.zero_le _⟩ ?_
      refine g_ifeqb (tgt := 39) (q := 25) C dX3_addWays_22 rfl (by decide) (fun c_22 => ?_) (fun c_22 => ?_)
      · refine g_iconst (v := 0) (q := 40) C dX3_addWays_39 rfl (by decide) ?_
        refine g_istore_3 (q := 41) C dX3_addWays_40 rfl (by rw [hN]; decide) rfl ?_
        first
          | exact inner nF 0 a' b' r' (by omega) (hA.more hok hfw h9w hX2)
          | (refine inner nF 0 a0 b0 r0 (by omega) (hA.sk (by omega) (fun k k1 k2 => ?_))
             rw [show k = 9 * i by omega, okW_0 hi]
             exact c_22)
      · have hok : okW fl nu nF (cN (pa (9 * j))) (9 * i) = true := (by rw [okW_0 hi]; exact c_22)
        have hwl : ctS (okW fl nu nF (cN (pa (9 * j)))) (9 * i) < D.2.1 c := by rw [hd1]; exact ctS_lt (by omega) hok
        have hn9 : nthS (okW fl nu nF (cN (pa (9 * j)))) 72 (ctS (okW fl nu nF (cN (pa (9 * j)))) (9 * i)) = 9 * i := nth_of (by omega) hok
        have hlt9 : ltS fl (cN (pa (9 * j))) i = nI (D.2.2.2.1 c (ctS (okW fl nu nF (cN (pa (9 * j)))) (9 * i))) := by
          rw [hd3, hn9]
          unfold lateN lastW
          rw [cB_0, Option.getD_none, show 9 * i / 9 = i by omega]
          exact (lt_ok F ho (by assumption)).1
        have hq9 := hd2 (ctS (okW fl nu nF (cN (pa (9 * j)))) (9 * i))
        rw [hn9] at hq9
        obtain ⟨pl9, hX9⟩ := hA.2.2
        have f1 := hA.1.1
        have f2 := hA.1.2.2.2.2.1
        refine g_aload_0 (q := 26) C dX3_addWays_25 rfl ?_
        refine g_getc (q := 29) (m := 5) C f_X3_32 dX3_addWays_26 rfl rfl (IX.d0 I _ (by decide)) ?_
        refine g_aload_0 (q := 30) C dX3_addWays_29 rfl ?_
        refine g_getc (q := 33) (m := 1) C f_X3_11 dX3_addWays_30 rfl rfl (IX.d0 I _ (by decide)) ?_
        refine g_iload_2 (q := 34) C dX3_addWays_33 rfl ?_
        refine g_aaF (q := 35) C dX3_addWays_34 rfl rfl (IX.d0 I _ (by decide)) rfl (by omega) (by decide) (XR.rf X (by assumption)) ?_
        refine g_null (q := 36) C dX3_addWays_35 rfl ?_
        refine g_cv2g (q := 39) C cv_X3_275 dX3_addWays_36 rfl rfl (IX.d0 I _ (by decide)) (m_X1_addWay_n X hD hco hc hwl hX9 (by rw [f1 5 (by decide) (by decide)]; exact h5) (by rw [f2 6 (by decide) (by decide)]; exact hr6) hj (by rw [f1 (30 + j) (by omega) (by omega)]; exact hsz) (by rw [f1 7 (by decide) (by decide)]; exact htn) hA.2.1 hi hlt9 (by rw [hq9]; omega) (by rw [hq9]; omega)) (by decide) (Nat.le_of_ble_eq_true rfl) ⟨Nat.zero_le _, Nat.zero_le _⟩ (fun v ad' dm' a' b' r' hp => ?_)
        obtain ⟨rfl, q1, q2, hfw, h9w, hX2⟩ := hp
        have q1 := q1.symm
        have q2 := q2.symm
        subst q1 q2
        change G E 0 0 _ _ a' b' r' 39 _ []
        have X := hfw.XR X
        refine g_iconst (v := 0) (q := 40) C dX3_addWays_39 rfl (by decide) ?_
        refine g_istore_3 (q := 41) C dX3_addWays_40 rfl (by rw [hN]; decide) rfl ?_
        first
          | exact inner nF 0 a' b' r' (by omega) (hA.more hok hfw h9w hX2)
          | (refine inner nF 0 a0 b0 r0 (by omega) (hA.sk (by omega) (fun k k1 k2 => ?_))
             rw [show k = 9 * i by omega, okW_0 hi]
             exact c_22)
  refine g_iconst (v := 0) (q := 1) C dX3_addWays_0 rfl (by decide) ?_
  refine g_istore_2 (q := 2) C dX3_addWays_1 rfl (by rw [hN]; decide) rfl ?_
  exact lp nF 0 a b r _ (by omega) ⟨FW.rf, hw9, fun _ => 0, fun v hv => absurd hv (Nat.not_lt_zero _), fun v v' h1 h2 => absurd h2 (Nat.not_lt_zero _), fun p hp => absurd hp (Nat.not_lt_zero _)⟩

/-- what stands of the mover's problem: its first c parties -/
def BI (D : MD) (q : Nat → Nat) (tw : Nat → Option Nat) (i : Nat) (a : Nat → Nat → Int32) (b : Nat → Nat → Int64) (r : Nat → Nat → Option Nat) : Prop := r 6 i = some (30 + q i) ∧ a 7 i = nI (D.2.2.2.2 i) ∧ a 8 i = twI (tw i) ∧ a 9 i = nI (D.2.1 i) ∧ ∃ pl, XW D i (D.2.1 i) pl a b r
def BS (D : MD) (q : Nat → Nat) (tw : Nat → Option Nat) (c : Nat) (a : Nat → Nat → Int32) (b : Nat → Nat → Int64) (r : Nat → Nat → Option Nat) : Prop := a 5 12 = nI c ∧ ∀ i, i < c → BI D q tw i a b r
def FS (nF nP : Nat) (a : Nat → Nat → Int32) (b : Nat → Nat → Int64) (r : Nat → Nat → Option Nat) (a' : Nat → Nat → Int32) (b' : Nat → Nat → Int64) (r' : Nat → Nat → Option Nat) : Prop := (∀ m, (m < 5 ∨ 17 ≤ m) → a' m = a m) ∧ (∀ m, m ≠ 16 → b' m = b m) ∧ (∀ m, (m < 5 ∨ 17 ≤ m) → r' m = r m) ∧ (RB nF nP r → RB nF nP r')
theorem FS.rf : FS nF nP a b r a b r := ⟨fun _ _ => rfl, fun _ _ => rfl, fun _ _ => rfl, fun h => h⟩
theorem FS.XR {a0 : Nat → Nat → Int32} {b0 : Nat → Nat → Int64} {r0 : Nat → Nat → Option Nat} (h : FS nF nP a b r a0 b0 r0) (X : XR nF nP fl pa nu dm a r) : XR nF nP fl pa nu dm a0 r0 := X.fm (fun m hm => h.1 m (by omega)) (fun m m1 m2 j hj => by rw [h.1 m (by omega)]) (fun m hm => h.2.2.1 m (by omega))
theorem FS.tr {a0 a1 : Nat → Nat → Int32} {b0 b1 : Nat → Nat → Int64} {r0 r1 : Nat → Nat → Option Nat} (h : FS nF nP a b r a0 b0 r0) (h2 : FS nF nP a0 b0 r0 a1 b1 r1) : FS nF nP a b r a1 b1 r1 := ⟨fun m hm => (h2.1 m hm).trans (h.1 m hm), fun m hm => (h2.2.1 m hm).trans (h.2.1 m hm), fun m hm => (h2.2.2.1 m hm).trans (h.2.2.1 m hm), fun hR => h2.2.2.2 (h.2.2.2 hR)⟩
theorem BI.frm {i c : Nat} {a0 : Nat → Nat → Int32} {b0 : Nat → Nat → Int64} {r0 : Nat → Nat → Option Nat} (h : BI D q tw i a b r) (hw : D.2.1 i ≤ 12) (hi : i < c) (h6 : r0 6 i = r 6 i) (h7 : a0 7 i = a 7 i) (h8 : a0 8 i = a 8 i) (h9 : a0 9 i = a 9 i) (hR : ∀ j, j < 12 * c → a0 15 j = a 15 j ∧ b0 16 j = b 16 j ∧ r0 13 j = r 13 j ∧ r0 14 j = r 14 j) : BI D q tw i a0 b0 r0 := by
  obtain ⟨z1, z2, z3, z4, pl, z5, z6, z7⟩ := h
  refine ⟨h6.trans z1, h7.trans z2, h8.trans z3, h9.trans z4, pl, fun v hv => ⟨(z5 v hv).1, ?_⟩, z6, z7⟩
  obtain ⟨y1, y2, y3, y4⟩ := hR (12 * i + v) (by omega)
  exact (z5 v hv).2.frm y1 y2 y3 y4
/-- one more party with its ways -/
theorem BS.more {c j : Nat} {x8 : Int32} {a0 : Nat → Nat → Int32} {b0 : Nat → Nat → Int64} {r0 : Nat → Nat → Option Nat} (hD : Dok D n) (hc : c < n) (h : BS D q tw c a b r) (hq : q c = j) (h8 : x8 = twI (tw c)) (h1 : FW nF nP c (u2 (u2 (u2 (u2 a 7 c (nI (D.2.2.2.2 c))) 8 c x8) 9 c (nI 0)) 5 12 (nI (c + 1))) b (u2 r 6 c (some (30 + j))) a0 b0 r0) (h2 : a0 9 c = nI (D.2.1 c)) (h3 : ∃ pl, XW D c (D.2.1 c) pl a0 b0 r0) : BS D q tw (c + 1) a0 b0 r0 := by
  obtain ⟨f1, f2, f3, f4, f5, f6⟩ := h1
  refine ⟨by rw [f1 5 (by decide) (by decide), u2_s], fun i hi => ?_⟩
  by_cases e : i = c
  · subst e
    exact ⟨by rw [f5 6 (by decide) (by decide), u2_s, hq], by rw [f1 7 (by decide) (by decide), u2_n (by decide), u2_n (by decide), u2_n (by decide), u2_s], by rw [f1 8 (by decide) (by decide), u2_n (by decide), u2_n (by decide), u2_s, h8], h2, h3⟩
  · refine (h.2 i (by omega)).frm (hD.2 i (by omega)).2.2.1 (show i < c by omega) (by rw [f5 6 (by decide) (by decide), u2_k e]) (by rw [f1 7 (by decide) (by decide), u2_n (by decide), u2_n (by decide), u2_n (by decide), u2_k e]) (by rw [f1 8 (by decide) (by decide), u2_n (by decide), u2_n (by decide), u2_k e, u2_n (by decide)]) (by rw [f2 i e, u2_n (by decide), u2_k e, u2_n (by decide), u2_n (by decide)]) (fun k hk => ?_)
    obtain ⟨y1, y2, y3, y4⟩ := f3 k hk
    rw [u2_n (show (15 : Nat) ≠ 5 by decide), u2_n (show (15 : Nat) ≠ 9 by decide), u2_n (show (15 : Nat) ≠ 8 by decide), u2_n (show (15 : Nat) ≠ 7 by decide)] at y1
    rw [u2_n (show (13 : Nat) ≠ 6 by decide)] at y3
    rw [u2_n (show (14 : Nat) ≠ 6 by decide)] at y4
    exact ⟨y1, y2, y3, y4⟩
theorem FS.more {c j t : Nat} {x8 : Int32} {a0 : Nat → Nat → Int32} {b0 : Nat → Nat → Int64} {r0 : Nat → Nat → Option Nat} (hj : j < nP) (h1 : FW nF nP c (u2 (u2 (u2 (u2 a 7 c (nI t)) 8 c x8) 9 c (nI 0)) 5 12 (nI (c + 1))) b (u2 r 6 c (some (30 + j))) a0 b0 r0) : FS nF nP a b r a0 b0 r0 := by
  obtain ⟨f1, f2, f3, f4, f5, f6⟩ := h1
  exact ⟨fun m hm => by rw [f1 m (by omega) (by omega), u2_n (by omega), u2_n (by omega), u2_n (by omega), u2_n (by omega)], f4, fun m hm => by rw [f5 m (by omega) (by omega), u2_n (by omega)], fun hR => f6 (rb_u2 hR (fun m e => by cases e; omega))⟩
theorem ow_lt (W : WP nF nP pa) (hn : nF ≤ 8) {j : Nat} (hj : j < nP) : cN (pa (9 * j)) < nF := by
  obtain ⟨⟨o, ho, e⟩, -⟩ := W j hj
  rw [e, cN_nI (by omega)]
  exact ho
set_option maxHeartbeats 4000000 in
set_option maxRecDepth 100000 in
theorem m_X3_addStranded (X : XR nF nP fl pa nu dm a r) (W : WP nF nP pa) (F : WF nF fl) (N : WN nu) (h6 : stN pa nP ≤ 6) {s : Nat} (hs1 : 1 ≤ s) (hs6 : s ≤ 6) (hB : BS (xD fl pa nu nF nP) (qK pa nP) (wK pa nP) (ctS (cK pa nP) (20 * (6 - s))) a b r) : MT g bs l yX3_addStranded cX3_addStranded 4 none 4 0 0 [.ref (ad 0), .int (nI s)] ad dm a b r (fun v ad0 dm0 a0 b0 r0 => v = none ∧ ad0 = ad ∧ dm0 = dm ∧ FS nF nP a b r a0 b0 r0 ∧ BS (xD fl pa nu nF nP) (qK pa nP) (wK pa nP) (ctS (cK pa nP) (20 * (7 - s))) a0 b0 r0) := by
  refine mt_of (by decide) [some (.ref (ad 0)), some (.int (nI s)), none, none] rfl (Nat.le_of_ble_eq_true rfl) ?_
  intro E hg hbs hl hN C RT9 hcells hslots hname
  have I := X.1
  have hnF := X.1.1
  have hnP := X.1.2.1
  have lp : ∀ (k j : Nat) (a0 : Nat → Nat → Int32) (b0 : Nat → Nat → Int64) (r0 : Nat → Nat → Option Nat), j + k = nP → FS nF nP a b r a0 b0 r0 → BS (xD fl pa nu nF nP) (qK pa nP) (wK pa nP) (ctS (cK pa nP) (20 * (6 - s) + j)) a0 b0 r0 → G E 0 0 ad dm a0 b0 r0 4 [some (.ref (ad 0)), some (.int (nI s)), some (.int (nI (ctS (stc pa) j))), some (.int (nI j))] [] := by
    intro k
    induction k with
    | zero =>
      intro j a0 b0 r0 hjk hF hB
      have X := hF.XR X
      refine g_iload_3 (q := 5) C dX3_addStranded_4 rfl ?_
      refine g_aload_0 (q := 6) C dX3_addStranded_5 rfl ?_
      refine g_geti (q := 9) C f_X3_40 dX3_addStranded_6 rfl rfl (IX.d0 I _ (by decide)) ?_
      refine g_icmp_ge (tgt := 70) (q := 12) C dX3_addStranded_9 rfl (by decide) (fun c_9 => ?_) (fun c_9 => absurd (by rw [X.nP]; exact nI_le (by omega) (by omega)) c_9)
      exact g_vret C RT9 dX3_addStranded_70 (by
  refine ⟨rfl, rfl, rfl, hF, ?_⟩
  rw [show 20 * (7 - s) = 20 * (6 - s) + 20 by omega, ctS_skip (k := 20 * (6 - s) + j) (by omega) (fun k k1 k2 => ?_)]
  · exact hB
  · unfold cK
    rw [decide_eq_false (show ¬ k % 20 < nP by omega)]
    rfl)
    | succ k ih =>
      intro j a0 b0 r0 hjk hF hB
      have X := hF.XR X
      have hjp : j < nP := by omega
      refine g_iload_3 (q := 5) C dX3_addStranded_4 rfl ?_
      refine g_aload_0 (q := 6) C dX3_addStranded_5 rfl ?_
      refine g_geti (q := 9) C f_X3_40 dX3_addStranded_6 rfl rfl (IX.d0 I _ (by decide)) ?_
      refine g_icmp_ge (tgt := 70) (q := 12) C dX3_addStranded_9 rfl (by decide) (fun c_9 => absurd c_9 (by rw [X.nP]; exact nI_ge (by omega) (by omega))) (fun c_9 => ?_)
      refine g_aload_0 (q := 13) C dX3_addStranded_12 rfl ?_
      refine g_getc (q := 16) (m := 2) C f_X3_17 dX3_addStranded_13 rfl rfl (IX.d0 I _ (by decide)) ?_
      refine g_iload_3 (q := 17) C dX3_addStranded_16 rfl ?_
      refine g_aaP (q := 18) C dX3_addStranded_17 rfl rfl (IX.d0 I _ (by decide)) rfl (by omega) (by decide) (XR.rp X (by assumption)) ?_
      refine g_cv0i (q := 21) C cv_X3_187 dX3_addStranded_18 rfl (IX.lp I (by assumption)) (IX.dp I (by assumption)) (m_X2_isStranded X hjp) (by decide) (Nat.le_of_ble_eq_true rfl) ⟨Nat.zero_le _, Nat.zero_le _⟩ ?_
      refine g_ifeqb (tgt := 64) (q := 24) C dX3_addStranded_21 rfl (by decide) (fun c_21 => ?_) (fun c_21 => ?_)
      · refine g_iinc_3 (v := nI (j + 1)) (q := 67) C dX3_addStranded_64 rfl (by rw [hN]; decide) (nI_1 j) ?_
        refine g_goto (tgt := 4) C dX3_addStranded_67 (by decide) ?_
        first
          | (have e9 : ctS (stc pa) (j + 1) = ctS (stc pa) j + 1 := by rw [ct_s, if_pos c_21]
             have e8 : ctS (cK pa nP) (20 * (6 - s) + (j + 1)) = ctS (cK pa nP) (20 * (6 - s) + j) + 1 := by
               rw [← Nat.add_assoc, ct_s, if_pos (by rw [cK_n (by omega) hs6, c_21, decide_eq_true hjp, decide_eq_true hsj]; rfl)]
             rw [← e9]
             rw [← htk, ← xD_t (fl := fl) (nu := nu) (nF := nF)] at hfw
             refine ih (j + 1) a' b' r' (by omega) (hF.tr (FS.more hjp hfw)) ?_
             rw [e8]
             exact BS.more (xD_ok W F hnF hnP h6) k1 hB k2 (by unfold wK; rw [k2]) hfw h9w hX2)
          | (rw [sd_st W hjp] at c_21
             have c_21 : stc pa j = true := c_21
             have hsj : ¬ szN pa j = s := by
               obtain ⟨-, -, -, -, e1, -⟩ := X.pt hjp
               obtain ⟨s3, s1, s2⟩ := sz_ok W hjp
               rw [← e1, s3, nI_eq (by omega) (by omega)] at c_34
               exact c_34
             have e9 : ctS (stc pa) (j + 1) = ctS (stc pa) j + 1 := by rw [ct_s, if_pos c_21]
             have e8 : ctS (cK pa nP) (20 * (6 - s) + (j + 1)) = ctS (cK pa nP) (20 * (6 - s) + j) := by
               rw [← Nat.add_assoc, ct_s, if_neg (by rw [cK_n (by omega) hs6, decide_eq_false hsj, Bool.and_false]; decide)]
             rw [← e9]
             refine ih (j + 1) a0 b0 r0 (by omega) hF ?_
             rw [e8]
             exact hB)
          | (rw [sd_st W hjp] at c_21
             have e9 : ctS (stc pa) (j + 1) = ctS (stc pa) j := by rw [ct_s, if_neg (by rw [c_21]; decide)]
             have e8 : ctS (cK pa nP) (20 * (6 - s) + (j + 1)) = ctS (cK pa nP) (20 * (6 - s) + j) := by
               rw [← Nat.add_assoc, ct_s, if_neg (by rw [cK_n (by omega) hs6, c_21, Bool.and_false, Bool.false_and]; decide)]
             rw [← e9]
             refine ih (j + 1) a0 b0 r0 (by omega) hF ?_
             rw [e8]
             exact hB)
      · refine g_aload_0 (q := 25) C dX3_addStranded_24 rfl ?_
        refine g_getc (q := 28) (m := 2) C f_X3_17 dX3_addStranded_25 rfl rfl (IX.d0 I _ (by decide)) ?_
        refine g_iload_3 (q := 29) C dX3_addStranded_28 rfl ?_
        refine g_aaP (q := 30) C dX3_addStranded_29 rfl rfl (IX.d0 I _ (by decide)) rfl (by omega) (by decide) (XR.rp X (by assumption)) ?_
        refine g_geti (q := 33) C f_X3_102 dX3_addStranded_30 rfl (IX.lp I (by assumption)) (IX.dp I (by assumption)) ?_
        refine g_iload_1 (q := 34) C dX3_addStranded_33 rfl ?_
        refine g_icmp_ne (tgt := 61) (q := 37) C dX3_addStranded_34 rfl (by decide) (fun c_34 => ?_) (fun c_34 => ?_)
        · refine g_iinc_2 (v := nI (ctS (stc pa) j + 1)) (q := 64) C dX3_addStranded_61 rfl (by rw [hN]; decide) (nI_1 _) ?_
          refine g_iinc_3 (v := nI (j + 1)) (q := 67) C dX3_addStranded_64 rfl (by rw [hN]; decide) (nI_1 j) ?_
          refine g_goto (tgt := 4) C dX3_addStranded_67 (by decide) ?_
          first
            | (have e9 : ctS (stc pa) (j + 1) = ctS (stc pa) j + 1 := by rw [ct_s, if_pos c_21]
               have e8 : ctS (cK pa nP) (20 * (6 - s) + (j + 1)) = ctS (cK pa nP) (20 * (6 - s) + j) + 1 := by
                 rw [← Nat.add_assoc, ct_s, if_pos (by rw [cK_n (by omega) hs6, c_21, decide_eq_true hjp, decide_eq_true hsj]; rfl)]
               rw [← e9]
               rw [← htk, ← xD_t (fl := fl) (nu := nu) (nF := nF)] at hfw
               refine ih (j + 1) a' b' r' (by omega) (hF.tr (FS.more hjp hfw)) ?_
               rw [e8]
               exact BS.more (xD_ok W F hnF hnP h6) k1 hB k2 (by unfold wK; rw [k2]) hfw h9w hX2)
            | (rw [sd_st W hjp] at c_21
               have c_21 : stc pa j = true := c_21
               have hsj : ¬ szN pa j = s := by
                 obtain ⟨-, -, -, -, e1, -⟩ := X.pt hjp
                 obtain ⟨s3, s1, s2⟩ := sz_ok W hjp
                 rw [← e1, s3, nI_eq (by omega) (by omega)] at c_34
                 exact c_34
               have e9 : ctS (stc pa) (j + 1) = ctS (stc pa) j + 1 := by rw [ct_s, if_pos c_21]
               have e8 : ctS (cK pa nP) (20 * (6 - s) + (j + 1)) = ctS (cK pa nP) (20 * (6 - s) + j) := by
                 rw [← Nat.add_assoc, ct_s, if_neg (by rw [cK_n (by omega) hs6, decide_eq_false hsj, Bool.and_false]; decide)]
               rw [← e9]
               refine ih (j + 1) a0 b0 r0 (by omega) hF ?_
               rw [e8]
               exact hB)
            | (rw [sd_st W hjp] at c_21
               have e9 : ctS (stc pa) (j + 1) = ctS (stc pa) j := by rw [ct_s, if_neg (by rw [c_21]; decide)]
               have e8 : ctS (cK pa nP) (20 * (6 - s) + (j + 1)) = ctS (cK pa nP) (20 * (6 - s) + j) := by
                 rw [← Nat.add_assoc, ct_s, if_neg (by rw [cK_n (by omega) hs6, c_21, Bool.and_false, Bool.false_and]; decide)]
               rw [← e9]
               refine ih (j + 1) a0 b0 r0 (by omega) hF ?_
               rw [e8]
               exact hB)
        · rw [sd_st W hjp] at c_21
          have hsj : szN pa j = s := by
            obtain ⟨-, -, -, -, e1, -⟩ := X.pt hjp
            obtain ⟨s3, s1, s2⟩ := sz_ok W hjp
            rw [← e1, s3, nI_eq (by omega) (by omega)] at c_34
            exact c_34
          obtain ⟨k1, k2⟩ := kK_at W hnP hjp hs6 c_21 hsj
          have htk : tK pa nP (ctS (cK pa nP) (20 * (6 - s) + j)) = ctS (stc pa) j := by unfold tK; rw [k2]
          have htl := tK_lt W hnP k1
          rw [htk] at htl
          obtain ⟨-, -, -, -, e1, -⟩ := X.pt hjp
          refine g_aload_0 (q := 38) C dX3_addStranded_37 rfl ?_
          refine g_getc (q := 41) (m := 5) C f_X3_32 dX3_addStranded_38 rfl rfl (IX.d0 I _ (by decide)) ?_
          refine g_aload_0 (q := 42) C dX3_addStranded_41 rfl ?_
          refine g_getc (q := 45) (m := 2) C f_X3_17 dX3_addStranded_42 rfl rfl (IX.d0 I _ (by decide)) ?_
          refine g_iload_3 (q := 46) C dX3_addStranded_45 rfl ?_
          refine g_aaP (q := 47) C dX3_addStranded_46 rfl rfl (IX.d0 I _ (by decide)) rfl (by omega) (by decide) (XR.rp X (by assumption)) ?_
          refine g_iload_2 (q := 48) C dX3_addStranded_47 rfl ?_
          refine g_cv2v (q := 51) C cv_X3_267 dX3_addStranded_48 rfl rfl (IX.d0 I _ (by decide)) (m_X1_addParty (q := qK pa nP) (c := ctS (cK pa nP) (20 * (6 - s) + j)) X W hB.1 (by omega) (show ctS (stc pa) j < 6 by omega) hjp (fun i hi => ⟨(hB.2 i hi).1, (qK_ok W hnP (show i < stN pa nP by omega)).1⟩)) (by decide) (Nat.le_of_ble_eq_true rfl) ⟨Nat.zero_le _, Nat.zero_le _⟩ ?_
          have X := X.fm (a' := (u2 (u2 (u2 (u2 a0 7 (ctS (cK pa nP) (20 * (6 - s) + j)) (nI (ctS (stc pa) j))) 8 (ctS (cK pa nP) (20 * (6 - s) + j)) (twI (lastT (fun t => decide (cN (pa (9 * qK pa nP t)) = cN (pa (9 * j))) && decide (szN pa (qK pa nP t) = szN pa j)) (ctS (cK pa nP) (20 * (6 - s) + j))))) 9 (ctS (cK pa nP) (20 * (6 - s) + j)) (nI 0)) 5 12 (nI (ctS (cK pa nP) (20 * (6 - s) + j) + 1)))) (r' := u2 r0 6 (ctS (cK pa nP) (20 * (6 - s) + j)) (some (30 + j))) (fun m hm => by rw [u2_n (by omega), u2_n (by omega), u2_n (by omega), u2_n (by omega)]) (fun m m1 m2 j hj => by rw [u2_n (by omega), u2_n (by omega), u2_n (by omega), u2_n (by omega)]) (fun m hm => u2_n (by omega))
          refine g_aload_0 (q := 52) C dX3_addStranded_51 rfl ?_
          refine g_aload_0 (q := 53) C dX3_addStranded_52 rfl ?_
          refine g_getc (q := 56) (m := 2) C f_X3_17 dX3_addStranded_53 rfl rfl (IX.d0 I _ (by decide)) ?_
          refine g_iload_3 (q := 57) C dX3_addStranded_56 rfl ?_
          refine g_aaP (q := 58) C dX3_addStranded_57 rfl rfl (IX.d0 I _ (by decide)) rfl (by omega) (by decide) (XR.rp X (by assumption)) ?_
          refine g_cv1g (q := 61) C cv_X3_271 dX3_addStranded_58 rfl rfl (IX.d0 I _ (by decide)) (m_X3_addWays (D := (xD fl pa nu nF nP)) (n := stN pa nP) (c := ctS (cK pa nP) (20 * (6 - s) + j)) (j := j) X F N (xD_ok W F hnF hnP h6) (xD_co W F hnF hnP) k1 hjp (ow_lt W hnF hjp) (by rw [xD_w W hnP k1, k2]) (fun p => by rw [xD_c W hnP k1, k2]) (fun p => by rw [xD_l W hnP k1, k2]) u2_s u2_s (by rw [u2_n (by omega), u2_n (by omega), u2_n (by omega), u2_n (by omega), xD_s W hnP k1, k2, ← e1]; exact (sz_ok W hjp).1) (by rw [u2_n (by decide), u2_n (by decide), u2_n (by decide), u2_s, xD_t, htk]) (by rw [u2_n (by decide), u2_s])) (by decide) (Nat.le_of_ble_eq_true rfl) ⟨Nat.zero_le _, Nat.zero_le _⟩ (fun v ad' dm' a' b' r' hp => ?_)
          obtain ⟨rfl, q1, q2, hfw, h9w, hX2⟩ := hp
          have q1 := q1.symm
          have q2 := q2.symm
          subst q1 q2
          change G E 0 0 _ _ a' b' r' 61 _ []
          refine g_iinc_2 (v := nI (ctS (stc pa) j + 1)) (q := 64) C dX3_addStranded_61 rfl (by rw [hN]; decide) (nI_1 _) ?_
          refine g_iinc_3 (v := nI (j + 1)) (q := 67) C dX3_addStranded_64 rfl (by rw [hN]; decide) (nI_1 j) ?_
          refine g_goto (tgt := 4) C dX3_addStranded_67 (by decide) ?_
          first
            | (have e9 : ctS (stc pa) (j + 1) = ctS (stc pa) j + 1 := by rw [ct_s, if_pos c_21]
               have e8 : ctS (cK pa nP) (20 * (6 - s) + (j + 1)) = ctS (cK pa nP) (20 * (6 - s) + j) + 1 := by
                 rw [← Nat.add_assoc, ct_s, if_pos (by rw [cK_n (by omega) hs6, c_21, decide_eq_true hjp, decide_eq_true hsj]; rfl)]
               rw [← e9]
               rw [← htk, ← xD_t (fl := fl) (nu := nu) (nF := nF)] at hfw
               refine ih (j + 1) a' b' r' (by omega) (hF.tr (FS.more hjp hfw)) ?_
               rw [e8]
               exact BS.more (xD_ok W F hnF hnP h6) k1 hB k2 (by unfold wK; rw [k2]) hfw h9w hX2)
            | (rw [sd_st W hjp] at c_21
               have c_21 : stc pa j = true := c_21
               have hsj : ¬ szN pa j = s := by
                 obtain ⟨-, -, -, -, e1, -⟩ := X.pt hjp
                 obtain ⟨s3, s1, s2⟩ := sz_ok W hjp
                 rw [← e1, s3, nI_eq (by omega) (by omega)] at c_34
                 exact c_34
               have e9 : ctS (stc pa) (j + 1) = ctS (stc pa) j + 1 := by rw [ct_s, if_pos c_21]
               have e8 : ctS (cK pa nP) (20 * (6 - s) + (j + 1)) = ctS (cK pa nP) (20 * (6 - s) + j) := by
                 rw [← Nat.add_assoc, ct_s, if_neg (by rw [cK_n (by omega) hs6, decide_eq_false hsj, Bool.and_false]; decide)]
               rw [← e9]
               refine ih (j + 1) a0 b0 r0 (by omega) hF ?_
               rw [e8]
               exact hB)
            | (rw [sd_st W hjp] at c_21
               have e9 : ctS (stc pa) (j + 1) = ctS (stc pa) j := by rw [ct_s, if_neg (by rw [c_21]; decide)]
               have e8 : ctS (cK pa nP) (20 * (6 - s) + (j + 1)) = ctS (cK pa nP) (20 * (6 - s) + j) := by
                 rw [← Nat.add_assoc, ct_s, if_neg (by rw [cK_n (by omega) hs6, c_21, Bool.and_false, Bool.false_and]; decide)]
               rw [← e9]
               refine ih (j + 1) a0 b0 r0 (by omega) hF ?_
               rw [e8]
               exact hB)
  refine g_iconst (v := 0) (q := 1) C dX3_addStranded_0 rfl (by decide) ?_
  refine g_istore_2 (q := 2) C dX3_addStranded_1 rfl (by rw [hN]; decide) rfl ?_
  refine g_iconst (v := 0) (q := 3) C dX3_addStranded_2 rfl (by decide) ?_
  refine g_istore_3 (q := 4) C dX3_addStranded_3 rfl (by rw [hN]; decide) rfl ?_
  exact lp nP 0 a b r (by omega) FS.rf hB

end X46
