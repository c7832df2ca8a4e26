section R31
variable {g : GM} {bs : Nat} {l : Launch} {ad : Nat → Nat} {dm : Nat → Bool} {a : Nat → Nat → Int32} {b : Nat → Nat → Int64} {r : Nat → Nat → Option Nat} {nF nP : Nat} {fl pa nu : Nat → Int32}
theorem rs_1 {f o : Int32} {i : Nat} (h : mgS pa f i = false) : rnO pa f o i = false := by rw [rnO, h]; rfl
theorem rs_2 {f o : Int32} {i : Nat} (h : o < pa (9 * i + 3)) : rnO pa f o i = false := by rw [rnO, decide_eq_false (Int32.not_le.mpr h), Bool.and_false]
theorem rs_3 {f o : Int32} {i : Nat} (h : mgS pa f i = true) (h2 : ¬ o < pa (9 * i + 3)) : rnO pa f o i = true := by rw [rnO, h, decide_eq_true (Int32.not_lt.mp h2)]; rfl
theorem rs_n {c : Nat → Bool} {i : Nat} (h : c i = false) : rnS pa c (i + 1) = rnS pa c i := by rw [rnS, if_neg (by rw [h]; decide)]
theorem rs_m1 {c : Nat → Bool} {i : Nat} (hi : i < 100) (h : enO (rnS pa c i) = -1) : rnS pa c i = none := by
  have hb := rnS_B (pa := pa) (c := c) (n := i)
  cases h9 : rnS pa c i with
  | none => rfl
  | some q =>
    rw [h9] at h hb
    have := hb.1
    exact absurd h (nI_m1 (by omega))
theorem rs_y {c : Nat → Bool} {i : Nat} (h : c i = true) (h2 : rnS pa c i = none) : nI i = enO (rnS pa c (i + 1)) := by
  rw [rnS, if_pos h, h2]
  rfl
theorem rs_ge {c : Nat → Bool} {i q : Nat} (h : c i = true) (h2 : rnS pa c i = some q) (h3 : pa (9 * q + 3) ≤ pa (9 * i + 3)) : nI q = enO (rnS pa c (i + 1)) := by
  rw [rnS, if_pos h, h2]
  dsimp only
  rw [if_neg (Int32.not_lt.mpr h3)]
  rfl
theorem rs_lt {c : Nat → Bool} {i q : Nat} (h : c i = true) (h2 : rnS pa c i = some q) (h3 : ¬ pa (9 * q + 3) ≤ pa (9 * i + 3)) : nI i = enO (rnS pa c (i + 1)) := by
  rw [rnS, if_pos h, h2]
  dsimp only
  rw [if_pos (Int32.not_le.mp h3)]
  rfl
set_option maxHeartbeats 4000000 in
set_option maxRecDepth 100000 in
theorem ro_scan {E : EN} (C : CX E cX4_rounds yX4_rounds.cls 3) (hN : eN E = 8) (I : IM dm a nF nP) {f : Nat} {v1 s1 ov sm : Int32} (hk : G E 0 0 ad dm a b r 204 [some (.ref (ad 100)), some (.int (nI f)), some (.int v1), some (.int s1), some (.int ov), some (.int sm), some (.int (enO (rnS (a 102) (rnO (a 102) (nI f) ov) nP))), some (.int (nI nP))] []) : ∀ (k i : Nat) (la : Int32), i + k = nP → la = enO (rnS (a 102) (rnO (a 102) (nI f) ov) i) → G E 0 0 ad dm a b r 140 [some (.ref (ad 100)), some (.int (nI f)), some (.int v1), some (.int s1), some (.int ov), some (.int sm), some (.int la), some (.int (nI i))] [] := by
  have hnF := I.2.2.1
  have hnP := I.2.2.2.2
  intro k
  induction k with
  | zero =>
    intro i la hi hla
    refine g_iload_7 (q := 142) C dX4_rounds_140 rfl ?_
    refine g_aload_0 (q := 143) C dX4_rounds_142 rfl ?_
    refine g_geti (q := 146) C f_X4_63 dX4_rounds_143 rfl rfl (IM.d I _ (by decide) (by decide)) ?_
    refine g_icmp_ge (tgt := 204) (q := 149) C dX4_rounds_146 rfl (by decide) (fun c_146 => ?_) (fun c_146 => absurd (by rw [I.nP]; exact nI_le (by omega) (by omega)) c_146)
    have e9 : i = nP := by omega
    subst e9
    rw [hla]
    exact hk
  | succ k ih =>
    intro i la hi hla
    have hip : i < nP := by omega
    refine g_iload_7 (q := 142) C dX4_rounds_140 rfl ?_
    refine g_aload_0 (q := 143) C dX4_rounds_142 rfl ?_
    refine g_geti (q := 146) C f_X4_63 dX4_rounds_143 rfl rfl (IM.d I _ (by decide) (by decide)) ?_
    refine g_icmp_ge (tgt := 204) (q := 149) C dX4_rounds_146 rfl (by decide) (fun c_146 => absurd c_146 (by rw [I.nP]; exact nI_ge (by omega) (by omega))) (fun c_146 => ?_)
    refine g_aload_0 (q := 150) C dX4_rounds_149 rfl ?_
    refine g_iload_7 (q := 152) C dX4_rounds_150 rfl ?_
    refine g_iload_1 (q := 153) C dX4_rounds_152 rfl ?_
    refine g_cv2i (q := 156) C cv_X4_99 dX4_rounds_153 rfl rfl (IM.d I _ (by decide) (by decide)) (m_X4_mayGive I hip rfl _) (by decide) (Nat.le_of_ble_eq_true rfl) ⟨Nat.zero_le _, Nat.zero_le _⟩ ?_
    refine g_ifeqb (tgt := 198) (q := 159) C dX4_rounds_156 rfl (by decide) (fun c_156 => ?_) (fun c_156 => ?_)
    · refine g_iinc_7 (v := nI (i + 1)) (q := 201) C dX4_rounds_198 rfl (by rw [hN]; decide) (nI_1 i) ?_
      refine g_goto (tgt := 140) C dX4_rounds_201 (by decide) ?_
      first
        | exact ih (i + 1) _ (by omega) (by rw [hla, rs_n (rs_1 c_156)])
        | exact ih (i + 1) _ (by omega) (by rw [hla, rs_n (rs_2 c_168)])
        | exact ih (i + 1) _ (by omega) (rs_y (rs_3 c_156 c_168) (rs_m1 (by omega) (by rw [← hla]; exact c_174)))
        | exact ih (i + 1) _ (by omega) (rs_ge (rs_3 c_156 c_168) eq9 c_191)
        | exact ih (i + 1) _ (by omega) (rs_lt (rs_3 c_156 c_168) eq9 c_191)
    · refine g_aload_0 (q := 160) C dX4_rounds_159 rfl ?_
      refine g_iload_7 (q := 162) C dX4_rounds_160 rfl ?_
      refine g_iconst (v := 3) (q := 163) C dX4_rounds_162 rfl (by decide) ?_
      refine g_cv2i (q := 166) C cv_X4_70 dX4_rounds_163 rfl rfl (IM.d I _ (by decide) (by decide)) (m_X4_get I (k := 3) (by omega) rfl rfl) (by decide) (Nat.le_of_ble_eq_true rfl) ⟨Nat.zero_le _, Nat.zero_le _⟩ ?_
      refine g_iload_4 (q := 168) C dX4_rounds_166 rfl ?_
      refine g_icmp_gt (tgt := 198) (q := 171) C dX4_rounds_168 rfl (by decide) (fun c_168 => ?_) (fun c_168 => ?_)
      · refine g_iinc_7 (v := nI (i + 1)) (q := 201) C dX4_rounds_198 rfl (by rw [hN]; decide) (nI_1 i) ?_
        refine g_goto (tgt := 140) C dX4_rounds_201 (by decide) ?_
        first
          | exact ih (i + 1) _ (by omega) (by rw [hla, rs_n (rs_1 c_156)])
          | exact ih (i + 1) _ (by omega) (by rw [hla, rs_n (rs_2 c_168)])
          | exact ih (i + 1) _ (by omega) (rs_y (rs_3 c_156 c_168) (rs_m1 (by omega) (by rw [← hla]; exact c_174)))
          | exact ih (i + 1) _ (by omega) (rs_ge (rs_3 c_156 c_168) eq9 c_191)
          | exact ih (i + 1) _ (by omega) (rs_lt (rs_3 c_156 c_168) eq9 c_191)
      · refine g_iload_6 (q := 173) C dX4_rounds_171 rfl ?_
        refine g_iconst (v := (-1)) (q := 174) C dX4_rounds_173 rfl (by decide) ?_
        refine g_icmp_eq (tgt := 194) (q := 177) C dX4_rounds_174 rfl (by decide) (fun c_174 => ?_) (fun c_174 => ?_)
        · refine g_iload_7 (q := 196) C dX4_rounds_194 rfl ?_
          refine g_istore_6 (q := 198) C dX4_rounds_196 rfl (by rw [hN]; decide) rfl ?_
          refine g_iinc_7 (v := nI (i + 1)) (q := 201) C dX4_rounds_198 rfl (by rw [hN]; decide) (nI_1 i) ?_
          refine g_goto (tgt := 140) C dX4_rounds_201 (by decide) ?_
          first
            | exact ih (i + 1) _ (by omega) (by rw [hla, rs_n (rs_1 c_156)])
            | exact ih (i + 1) _ (by omega) (by rw [hla, rs_n (rs_2 c_168)])
            | exact ih (i + 1) _ (by omega) (rs_y (rs_3 c_156 c_168) (rs_m1 (by omega) (by rw [← hla]; exact c_174)))
            | exact ih (i + 1) _ (by omega) (rs_ge (rs_3 c_156 c_168) eq9 c_191)
            | exact ih (i + 1) _ (by omega) (rs_lt (rs_3 c_156 c_168) eq9 c_191)
        · obtain ⟨q9, eq9⟩ : ∃ q9, rnS (a 102) (rnO (a 102) (nI f) ov) i = some q9 := by
            cases h9 : rnS (a 102) (rnO (a 102) (nI f) ov) i with
            | none => exact absurd (by rw [hla, h9]; rfl) c_174
            | some q9 => exact ⟨q9, rfl⟩
          have hb9 := rnS_B (pa := a 102) (c := rnO (a 102) (nI f) ov) (n := i)
          rw [eq9] at hb9
          have hq9 : q9 < i := hb9.1
          have hl9 : la = nI q9 := by rw [hla, eq9]; rfl
          subst hl9
          refine g_aload_0 (q := 178) C dX4_rounds_177 rfl ?_
          refine g_iload_7 (q := 180) C dX4_rounds_178 rfl ?_
          refine g_iconst (v := 3) (q := 181) C dX4_rounds_180 rfl (by decide) ?_
          refine g_cv2i (q := 184) C cv_X4_70 dX4_rounds_181 rfl rfl (IM.d I _ (by decide) (by decide)) (m_X4_get I (k := 3) (by omega) rfl rfl) (by decide) (Nat.le_of_ble_eq_true rfl) ⟨Nat.zero_le _, Nat.zero_le _⟩ ?_
          refine g_aload_0 (q := 185) C dX4_rounds_184 rfl ?_
          refine g_iload_6 (q := 187) C dX4_rounds_185 rfl ?_
          refine g_iconst (v := 3) (q := 188) C dX4_rounds_187 rfl (by decide) ?_
          refine g_cv2i (q := 191) C cv_X4_70 dX4_rounds_188 rfl rfl (IM.d I _ (by decide) (by decide)) (m_X4_get I (p := q9) (k := 3) (by omega) rfl rfl) (by decide) (Nat.le_of_ble_eq_true rfl) ⟨Nat.zero_le _, Nat.zero_le _⟩ ?_
          refine g_icmp_ge (tgt := 198) (q := 194) C dX4_rounds_191 rfl (by decide) (fun c_191 => ?_) (fun c_191 => ?_)
          · refine g_iinc_7 (v := nI (i + 1)) (q := 201) C dX4_rounds_198 rfl (by rw [hN]; decide) (nI_1 i) ?_
            refine g_goto (tgt := 140) C dX4_rounds_201 (by decide) ?_
            first
              | exact ih (i + 1) _ (by omega) (by rw [hla, rs_n (rs_1 c_156)])
              | exact ih (i + 1) _ (by omega) (by rw [hla, rs_n (rs_2 c_168)])
              | exact ih (i + 1) _ (by omega) (rs_y (rs_3 c_156 c_168) (rs_m1 (by omega) (by rw [← hla]; exact c_174)))
              | exact ih (i + 1) _ (by omega) (rs_ge (rs_3 c_156 c_168) eq9 c_191)
              | exact ih (i + 1) _ (by omega) (rs_lt (rs_3 c_156 c_168) eq9 c_191)
          · refine g_iload_7 (q := 196) C dX4_rounds_194 rfl ?_
            refine g_istore_6 (q := 198) C dX4_rounds_196 rfl (by rw [hN]; decide) rfl ?_
            refine g_iinc_7 (v := nI (i + 1)) (q := 201) C dX4_rounds_198 rfl (by rw [hN]; decide) (nI_1 i) ?_
            refine g_goto (tgt := 140) C dX4_rounds_201 (by decide) ?_
            first
              | exact ih (i + 1) _ (by omega) (by rw [hla, rs_n (rs_1 c_156)])
              | exact ih (i + 1) _ (by omega) (by rw [hla, rs_n (rs_2 c_168)])
              | exact ih (i + 1) _ (by omega) (rs_y (rs_3 c_156 c_168) (rs_m1 (by omega) (by rw [← hla]; exact c_174)))
              | exact ih (i + 1) _ (by omega) (rs_ge (rs_3 c_156 c_168) eq9 c_191)
              | exact ih (i + 1) _ (by omega) (rs_lt (rs_3 c_156 c_168) eq9 c_191)
set_option maxHeartbeats 4000000 in
set_option maxRecDepth 100000 in
theorem ro_sum {E : EN} (C : CX E cX4_rounds yX4_rounds.cls 3) (hN : eN E = 8) (I : IM dm a nF nP) {f : Nat} {v1 s1 ov : Int32} {e7 : Option Value} (hk : G E 0 0 ad dm a b r 113 [some (.ref (ad 100)), some (.int (nI f)), some (.int v1), some (.int s1), some (.int ov), some (.int (smS (a 102) (rnO (a 102) (nI f) ov) nP)), some (.int (nI nP)), e7] []) : ∀ (k i : Nat) (sm : Int32), i + k = nP → sm = smS (a 102) (rnO (a 102) (nI f) ov) i → G E 0 0 ad dm a b r 64 [some (.ref (ad 100)), some (.int (nI f)), some (.int v1), some (.int s1), some (.int ov), some (.int sm), some (.int (nI i)), e7] [] := by
  have hnF := I.2.2.1
  have hnP := I.2.2.2.2
  intro k
  induction k with
  | zero =>
    intro i sm hi hla
    refine g_iload_6 (q := 66) C dX4_rounds_64 rfl ?_
    refine g_aload_0 (q := 67) C dX4_rounds_66 rfl ?_
    refine g_geti (q := 70) C f_X4_63 dX4_rounds_67 rfl rfl (IM.d I _ (by decide) (by decide)) ?_
    refine g_icmp_ge (tgt := 113) (q := 73) C dX4_rounds_70 rfl (by decide) (fun c_70 => ?_) (fun c_70 => absurd (by rw [I.nP]; exact nI_le (by omega) (by omega)) c_70)
    have e9 : i = nP := by omega
    subst e9
    rw [hla]
    exact hk
  | succ k ih =>
    intro i sm hi hla
    have hip : i < nP := by omega
    refine g_iload_6 (q := 66) C dX4_rounds_64 rfl ?_
    refine g_aload_0 (q := 67) C dX4_rounds_66 rfl ?_
    refine g_geti (q := 70) C f_X4_63 dX4_rounds_67 rfl rfl (IM.d I _ (by decide) (by decide)) ?_
    refine g_icmp_ge (tgt := 113) (q := 73) C dX4_rounds_70 rfl (by decide) (fun c_70 => absurd c_70 (by rw [I.nP]; exact nI_ge (by omega) (by omega))) (fun c_70 => ?_)
    refine g_aload_0 (q := 74) C dX4_rounds_73 rfl ?_
    refine g_iload_6 (q := 76) C dX4_rounds_74 rfl ?_
    refine g_iload_1 (q := 77) C dX4_rounds_76 rfl ?_
    refine g_cv2i (q := 80) C cv_X4_99 dX4_rounds_77 rfl rfl (IM.d I _ (by decide) (by decide)) (m_X4_mayGive I hip rfl _) (by decide) (Nat.le_of_ble_eq_true rfl) ⟨Nat.zero_le _, Nat.zero_le _⟩ ?_
    refine g_ifeqb (tgt := 107) (q := 83) C dX4_rounds_80 rfl (by decide) (fun c_80 => ?_) (fun c_80 => ?_)
    · refine g_iinc_6 (v := nI (i + 1)) (q := 110) C dX4_rounds_107 rfl (by rw [hN]; decide) (nI_1 i) ?_
      refine g_goto (tgt := 64) C dX4_rounds_110 (by decide) ?_
      first
        | exact ih (i + 1) _ (by omega) (by rw [hla, smS, if_neg (by rw [rs_1 c_80]; decide)])
        | exact ih (i + 1) _ (by omega) (by rw [hla, smS, if_neg (by rw [rs_2 c_92]; decide)])
        | exact ih (i + 1) _ (by omega) (by rw [hla, smS, if_pos (rs_3 c_80 c_92)])
    · refine g_aload_0 (q := 84) C dX4_rounds_83 rfl ?_
      refine g_iload_6 (q := 86) C dX4_rounds_84 rfl ?_
      refine g_iconst (v := 3) (q := 87) C dX4_rounds_86 rfl (by decide) ?_
      refine g_cv2i (q := 90) C cv_X4_70 dX4_rounds_87 rfl rfl (IM.d I _ (by decide) (by decide)) (m_X4_get I (k := 3) (by omega) rfl rfl) (by decide) (Nat.le_of_ble_eq_true rfl) ⟨Nat.zero_le _, Nat.zero_le _⟩ ?_
      refine g_iload_4 (q := 92) C dX4_rounds_90 rfl ?_
      refine g_icmp_gt (tgt := 107) (q := 95) C dX4_rounds_92 rfl (by decide) (fun c_92 => ?_) (fun c_92 => ?_)
      · refine g_iinc_6 (v := nI (i + 1)) (q := 110) C dX4_rounds_107 rfl (by rw [hN]; decide) (nI_1 i) ?_
        refine g_goto (tgt := 64) C dX4_rounds_110 (by decide) ?_
        first
          | exact ih (i + 1) _ (by omega) (by rw [hla, smS, if_neg (by rw [rs_1 c_80]; decide)])
          | exact ih (i + 1) _ (by omega) (by rw [hla, smS, if_neg (by rw [rs_2 c_92]; decide)])
          | exact ih (i + 1) _ (by omega) (by rw [hla, smS, if_pos (rs_3 c_80 c_92)])
      · refine g_iload_5 (q := 97) C dX4_rounds_95 rfl ?_
        refine g_aload_0 (q := 98) C dX4_rounds_97 rfl ?_
        refine g_iload_6 (q := 100) C dX4_rounds_98 rfl ?_
        refine g_iconst (v := 1) (q := 101) C dX4_rounds_100 rfl (by decide) ?_
        refine g_cv2i (q := 104) C cv_X4_70 dX4_rounds_101 rfl rfl (IM.d I _ (by decide) (by decide)) (m_X4_get I (k := 1) (by omega) rfl rfl) (by decide) (Nat.le_of_ble_eq_true rfl) ⟨Nat.zero_le _, Nat.zero_le _⟩ ?_
        refine g_iadd (q := 105) C dX4_rounds_104 rfl ?_
        refine g_istore_5 (q := 107) C dX4_rounds_105 rfl (by rw [hN]; decide) rfl ?_
        refine g_iinc_6 (v := nI (i + 1)) (q := 110) C dX4_rounds_107 rfl (by rw [hN]; decide) (nI_1 i) ?_
        refine g_goto (tgt := 64) C dX4_rounds_110 (by decide) ?_
        first
          | exact ih (i + 1) _ (by omega) (by rw [hla, smS, if_neg (by rw [rs_1 c_80]; decide)])
          | exact ih (i + 1) _ (by omega) (by rw [hla, smS, if_neg (by rw [rs_2 c_92]; decide)])
          | exact ih (i + 1) _ (by omega) (by rw [hla, smS, if_pos (rs_3 c_80 c_92)])
set_option maxHeartbeats 4000000 in
set_option maxRecDepth 100000 in
theorem ro_while {a1 : Nat → Nat → Int32} {E : EN} (C : CX E cX4_rounds yX4_rounds.cls 3) (hN : eN E = 8) {P : PO} (RT9 : RT E 0 0 (some .int) P) (I1 : IM dm a1 nF nP) (W : WP nF nP (a1 102)) (F : WF nF (a1 101)) {f : Nat} (hf : f < nF) {v1 s1 sm : Int32} {o u ov : Nat} (ho : o ≤ 999) (hov9 : ov ≤ 120) (hb : hbN (a1 102) u nP ≤ o) (hP : P (some (.int (nI o))) ad dm (up1 a1 102 (byP u (fun _ => nI o) (a1 102) nP)) b r) : ∀ (n t pe : Nat) (e6 e7 : Option Value), rnJ (a1 102) nP (nI f) n t pe → rnL (a1 102) nP (nI f) ov n t pe = some u → ovN (a1 101) (byP t (fun _ => nI o) (a1 102) nP) nP f = ov - pe → G E 0 0 ad dm (up1 a1 102 (byP t (fun _ => nI o) (a1 102) nP)) b r 126 [some (.ref (ad 100)), some (.int (nI f)), some (.int v1), some (.int s1), some (.int (nI o)), some (.int sm), e6, e7] [] := by
  have hnF := I1.2.2.1
  have hnP := I1.2.2.2.2
  have ho20 : o < 2 ^ 20 := by omega
  have fin : ∀ (n t pe : Nat) (e6 e7 : Option Value), rnL (a1 102) nP (nI f) ov n t pe = some u → ¬ pe < ov → ovN (a1 101) (byP t (fun _ => nI o) (a1 102) nP) nP f = ov - pe → G E 0 0 ad dm (up1 a1 102 (byP t (fun _ => nI o) (a1 102) nP)) b r 126 [some (.ref (ad 100)), some (.int (nI f)), some (.int v1), some (.int s1), some (.int (nI o)), some (.int sm), e6, e7] [] := by
    intro n t pe e6 e7 hrn hpe hov0
    have I := I1.up (n := 102) (f := byP t (fun _ => nI o) (a1 102) nP) (by decide)
    have Wk : WP nF nP (byP t (fun _ => nI o) (a1 102) nP) := WP_by W hnF (fun _ _ _ => ⟨o, ho, rfl⟩) (Nat.le_refl _)
    have ht : t = u := by
      cases n with
      | zero => rw [rnL, if_neg hpe] at hrn; cases hrn; rfl
      | succ n => rw [rnL, if_neg hpe] at hrn; cases hrn; rfl
    subst ht
    have hovv : ovS (a1 101) (byP t (fun _ => nI o) (a1 102) nP) nP f = nI 0 := by rw [ovS_N Wk F hnP hf, hov0]; congr 1; omega
    refine g_aload_0 (q := 127) C dX4_rounds_126 rfl ?_
    refine g_iload_1 (q := 128) C dX4_rounds_127 rfl ?_
    refine g_cv1i (q := 131) C cv_X4_86 dX4_rounds_128 rfl rfl (IM.d I _ (by decide) (by decide)) (m_X4_over I hf rfl) (by decide) (Nat.le_of_ble_eq_true rfl) ⟨Nat.zero_le _, Nat.zero_le _⟩ ?_
    refine g_if_le (tgt := 215) (q := 134) C dX4_rounds_131 rfl (by decide) (fun c_131 => ?_) (fun c_131 => absurd (by rw [up1_s, up1_n (by decide), hovv]; exact nI_le (b := 0) (by omega) (by omega)) c_131)
    refine g_iload_4 (q := 217) C dX4_rounds_215 rfl ?_
    exact g_iret C RT9 dX4_rounds_217 hP
  intro n
  induction n with
  | zero =>
    intro t pe e6 e7 J hrn hov0
    refine fin 0 t pe _ _ hrn (fun h => ?_) hov0
    rw [rnL, if_pos h] at hrn
    cases hrn
  | succ n ih =>
    intro t pe e6 e7 J hrn hov0
    by_cases hpe : pe < ov
    · have I := I1.up (n := 102) (f := byP t (fun _ => nI o) (a1 102) nP) (by decide)
      have Wk : WP nF nP (byP t (fun _ => nI o) (a1 102) nP) := WP_by W hnF (fun _ _ _ => ⟨o, ho, rfl⟩) (Nat.le_refl _)
      have hovv : ovS (a1 101) (byP t (fun _ => nI o) (a1 102) nP) nP f = nI (ov - pe) := by rw [ovS_N Wk F hnP hf, hov0]
      rw [rnL, if_pos hpe] at hrn
      have hbs := rnS_B (pa := a1 102) (c := rnC (a1 102) (nI f) t) (n := nP)
      obtain ⟨q, eq⟩ : ∃ q, rnS (a1 102) (rnC (a1 102) (nI f) t) nP = some q := by
        cases h9 : rnS (a1 102) (rnC (a1 102) (nI f) t) nP with
        | none => rw [h9] at hrn; cases hrn
        | some q => exact ⟨q, rfl⟩
      rw [eq] at hrn hbs
      obtain ⟨hq, hrc, -⟩ := hbs
      dsimp only at hrn
      have hbq : bdN (a1 102) q ≤ o := Nat.le_trans (hbN_ge hq ((rnL_some W (rnJ_s J hq hrc) hrn).2.2.1 q (by rw [tb_or]; simp))) hb
      have hfly : flyc (byP t (fun _ => nI o) (a1 102) nP) (nI f) q = true := by
        have h9 := mg_by (pa := a1 102) (nP := nP) (t := t) (c := fun _ => nI o) (f := nI f) hq
        rw [hrc] at h9
        simp [mgS] at h9
        simp [flyc, h9]
      refine g_aload_0 (q := 127) C dX4_rounds_126 rfl ?_
      refine g_iload_1 (q := 128) C dX4_rounds_127 rfl ?_
      refine g_cv1i (q := 131) C cv_X4_86 dX4_rounds_128 rfl rfl (IM.d I _ (by decide) (by decide)) (m_X4_over I hf rfl) (by decide) (Nat.le_of_ble_eq_true rfl) ⟨Nat.zero_le _, Nat.zero_le _⟩ ?_
      refine g_if_le (tgt := 215) (q := 134) C dX4_rounds_131 rfl (by decide) (fun c_131 => absurd c_131 (by rw [up1_s, up1_n (by decide), hovv, show (0 : Int32) = nI 0 from rfl, nI_leI (b := 0) (by omega) (by omega)]; omega)) (fun c_131 => ?_)
      refine g_iconst (v := (-1)) (q := 135) C dX4_rounds_134 rfl (by decide) ?_
      refine g_istore_6 (q := 137) C dX4_rounds_135 rfl (by rw [hN]; decide) rfl ?_
      refine g_iconst (v := 0) (q := 138) C dX4_rounds_137 rfl (by decide) ?_
      refine g_istore_7 (q := 140) C dX4_rounds_138 rfl (by rw [hN]; decide) rfl ?_
      refine ro_scan C hN I ?_ nP 0 _ (by omega) rfl
      rw [up1_s, rn_scan W ho20 eq hbq]
      show G E 0 0 ad dm _ b r 204 [some (.ref (ad 100)), some (.int (nI f)), some (.int v1), some (.int s1), some (.int (nI o)), some (.int sm), some (.int (nI q)), some (.int (nI nP))] []
      refine g_aload_0 (q := 205) C dX4_rounds_204 rfl ?_
      refine g_iload_6 (q := 207) C dX4_rounds_205 rfl ?_
      refine g_iload_4 (q := 209) C dX4_rounds_207 rfl ?_
      refine g_cv2v (q := 212) C cv_X4_110 dX4_rounds_209 rfl rfl (IM.d I _ (by decide) (by decide)) (m_X4_give I hq rfl _) (by decide) (Nat.le_of_ble_eq_true rfl) ⟨Nat.zero_le _, Nat.zero_le _⟩ ?_
      refine g_goto (tgt := 126) C dX4_rounds_212 (by decide) ?_
      rw [up1_s, up1_up, byP_or (c := fun _ => nI o) hq]
      refine ih (t ||| 2 ^ q) (pe + szN (a1 102) q) _ _ (rnJ_s J hq hrc) hrn ?_ 
      rw [← byP_or (c := fun _ => nI o) hq, ov_rm Wk hq (by omega) (by decide) hfly, hov0, byP_lo (k := 1) (by decide)]
      unfold szN
      omega
    · exact fin (n + 1) t pe _ _ hrn hpe hov0
set_option maxHeartbeats 4000000 in
set_option maxRecDepth 100000 in
theorem ro_off {a1 : Nat → Nat → Int32} {E : EN} (C : CX E cX4_rounds yX4_rounds.cls 3) (hN : eN E = 8) {P : PO} (RT9 : RT E 0 0 (some .int) P) (I : IM dm a1 nF nP) (W : WP nF nP (a1 102)) (F : WF nF (a1 101)) {f v s : Nat} (hf : f < nF) (hs : 1 ≤ s) (hs9 : s ≤ 999) (hPs : ∀ w, roK (a1 102) nP (nI f) (ovN (a1 101) (a1 102) nP f) v s = some w → P (some (.int (nI w.2))) ad dm (up1 a1 102 (byP w.1 (fun _ => nI w.2) (a1 102) nP)) b r) (hPn : roK (a1 102) nP (nI f) (ovN (a1 101) (a1 102) nP f) v s = none → P (some (.int (-2))) ad dm a1 b r) : ∀ (n o : Nat) (e5 e6 e7 : Option Value), 1000 ≤ n + o → o ≤ 2000 → rnF (fun o => decide (ovN (a1 101) (a1 102) nP f ≤ sN (a1 102) (rnO (a1 102) (nI f) (nI o)) nP)) s n o = (roK (a1 102) nP (nI f) (ovN (a1 101) (a1 102) nP f) v s).map (·.2) → G E 0 0 ad dm a1 b r 50 [some (.ref (ad 100)), some (.int (nI f)), some (.int (nI v)), some (.int (nI s)), some (.int (nI o)), e5, e6, e7] [] := by
  have hnF := I.2.2.1
  have hnP := I.2.2.2.2
  have hovl := ovN_le (fl := a1 101) W (f := f)
  have hnone : (roK (a1 102) nP (nI f) (ovN (a1 101) (a1 102) nP f) v s).map (·.2) = none → roK (a1 102) nP (nI f) (ovN (a1 101) (a1 102) nP f) v s = none := fun h => by
    cases h9 : roK (a1 102) nP (nI f) (ovN (a1 101) (a1 102) nP f) v s with
    | none => rfl
    | some w => rw [h9] at h; cases h
  intro n
  induction n with
  | zero =>
    intro o e5 e6 e7 hno ho2 hF
    have hF9 := hnone hF.symm
    refine g_iload_4 (q := 52) C dX4_rounds_50 rfl ?_
    refine g_sipush (v := 999) (q := 55) C dX4_rounds_52 rfl (by decide) ?_
    refine g_icmp_gt (tgt := 227) (q := 58) C dX4_rounds_55 rfl (by decide) (fun c_55 => ?_) (fun c_55 => absurd (show (999 : Int32) < nI o by rw [show (999 : Int32) = nI 999 from rfl, nI_ltI (by omega) (by omega)]; omega) c_55)
    refine g_bipush (v := (-2)) (q := 229) C dX4_rounds_227 rfl (by decide) ?_
    exact g_iret C RT9 dX4_rounds_229 (hPn hF9)
  | succ n ih =>
    intro o e5 e6 e7 hno ho2 hF
    have hsm := fun o : Nat => sN_le W (rnO (a1 102) (nI f) (nI o)) (Nat.le_refl nP)
    have hsmo := hsm o
    unfold rnF at hF
    by_cases ho : o ≤ 999
    · rw [if_pos ho] at hF
      refine g_iload_4 (q := 52) C dX4_rounds_50 rfl ?_
      refine g_sipush (v := 999) (q := 55) C dX4_rounds_52 rfl (by decide) ?_
      refine g_icmp_gt (tgt := 227) (q := 58) C dX4_rounds_55 rfl (by decide) (fun c_55 => absurd c_55 (Int32.not_lt.mpr (by rw [show (999 : Int32) = nI 999 from rfl, nI_leI (by omega) (by omega)]; omega))) (fun c_55 => ?_)
      refine g_iconst (v := 0) (q := 59) C dX4_rounds_58 rfl (by decide) ?_
      refine g_istore_5 (q := 61) C dX4_rounds_59 rfl (by rw [hN]; decide) rfl ?_
      refine g_iconst (v := 0) (q := 62) C dX4_rounds_61 rfl (by decide) ?_
      refine g_istore_6 (q := 64) C dX4_rounds_62 rfl (by rw [hN]; decide) rfl ?_
      refine ro_sum C hN I ?_ nP 0 _ (by omega) rfl
      rw [smS_N W _ (Nat.le_refl nP)]
      refine g_iload_5 (q := 115) C dX4_rounds_113 rfl ?_
      refine g_aload_0 (q := 116) C dX4_rounds_115 rfl ?_
      refine g_iload_1 (q := 117) C dX4_rounds_116 rfl ?_
      refine g_cv1i (q := 120) C cv_X4_86 dX4_rounds_117 rfl rfl (IM.d I _ (by decide) (by decide)) (m_X4_over I hf rfl) (by decide) (Nat.le_of_ble_eq_true rfl) ⟨Nat.zero_le _, Nat.zero_le _⟩ ?_
      refine g_icmp_ge (tgt := 126) (q := 123) C dX4_rounds_120 rfl (by decide) (fun c_120 => ?_) (fun c_120 => ?_)
      · rw [ovS_N W F hnP hf, nI_leI (by omega) (by omega)] at c_120
        rw [if_pos (decide_eq_true c_120)] at hF
        obtain ⟨w, ew, hw⟩ : ∃ w, roK (a1 102) nP (nI f) (ovN (a1 101) (a1 102) nP f) v s = some w ∧ w.2 = o := by
          cases h9 : roK (a1 102) nP (nI f) (ovN (a1 101) (a1 102) nP f) v s with
          | none => rw [h9] at hF; cases hF
          | some w => rw [h9] at hF; exact ⟨w, rfl, by cases hF; rfl⟩
        have hP := hPs w ew
        rw [hw] at hP
        obtain ⟨u, hu, hw1⟩ : ∃ u, rnL (a1 102) nP (nI f) (ovN (a1 101) (a1 102) nP f) nP 0 0 = some u ∧ w.1 = u := by
          unfold roK at ew
          cases h9 : rnL (a1 102) nP (nI f) (ovN (a1 101) (a1 102) nP f) nP 0 0 with
          | none => rw [h9] at ew; cases ew
          | some u =>
            rw [h9] at ew
            dsimp only at ew
            split at ew
            · cases ew; exact ⟨u, rfl, rfl⟩
            · cases ew
        rw [hw1] at hP
        have h9 := ro_while (e6 := some (.int (nI nP))) C hN RT9 I W F hf (v1 := nI v) (s1 := nI s) (sm := nI (sN (a1 102) (rnO (a1 102) (nI f) (nI o)) nP)) (o := o) (u := u) (ov := ovN (a1 101) (a1 102) nP f) (by omega) (by omega) ((rn_ok W (by omega) hu).mp c_120) hP nP 0 0 e7 rnJ_0 hu (by rw [by_0]; rfl)
        rw [by_0, up1_id] at h9
        exact h9
      · refine g_goto (tgt := 218) C dX4_rounds_123 (by decide) ?_
        refine g_iload_4 (q := 220) C dX4_rounds_218 rfl ?_
        refine g_iload_3 (q := 221) C dX4_rounds_220 rfl ?_
        refine g_iadd (q := 222) C dX4_rounds_221 rfl ?_
        refine g_istore_4 (q := 224) C dX4_rounds_222 rfl (by rw [hN]; decide) rfl ?_
        refine g_goto (tgt := 50) C dX4_rounds_224 (by decide) ?_
        rw [ovS_N W F hnP hf, nI_leI (by omega) (by omega)] at c_120
        rw [if_neg (by rw [decide_eq_true_eq]; exact c_120)] at hF
        rw [nI_add]
        exact ih (o + s) _ _ _ (by omega) (by omega) hF
    · rw [if_neg ho] at hF
      have hF9 := hnone hF.symm
      refine g_iload_4 (q := 52) C dX4_rounds_50 rfl ?_
      refine g_sipush (v := 999) (q := 55) C dX4_rounds_52 rfl (by decide) ?_
      refine g_icmp_gt (tgt := 227) (q := 58) C dX4_rounds_55 rfl (by decide) (fun c_55 => ?_) (fun c_55 => absurd (show (999 : Int32) < nI o by rw [show (999 : Int32) = nI 999 from rfl, nI_ltI (by omega) (by omega)]; omega) c_55)
      refine g_bipush (v := (-2)) (q := 229) C dX4_rounds_227 rfl (by decide) ?_
      exact g_iret C RT9 dX4_rounds_229 (hPn hF9)
set_option maxHeartbeats 4000000 in
set_option maxRecDepth 100000 in
theorem m_X4_rounds (I : IM dm a nF nP) {a1 : Nat → Nat → Int32} (ha : a1 = u2 a 100 5 0) (W : WP nF nP (a1 102)) (F : WF nF (a1 101)) (f1 v1 s1 : Int32) : MT g bs l yX4_rounds cX4_rounds 8 (some .int) 3 0 0 [.ref (ad 100), .int f1, .int v1, .int s1] ad dm a b r (fun v ad0 dm0 a0 b0 r0 => ad0 = ad ∧ dm0 = dm ∧ b0 = b ∧ r0 = r ∧ a0 = up1 a1 102 (roP (a1 101) (a1 102) nF nP f1 v1 s1) ∧ v = some (.int (roV (a1 101) (a1 102) nF nP f1 v1 s1))) := by
  refine mt_of (by decide) [some (.ref (ad 100)), some (.int f1), some (.int v1), some (.int s1), none, none, none, none] rfl (Nat.le_of_ble_eq_true rfl) ?_
  intro E hg hbs hl hN C RT9 hcells hslots hname
  have hnF := I.2.2.1
  have hnP := I.2.2.2.2
  refine g_aload_0 (q := 1) C dX4_rounds_0 rfl ?_
  refine g_iconst (v := 0) (q := 2) C dX4_rounds_1 rfl (by decide) ?_
  refine g_puti (q := 5) C p_X4_52 dX4_rounds_2 rfl rfl (IM.d I _ (by decide) (by decide)) rfl rfl ?_
  rw [← ha]
  have I : IM dm a1 nF nP := by rw [ha]; exact I.th
  refine g_aload_0 (q := 6) C dX4_rounds_5 rfl ?_
  refine g_iload_1 (q := 7) C dX4_rounds_6 rfl ?_
  refine g_cv1i (q := 10) C cv_X4_66 dX4_rounds_7 rfl rfl (IM.d I _ (by decide) (by decide)) (m_X4_isFlight I _) (by decide) (Nat.le_of_ble_eq_true rfl) ⟨Nat.zero_le _, Nat.zero_le _⟩ ?_
  refine g_ifeqb (tgt := 35) (q := 13) C dX4_rounds_10 rfl (by decide) (fun c_10 => ?_) (fun c_10 => ?_)
  · refine g_iconst (v := (-1)) (q := 36) C dX4_rounds_35 rfl (by decide) ?_
    exact g_iret C RT9 dX4_rounds_36 ⟨rfl, rfl, rfl, rfl, by rw [roP, if_neg (by first | (simp [c_10]; done) | (simp [c_21]; done) | (simp [c_32]; done)), up1_id], by rw [roV, if_neg (by first | (simp [c_10]; done) | (simp [c_21]; done) | (simp [c_32]; done))]⟩
  · obtain ⟨f, hf, rfl⟩ := fok_t c_10 (by omega)
    refine g_iload_2 (q := 14) C dX4_rounds_13 rfl ?_
    refine g_iconst (v := 0) (q := 15) C dX4_rounds_14 rfl (by decide) ?_
    refine g_sipush (v := 999) (q := 18) C dX4_rounds_15 rfl (by decide) ?_
    refine g_cs3i (q := 21) C cs_X4_59 dX4_rounds_18 rfl (m_X4_in _ _ _) (by decide) (Nat.le_of_ble_eq_true rfl) ⟨Nat.zero_le _, Nat.zero_le _⟩ ?_
    refine g_ifeqb (tgt := 35) (q := 24) C dX4_rounds_21 rfl (by decide) (fun c_21 => ?_) (fun c_21 => ?_)
    · refine g_iconst (v := (-1)) (q := 36) C dX4_rounds_35 rfl (by decide) ?_
      exact g_iret C RT9 dX4_rounds_36 ⟨rfl, rfl, rfl, rfl, by rw [roP, if_neg (by first | (simp [c_10]; done) | (simp [c_21]; done) | (simp [c_32]; done)), up1_id], by rw [roV, if_neg (by first | (simp [c_10]; done) | (simp [c_21]; done) | (simp [c_32]; done))]⟩
    · refine g_iload_3 (q := 25) C dX4_rounds_24 rfl ?_
      refine g_iconst (v := 1) (q := 26) C dX4_rounds_25 rfl (by decide) ?_
      refine g_sipush (v := 999) (q := 29) C dX4_rounds_26 rfl (by decide) ?_
      refine g_cs3i (q := 32) C cs_X4_59 dX4_rounds_29 rfl (m_X4_in _ _ _) (by decide) (Nat.le_of_ble_eq_true rfl) ⟨Nat.zero_le _, Nat.zero_le _⟩ ?_
      refine g_ifneb (tgt := 37) (q := 35) C dX4_rounds_32 rfl (by decide) (fun c_32 => ?_) (fun c_32 => ?_)
      · have hC : (fok nF (nI f) && inR v1 0 999 && inR s1 1 999) = true := by rw [c_10, c_21, c_32]; rfl
        refine g_aload_0 (q := 38) C dX4_rounds_37 rfl ?_
        refine g_iload_1 (q := 39) C dX4_rounds_38 rfl ?_
        refine g_cv1i (q := 42) C cv_X4_86 dX4_rounds_39 rfl rfl (IM.d I _ (by decide) (by decide)) (m_X4_over I hf rfl) (by decide) (Nat.le_of_ble_eq_true rfl) ⟨Nat.zero_le _, Nat.zero_le _⟩ ?_
        refine g_if_ne (tgt := 47) (q := 45) C dX4_rounds_42 rfl (by decide) (fun c_42 => ?_) (fun c_42 => ?_)
        · refine g_iload_2 (q := 48) C dX4_rounds_47 rfl ?_
          refine g_istore_4 (q := 50) C dX4_rounds_48 rfl (by rw [hN]; decide) rfl ?_
          obtain ⟨v1a, v1b⟩ := inR_t c_21
          obtain ⟨s1a, s1b⟩ := inR_t c_32
          obtain ⟨v, hv, rfl⟩ := nI_of (x := v1) (Int32.not_lt.mpr v1a)
          obtain ⟨s, hs, rfl⟩ := nI_of (x := s1) (by rw [i_lt]; rw [i_le] at s1a; have : (1 : Int32).toInt = 1 := rfl; have : (0 : Int32).toInt = 0 := rfl; omega)
          rw [show (999 : Int32) = nI 999 from rfl, nI_leI (by omega) (by omega)] at v1b s1b
          rw [show (1 : Int32) = nI 1 from rfl, nI_leI (by omega) (by omega)] at s1a
          refine ro_off C hN RT9 I W F hf s1a s1b (fun w ew => ⟨rfl, rfl, rfl, rfl, ?_, ?_⟩) (fun ew => ⟨rfl, rfl, rfl, rfl, ?_, ?_⟩) 1000 v none none none (by omega) (by omega) (rnF_eq W s1a v1b)
          · rw [roP, if_pos hC, cN_nI (by omega), if_neg c_42, cN_nI (by omega), cN_nI (by omega), ew]
          · rw [roV, if_pos hC, cN_nI (by omega), if_neg c_42, cN_nI (by omega), cN_nI (by omega), ew]
          · rw [roP, if_pos hC, cN_nI (by omega), if_neg c_42, cN_nI (by omega), cN_nI (by omega), ew]; dsimp only; rw [up1_id]
          · rw [roV, if_pos hC, cN_nI (by omega), if_neg c_42, cN_nI (by omega), cN_nI (by omega), ew]
        · refine g_iload_2 (q := 46) C dX4_rounds_45 rfl ?_
          exact g_iret C RT9 dX4_rounds_46 ⟨rfl, rfl, rfl, rfl, by rw [roP, if_pos hC, cN_nI (by omega), if_pos c_42, up1_id], by rw [roV, if_pos hC, cN_nI (by omega), if_pos c_42]⟩
      · refine g_iconst (v := (-1)) (q := 36) C dX4_rounds_35 rfl (by decide) ?_
        exact g_iret C RT9 dX4_rounds_36 ⟨rfl, rfl, rfl, rfl, by rw [roP, if_neg (by first | (simp [c_10]; done) | (simp [c_21]; done) | (simp [c_32]; done)), up1_id], by rw [roV, if_neg (by first | (simp [c_10]; done) | (simp [c_21]; done) | (simp [c_32]; done))]⟩

end R31
