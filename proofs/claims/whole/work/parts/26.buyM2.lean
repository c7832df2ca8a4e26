section D26
variable {g : GM} {bs : Nat} {l : Launch} {ad : Nat → Nat} {dm : Nat → Bool} {a : Nat → Nat → Int32} {b : Nat → Nat → Int64} {r : Nat → Nat → Option Nat} {nF nP : Nat} {fl pa nu : Nat → Int32}
set_option maxHeartbeats 4000000 in
set_option maxRecDepth 100000 in
theorem m_X4_findBest (I : IM dm a nF nP) (W : WP nF nP (a 102)) (F : WF nF (a 101)) {f : Nat} (hf : f < nF) {x : Int32} (hx : x = nI f) : MT g bs l yX4_findBest cX4_findBest 7 (some .int) 3 0 0 [.ref (ad 100), .int x] ad dm a b r (fun v ad0 dm0 a0 b0 r0 => ad0 = ad ∧ dm0 = dm ∧ b0 = b ∧ r0 = r ∧ (∀ n, n ≠ 104 → n ≠ 105 → a0 n = a n) ∧ (∀ k, k < 121 → rpM (a0 104) (a0 105) k (DP (a 102) (nI f) nP k)) ∧ v = some (.int (enB (bsD (DP (a 102) (nI f) nP) (ovN (a 101) (a 102) nP f) (121 - ovN (a 101) (a 102) nP f))))) := by
  refine mt_of (by decide) [some (.ref (ad 100)), some (.int x), none, none, none, none, none] rfl (Nat.le_of_ble_eq_true rfl) ?_
  intro E hg hbs hl hN C RT9 hcells hslots hname
  have hnF := I.2.2.1
  have hnP := I.2.2.2.2
  subst hx
  have I0 := I
  have li : ∀ (n s : Nat) (a0 : Nat → Nat → Int32), s + n = 121 → (∀ n, n ≠ 104 → n ≠ 105 → a0 n = a n) → (∀ k, k < s → rpM (a0 104) (a0 105) k (DP (a 102) (nI f) 0 k)) → G E 0 0 ad dm a0 b r 2 [some (.ref (ad 100)), some (.int (nI f)), some (.int (nI s)), none, none, none, none] [] := by
    intro n
    induction n with
    | zero =>
      intro s a0 hn hfr hr
      have I := I0.fr hfr
      refine g_iload_2 (q := 3) C dX4_findBest_2 rfl ?_
      refine g_bipush (v := 121) (q := 5) C dX4_findBest_3 rfl (by decide) ?_
      refine g_icmp_ge (tgt := 37) (q := 8) C dX4_findBest_5 rfl (by decide) (fun c_5 => ?_) (fun c_5 => absurd (nI_le (a := 121) (by omega) (by omega)) c_5)
      refine g_iconst (v := 0) (q := 38) C dX4_findBest_37 rfl (by decide) ?_
      refine g_istore_2 (q := 39) C dX4_findBest_38 rfl (by rw [hN]; decide) rfl ?_
      exact fb_outer C hN RT9 I0 W F rfl hf rfl (fun a2 h1 h2 => ⟨rfl, rfl, rfl, rfl, h1, h2, rfl⟩) nP 0 a0 none none none none (by omega) hfr (fun k hk9 => hr k (by omega))
    | succ n ih =>
      intro s a0 hn hfr hr
      have I := I0.fr hfr
      refine g_iload_2 (q := 3) C dX4_findBest_2 rfl ?_
      refine g_bipush (v := 121) (q := 5) C dX4_findBest_3 rfl (by decide) ?_
      refine g_icmp_ge (tgt := 37) (q := 8) C dX4_findBest_5 rfl (by decide) (fun c_5 => absurd c_5 (nI_ge (b := 121) (by omega) (by omega))) (fun c_5 => ?_)
      refine g_aload_0 (q := 9) C dX4_findBest_8 rfl ?_
      refine g_getc (q := 12) (m := 104) C f_X4_19 dX4_findBest_9 rfl rfl (IM.d I _ (by decide) (by decide)) ?_
      refine g_iload_2 (q := 13) C dX4_findBest_12 rfl ?_
      refine g_iload_2 (q := 14) C dX4_findBest_13 rfl ?_
      refine g_if_ne (tgt := 21) (q := 17) C dX4_findBest_14 rfl (by decide) (fun c_14 => ?_) (fun c_14 => ?_)
      · refine g_ldc (q := 23) C dX4_findBest_21 rfl k_X4_98 ?_
        refine g_iast (q := 24) C dX4_findBest_23 rfl rfl (IM.d I _ (by decide) (by decide)) rfl (by omega) (by decide) ?_
        have I := I.u (n := 104) (k := s) (x := 268435456) (by decide)
        refine g_aload_0 (q := 25) C dX4_findBest_24 rfl ?_
        refine g_getc (q := 28) (m := 105) C f_X4_22 dX4_findBest_25 rfl rfl (IM.d I _ (by decide) (by decide)) ?_
        refine g_iload_2 (q := 29) C dX4_findBest_28 rfl ?_
        refine g_iconst (v := 0) (q := 30) C dX4_findBest_29 rfl (by decide) ?_
        refine g_iast (q := 31) C dX4_findBest_30 rfl rfl (IM.d I _ (by decide) (by decide)) rfl (by omega) (by decide) ?_
        refine g_iinc_2 (v := nI (s + 1)) (q := 34) C dX4_findBest_31 rfl (by rw [hN]; decide) (nI_1 s) ?_
        refine g_goto (tgt := 2) C dX4_findBest_34 (by decide) ?_
        first
          | (have e9 : s = 0 := (nI_eq (b := 0) (by omega) (by omega)).mp c_14
             exact ih (s + 1) _ (by omega) (u2_fr (u2_fr hfr (Or.inl rfl)) (Or.inr rfl)) (fun k hk9 => by
               by_cases h : k = s
               · subst h; subst e9; exact ⟨by rw [u2_n (by decide), u2_s]; rfl, by rw [u2_s]; rfl⟩
               · exact rp_o (hr k (by omega)) h))
          | exact ih (s + 1) _ (by omega) (u2_fr (u2_fr hfr (Or.inl rfl)) (Or.inr rfl)) (fun k hk9 => by
               by_cases h : k = s
               · subst h; rw [DP, if_neg (fun z => c_14 (by rw [z]; rfl))]; exact ⟨by rw [u2_n (by decide), u2_s], by rw [u2_s]⟩
               · exact rp_o (hr k (by omega)) h)
      · refine g_iconst (v := 0) (q := 18) C dX4_findBest_17 rfl (by decide) ?_
        refine g_goto (tgt := 23) C dX4_findBest_18 (by decide) ?_
        refine g_iast (q := 24) C dX4_findBest_23 rfl rfl (IM.d I _ (by decide) (by decide)) rfl (by omega) (by decide) ?_
        have I := I.u (n := 104) (k := s) (x := 0) (by decide)
        refine g_aload_0 (q := 25) C dX4_findBest_24 rfl ?_
        refine g_getc (q := 28) (m := 105) C f_X4_22 dX4_findBest_25 rfl rfl (IM.d I _ (by decide) (by decide)) ?_
        refine g_iload_2 (q := 29) C dX4_findBest_28 rfl ?_
        refine g_iconst (v := 0) (q := 30) C dX4_findBest_29 rfl (by decide) ?_
        refine g_iast (q := 31) C dX4_findBest_30 rfl rfl (IM.d I _ (by decide) (by decide)) rfl (by omega) (by decide) ?_
        refine g_iinc_2 (v := nI (s + 1)) (q := 34) C dX4_findBest_31 rfl (by rw [hN]; decide) (nI_1 s) ?_
        refine g_goto (tgt := 2) C dX4_findBest_34 (by decide) ?_
        first
          | (have e9 : s = 0 := (nI_eq (b := 0) (by omega) (by omega)).mp c_14
             exact ih (s + 1) _ (by omega) (u2_fr (u2_fr hfr (Or.inl rfl)) (Or.inr rfl)) (fun k hk9 => by
               by_cases h : k = s
               · subst h; subst e9; exact ⟨by rw [u2_n (by decide), u2_s]; rfl, by rw [u2_s]; rfl⟩
               · exact rp_o (hr k (by omega)) h))
          | exact ih (s + 1) _ (by omega) (u2_fr (u2_fr hfr (Or.inl rfl)) (Or.inr rfl)) (fun k hk9 => by
               by_cases h : k = s
               · subst h; rw [DP, if_neg (fun z => c_14 (by rw [z]; rfl))]; exact ⟨by rw [u2_n (by decide), u2_s], by rw [u2_s]⟩
               · exact rp_o (hr k (by omega)) h)
  refine g_iconst (v := 0) (q := 1) C dX4_findBest_0 rfl (by decide) ?_
  refine g_istore_2 (q := 2) C dX4_findBest_1 rfl (by rw [hN]; decide) rfl ?_
  exact li 121 0 a (by omega) (fun _ _ _ => rfl) (fun k hk => by omega)

/-- the cheapest set: its cost, its bits -/
def cbS (fl pa : Nat → Int32) (nP f : Nat) : Option (Nat × (Nat × Nat)) := bsD (DP pa (nI f) nP) (ovN fl pa nP f) (121 - ovN fl pa nP f)
def csV (fl pa : Nat → Int32) (nF nP : Nat) (f1 : Int32) : Int32 := if fok nF f1 = true then (match cbS fl pa nP (cN f1) with
  | none => -2
  | some w => nI w.2.1) else -1
theorem cb_in (W : WP nF nP pa) (hn : nP ≤ 20) {f : Nat} {w} (h : cbS fl pa nP f = some w) : DP pa (nI f) nP w.1 = some w.2 ∧ w.1 < 121 ∧ w.2.1 < 200000 ∧ w.2.2 < 2 ^ 20 := by
  obtain ⟨h1, h2, h3⟩ := bsD_in h
  have h4 := DP_ok W hn (nI f) (Nat.le_refl nP) w.1 w.2 h1
  exact ⟨h1, by have := ovN_le (fl := fl) W (f := f); omega, h4⟩
theorem cb_m1 (W : WP nF nP pa) (hn : nP ≤ 20) {f : Nat} (h : enB (cbS fl pa nP f) = -1) : cbS fl pa nP f = none := by
  cases h9 : cbS fl pa nP f with
  | none => rfl
  | some w =>
    rw [h9] at h
    exact absurd h (nI_m1 (show w.1 < 2 ^ 31 by have := (cb_in W hn h9).2.1; omega))
theorem cb_s (W : WP nF nP pa) {f : Nat} (h : ¬ enB (cbS fl pa nP f) = -1) : ∃ w, cbS fl pa nP f = some w := by
  cases h9 : cbS fl pa nP f with
  | none => exact absurd (by rw [h9]; rfl) h
  | some w => exact ⟨w, rfl⟩
set_option maxHeartbeats 4000000 in
set_option maxRecDepth 100000 in
theorem m_X4_cost (I : IM dm a nF nP) {a1 : Nat → Nat → Int32} (ha : a1 = u2 a 100 5 0) (W : WP nF nP (a1 102)) (F : WF nF (a1 101)) (f1 : Int32) : MT g bs l yX4_cost cX4_cost 3 (some .int) 4 0 0 [.ref (ad 100), .int f1] ad dm a b r (fun v ad0 dm0 a0 b0 r0 => ad0 = ad ∧ dm0 = dm ∧ b0 = b ∧ r0 = r ∧ (∀ n, n ≠ 104 → n ≠ 105 → a0 n = a1 n) ∧ v = some (.int (csV (a1 101) (a1 102) nF nP f1))) := by
  refine mt_of (by decide) [some (.ref (ad 100)), some (.int f1), none] rfl (Nat.le_of_ble_eq_true rfl) ?_
  intro E hg hbs hl hN C RT9 hcells hslots hname
  have hnF := I.2.2.1
  have hnP := I.2.2.2.2
  refine g_aload_0 (q := 1) C dX4_cost_0 rfl ?_
  refine g_iconst (v := 0) (q := 2) C dX4_cost_1 rfl (by decide) ?_
  refine g_puti (q := 5) C p_X4_52 dX4_cost_2 rfl rfl (IM.d I _ (by decide) (by decide)) rfl rfl ?_
  rw [← ha]
  have I : IM dm a1 nF nP := by rw [ha]; exact I.th
  refine g_aload_0 (q := 6) C dX4_cost_5 rfl ?_
  refine g_iload_1 (q := 7) C dX4_cost_6 rfl ?_
  refine g_cv1i (q := 10) C cv_X4_66 dX4_cost_7 rfl rfl (IM.d I _ (by decide) (by decide)) (m_X4_isFlight I _) (by decide) (Nat.le_of_ble_eq_true rfl) ⟨Nat.zero_le _, Nat.zero_le _⟩ ?_
  refine g_ifneb (tgt := 15) (q := 13) C dX4_cost_10 rfl (by decide) (fun c_10 => ?_) (fun c_10 => ?_)
  · obtain ⟨f, hf, rfl⟩ := fok_t c_10 (by omega)
    refine g_aload_0 (q := 16) C dX4_cost_15 rfl ?_
    refine g_iload_1 (q := 17) C dX4_cost_16 rfl ?_
    refine g_cv1g (q := 20) C cv_X4_103 dX4_cost_17 rfl rfl (IM.d I _ (by decide) (by decide)) (m_X4_findBest I W F hf rfl) (by decide) (Nat.le_of_ble_eq_true rfl) ⟨Nat.zero_le _, Nat.zero_le _⟩ (fun v ad' dm' a' b' r' hp => ?_)
    obtain ⟨rfl, rfl, rfl, rfl, hfr, hr9, rfl⟩ := hp
    change G E 0 0 _ _ a' _ _ 20 _ [.int (enB (cbS (a1 101) (a1 102) nP f))]
    have I := I.fr hfr
    refine g_istore_2 (q := 21) C dX4_cost_20 rfl (by rw [hN]; decide) rfl ?_
    refine g_iload_2 (q := 22) C dX4_cost_21 rfl ?_
    refine g_iconst (v := (-1)) (q := 23) C dX4_cost_22 rfl (by decide) ?_
    refine g_icmp_ne (tgt := 31) (q := 26) C dX4_cost_23 rfl (by decide) (fun c_23 => ?_) (fun c_23 => ?_)
    · obtain ⟨w, ew⟩ := cb_s W c_23
      obtain ⟨w1, w2, w3, w4⟩ := cb_in W hnP ew
      have hw := hr9 w.1 w2
      rw [w1] at hw
      rw [ew]
      show G E 0 0 _ _ _ _ _ 31 [some (.ref (_)), some (.int (nI f)), some (.int (nI w.1))] []
      refine g_aload_0 (q := 32) C dX4_cost_31 rfl ?_
      refine g_getc (q := 35) (m := 104) C f_X4_19 dX4_cost_32 rfl rfl (IM.d I _ (by decide) (by decide)) ?_
      refine g_iload_2 (q := 36) C dX4_cost_35 rfl ?_
      refine g_ia (q := 37) C dX4_cost_36 rfl rfl (IM.d I _ (by decide) (by decide)) rfl w2 (by decide) ?_
      exact g_iret C RT9 dX4_cost_37 ⟨rfl, rfl, rfl, rfl, hfr, by rw [csV, if_pos c_10, cN_nI (by omega)]; first | rw [cb_m1 W hnP c_23] | rw [ew, hw.1]⟩
    · refine g_bipush (v := (-2)) (q := 28) C dX4_cost_26 rfl (by decide) ?_
      refine g_goto (tgt := 37) C dX4_cost_28 (by decide) ?_
      exact g_iret C RT9 dX4_cost_37 ⟨rfl, rfl, rfl, rfl, hfr, by rw [csV, if_pos c_10, cN_nI (by omega)]; first | rw [cb_m1 W hnP c_23] | rw [ew, hw.1]⟩
  · refine g_iconst (v := (-1)) (q := 14) C dX4_cost_13 rfl (by decide) ?_
    exact g_iret C RT9 dX4_cost_14 ⟨rfl, rfl, rfl, rfl, fun _ _ _ => rfl, by rw [csV, if_neg (by rw [c_10]; decide)]⟩

def byP (t : Nat) (c : Nat → Int32) (pa : Nat → Int32) : Nat → Nat → Int32
  | 0 => pa
  | n + 1 => if t.testBit n = true then gvP (byP t c pa n) n 1 (c n) else byP t c pa n
theorem byP_ge {t : Nat} {c : Nat → Int32} : ∀ {n j : Nat}, 9 * n ≤ j → byP t c pa n j = pa j
  | 0, j, _ => rfl
  | n + 1, j, h => by
    have h1 := byP_ge (t := t) (c := c) (n := n) (j := j) (by omega)
    unfold byP
    split
    · rw [gv_paU, paU_o (by omega)]; exact h1
    · exact h1
theorem q_sl : ∀ p, p < 20 → ((nI p &&& 31).toBitVec.smod 32).toNat = p := by decide +kernel
theorem q_tb {t p : Nat} (ht : t < 2 ^ 20) (hp : p < 20) : (nI t >>> (nI p &&& 31)) &&& 1 = nI (t / 2 ^ p % 2) := by
  rw [pk_shrN (by omega) _ p (q_sl p hp)]
  have hd : t / 2 ^ p ≤ t := Nat.div_le_self _ _
  exact pk_andN (by omega) 1 rfl
theorem q_t1 {t p : Nat} : t.testBit p = true ↔ t / 2 ^ p % 2 = 1 := by
  rw [Nat.testBit_eq_decide_div_mod_eq]
  simp
theorem q_f1 {t p : Nat} (ht : t < 2 ^ 20) (hp : p < 20) : ((nI t >>> (nI p &&& 31)) &&& 1 = 1) ↔ t.testBit p = true := by
  rw [q_tb ht hp, q_t1]
  exact nI_eq (b := 1) (by omega) (by omega)
def buP (fl pa : Nat → Int32) (nF nP : Nat) (f1 : Int32) : Nat → Int32 := if fok nF f1 = true then (match cbS fl pa nP (cN f1) with
  | none => pa
  | some w => byP w.2.2 (fun n => pa (9 * n + 3)) pa nP) else pa
set_option maxHeartbeats 4000000 in
set_option maxRecDepth 100000 in
theorem by_loop {E : EN} (C : CX E cX4_buy yX4_buy.cls 4) (hN : eN E = 4) {P : PO} (RT9 : RT E 0 0 (some .int) P) (I0 : IM dm a nF nP) {f : Nat} {w : Nat × (Nat × Nat)} (w2 : w.1 < 121) (w4 : w.2.2 < 2 ^ 20) (hw : a 104 w.1 = nI w.2.1 ∧ a 105 w.1 = nI w.2.2) (hpa : pa = a 102) (hP : P (some (.int (nI w.2.1))) ad dm (up1 a 102 (byP w.2.2 (fun n => pa (9 * n + 3)) pa nP)) b r) : ∀ (n i : Nat) (a0 : Nat → Nat → Int32), i + n = nP → a0 = up1 a 102 (byP w.2.2 (fun n => pa (9 * n + 3)) pa i) → G E 0 0 ad dm a0 b r 31 [some (.ref (ad 100)), some (.int (nI f)), some (.int (nI w.1)), some (.int (nI i))] [] := by
  have hnF := I0.2.2.1
  have hnP := I0.2.2.2.2
  intro n
  induction n with
  | zero =>
    intro i a0 hi h0
    have I := I0.up (n := 102) (f := byP w.2.2 (fun n => pa (9 * n + 3)) pa i) (by decide)
    rw [← h0] at I
    refine g_iload_3 (q := 32) C dX4_buy_31 rfl ?_
    refine g_aload_0 (q := 33) C dX4_buy_32 rfl ?_
    refine g_geti (q := 36) C f_X4_63 dX4_buy_33 rfl rfl (IM.d I _ (by decide) (by decide)) ?_
    refine g_icmp_ge (tgt := 70) (q := 39) C dX4_buy_36 rfl (by decide) (fun c_36 => ?_) (fun c_36 => absurd (by rw [I.nP]; exact nI_le (by omega) (by omega)) c_36)
    refine g_aload_0 (q := 71) C dX4_buy_70 rfl ?_
    refine g_getc (q := 74) (m := 104) C f_X4_19 dX4_buy_71 rfl rfl (IM.d I _ (by decide) (by decide)) ?_
    refine g_iload_2 (q := 75) C dX4_buy_74 rfl ?_
    refine g_ia (q := 76) C dX4_buy_75 rfl rfl (IM.d I _ (by decide) (by decide)) rfl w2 (by decide) ?_
    exact g_iret C RT9 dX4_buy_76 (by rw [h0, up1_n (by decide), hw.1, show i = nP by omega]; exact hP)
  | succ n ih =>
    intro i a0 hi h0
    have hip : i < nP := by omega
    have I := I0.up (n := 102) (f := byP w.2.2 (fun n => pa (9 * n + 3)) pa i) (by decide)
    rw [← h0] at I
    refine g_iload_3 (q := 32) C dX4_buy_31 rfl ?_
    refine g_aload_0 (q := 33) C dX4_buy_32 rfl ?_
    refine g_geti (q := 36) C f_X4_63 dX4_buy_33 rfl rfl (IM.d I _ (by decide) (by decide)) ?_
    refine g_icmp_ge (tgt := 70) (q := 39) C dX4_buy_36 rfl (by decide) (fun c_36 => absurd c_36 (by rw [I.nP]; exact nI_ge (by omega) (by omega))) (fun c_36 => ?_)
    refine g_aload_0 (q := 40) C dX4_buy_39 rfl ?_
    refine g_getc (q := 43) (m := 105) C f_X4_22 dX4_buy_40 rfl rfl (IM.d I _ (by decide) (by decide)) ?_
    refine g_iload_2 (q := 44) C dX4_buy_43 rfl ?_
    refine g_ia (q := 45) C dX4_buy_44 rfl rfl (IM.d I _ (by decide) (by decide)) rfl w2 (by decide) ?_
    refine g_iload_3 (q := 46) C dX4_buy_45 rfl ?_
    refine g_ishr (q := 47) C dX4_buy_46 rfl ?_
    refine g_iconst (v := 1) (q := 48) C dX4_buy_47 rfl (by decide) ?_
    refine g_iand (q := 49) C dX4_buy_48 rfl ?_
    refine g_iconst (v := 1) (q := 50) C dX4_buy_49 rfl (by decide) ?_
    refine g_icmp_ne (tgt := 64) (q := 53) C dX4_buy_50 rfl (by decide) (fun c_50 => ?_) (fun c_50 => ?_)
    · refine g_iinc_3 (v := nI (i + 1)) (q := 67) C dX4_buy_64 rfl (by rw [hN]; decide) (nI_1 i) ?_
      refine g_goto (tgt := 31) C dX4_buy_67 (by decide) ?_
      rw [h0, up1_n (by decide), hw.2, q_f1 w4 (by omega)] at c_50
      first
        | exact ih (i + 1) _ (by omega) (by rw [h0, up1_s, up1_up, byP, if_pos c_50, byP_ge (by omega)])
        | exact ih (i + 1) _ (by omega) (by rw [h0, byP, if_neg c_50])
    · refine g_aload_0 (q := 54) C dX4_buy_53 rfl ?_
      refine g_iload_3 (q := 55) C dX4_buy_54 rfl ?_
      refine g_aload_0 (q := 56) C dX4_buy_55 rfl ?_
      refine g_iload_3 (q := 57) C dX4_buy_56 rfl ?_
      refine g_iconst (v := 3) (q := 58) C dX4_buy_57 rfl (by decide) ?_
      refine g_cv2i (q := 61) C cv_X4_70 dX4_buy_58 rfl rfl (IM.d I _ (by decide) (by decide)) (m_X4_get I (k := 3) (by omega) rfl rfl) (by decide) (Nat.le_of_ble_eq_true rfl) ⟨Nat.zero_le _, Nat.zero_le _⟩ ?_
      refine g_cv2v (q := 64) C cv_X4_110 dX4_buy_61 rfl rfl (IM.d I _ (by decide) (by decide)) (m_X4_give I (by assumption) rfl _) (by decide) (Nat.le_of_ble_eq_true rfl) ⟨Nat.zero_le _, Nat.zero_le _⟩ ?_
      refine g_iinc_3 (v := nI (i + 1)) (q := 67) C dX4_buy_64 rfl (by rw [hN]; decide) (nI_1 i) ?_
      refine g_goto (tgt := 31) C dX4_buy_67 (by decide) ?_
      rw [h0, up1_n (by decide), hw.2, q_f1 w4 (by omega)] at c_50
      first
        | exact ih (i + 1) _ (by omega) (by rw [h0, up1_s, up1_up, byP, if_pos c_50, byP_ge (by omega)])
        | exact ih (i + 1) _ (by omega) (by rw [h0, byP, if_neg c_50])
set_option maxHeartbeats 4000000 in
set_option maxRecDepth 100000 in
theorem m_X4_buy (I : IM dm a nF nP) {a1 : Nat → Nat → Int32} (ha : a1 = u2 a 100 5 0) (W : WP nF nP (a1 102)) (F : WF nF (a1 101)) (f1 : Int32) : MT g bs l yX4_buy cX4_buy 4 (some .int) 4 0 0 [.ref (ad 100), .int f1] ad dm a b r (fun v ad0 dm0 a0 b0 r0 => ad0 = ad ∧ dm0 = dm ∧ b0 = b ∧ r0 = r ∧ (∀ n, n ≠ 104 → n ≠ 105 → a0 n = up1 a1 102 (buP (a1 101) (a1 102) nF nP f1) n) ∧ v = some (.int (csV (a1 101) (a1 102) nF nP f1))) := by
  refine mt_of (by decide) [some (.ref (ad 100)), some (.int f1), none, none] rfl (Nat.le_of_ble_eq_true rfl) ?_
  intro E hg hbs hl hN C RT9 hcells hslots hname
  have hnF := I.2.2.1
  have hnP := I.2.2.2.2
  refine g_aload_0 (q := 1) C dX4_buy_0 rfl ?_
  refine g_iconst (v := 0) (q := 2) C dX4_buy_1 rfl (by decide) ?_
  refine g_puti (q := 5) C p_X4_52 dX4_buy_2 rfl rfl (IM.d I _ (by decide) (by decide)) rfl rfl ?_
  rw [← ha]
  have I : IM dm a1 nF nP := by rw [ha]; exact I.th
  refine g_aload_0 (q := 6) C dX4_buy_5 rfl ?_
  refine g_iload_1 (q := 7) C dX4_buy_6 rfl ?_
  refine g_cv1i (q := 10) C cv_X4_66 dX4_buy_7 rfl rfl (IM.d I _ (by decide) (by decide)) (m_X4_isFlight I _) (by decide) (Nat.le_of_ble_eq_true rfl) ⟨Nat.zero_le _, Nat.zero_le _⟩ ?_
  refine g_ifneb (tgt := 15) (q := 13) C dX4_buy_10 rfl (by decide) (fun c_10 => ?_) (fun c_10 => ?_)
  · obtain ⟨f, hf, rfl⟩ := fok_t c_10 (by omega)
    refine g_aload_0 (q := 16) C dX4_buy_15 rfl ?_
    refine g_iload_1 (q := 17) C dX4_buy_16 rfl ?_
    refine g_cv1g (q := 20) C cv_X4_103 dX4_buy_17 rfl rfl (IM.d I _ (by decide) (by decide)) (m_X4_findBest I W F hf rfl) (by decide) (Nat.le_of_ble_eq_true rfl) ⟨Nat.zero_le _, Nat.zero_le _⟩ (fun v ad' dm' a' b' r' hp => ?_)
    obtain ⟨rfl, rfl, rfl, rfl, hfr, hr9, rfl⟩ := hp
    change G E 0 0 _ _ a' _ _ 20 _ [.int (enB (cbS (a1 101) (a1 102) nP f))]
    have I := I.fr hfr
    refine g_istore_2 (q := 21) C dX4_buy_20 rfl (by rw [hN]; decide) rfl ?_
    refine g_iload_2 (q := 22) C dX4_buy_21 rfl ?_
    refine g_iconst (v := (-1)) (q := 23) C dX4_buy_22 rfl (by decide) ?_
    refine g_icmp_ne (tgt := 29) (q := 26) C dX4_buy_23 rfl (by decide) (fun c_23 => ?_) (fun c_23 => ?_)
    · obtain ⟨w, ew⟩ := cb_s W c_23
      obtain ⟨w1, w2, w3, w4⟩ := cb_in W hnP ew
      have hw := hr9 w.1 w2
      rw [w1] at hw
      rw [ew]
      show G E 0 0 _ _ _ _ _ 29 [some (.ref (_)), some (.int (nI f)), some (.int (nI w.1)), none] []
      refine g_iconst (v := 0) (q := 30) C dX4_buy_29 rfl (by decide) ?_
      refine g_istore_3 (q := 31) C dX4_buy_30 rfl (by rw [hN]; decide) rfl ?_
      refine by_loop C hN RT9 I w2 w4 hw (hfr 102 (by decide) (by decide)).symm ⟨rfl, rfl, rfl, rfl, fun n h1 h2 => ?_, by rw [csV, if_pos c_10, cN_nI (by omega), ew]⟩ nP 0 a' (by omega) (by rw [byP, ← hfr 102 (by decide) (by decide), up1_id])
      by_cases h : n = 102
      · subst h
        rw [up1_s, up1_s, buP, if_pos c_10, cN_nI (by omega), ew]
      · rw [up1_n h, up1_n h]
        exact hfr n h1 h2
    · refine g_bipush (v := (-2)) (q := 28) C dX4_buy_26 rfl (by decide) ?_
      exact g_iret C RT9 dX4_buy_28 ⟨rfl, rfl, rfl, rfl, fun n h1 h2 => by rw [buP, if_pos c_10, cN_nI (by omega), cb_m1 W hnP c_23]; dsimp only; rw [up1_id]; exact hfr n h1 h2, by rw [csV, if_pos c_10, cN_nI (by omega), cb_m1 W hnP c_23]⟩
  · refine g_iconst (v := (-1)) (q := 14) C dX4_buy_13 rfl (by decide) ?_
    exact g_iret C RT9 dX4_buy_14 ⟨rfl, rfl, rfl, rfl, fun n _ _ => by rw [buP, if_neg (by rw [c_10]; decide), up1_id], by rw [csV, if_neg (by rw [c_10]; decide)]⟩

end D26
