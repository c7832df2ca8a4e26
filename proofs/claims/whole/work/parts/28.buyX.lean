section D28
variable {g : GM} {bs : Nat} {l : Launch} {ad : Nat → Nat} {dm : Nat → Bool} {a : Nat → Nat → Int32} {b : Nat → Nat → Int64} {r : Nat → Nat → Option Nat} {nF nP : Nat} {fl pa nu : Nat → Int32}
set_option maxHeartbeats 4000000 in
set_option maxRecDepth 100000 in
theorem m_X3_has {n q : Nat} (hn : n < 2 ^ 62) (hp : q < 20) {x : Int64} (hx : x = lN n) : MT g bs l yX3_has cX3_has 3 (some .boolean) 0 0 0 [.long x, .int (nI q)] ad dm a b r (PX (some (.int (bI (n.testBit q)))) ad dm a b r) := by
  refine mt_of (by decide) [some (.long x), none, some (.int (nI q))] rfl (Nat.le_of_ble_eq_true rfl) ?_
  intro E hg hbs hl hN C RT9 hcells hslots hname
  refine g_lload_0 (q := 1) C dX3_has_0 rfl ?_
  refine g_iload_2 (q := 2) C dX3_has_1 rfl ?_
  refine g_lshr (q := 3) C dX3_has_2 rfl ?_
  refine g_lconst (v := 1) (q := 4) C dX3_has_3 rfl rfl ?_
  refine g_land (q := 5) C dX3_has_4 rfl ?_
  refine g_lconst (v := 0) (q := 6) C dX3_has_5 rfl rfl ?_
  refine g_lcmp (q := 7) C dX3_has_6 rfl ?_
  rw [hx, y_bit hn hp]
  refine g_if_eq (tgt := 14) (q := 10) C dX3_has_7 rfl (by decide) (fun c_7 => ?_) (fun c_7 => ?_)
  · refine g_iconst (v := 0) (q := 15) C dX3_has_14 rfl (by decide) ?_
    exact g_zret C RT9 dX3_has_15 rfl (pxi (by rw [lc_eq, show (0 : Int64) = lN 0 from rfl, pk_lEQ (by omega) (by decide)] at c_7; first | (rw [show n.testBit q = false by rw [Nat.testBit_eq_decide_div_mod_eq]; simp; omega]; rfl) | (rw [show n.testBit q = true by rw [q_t1]; omega]; rfl)))
  · refine g_iconst (v := 1) (q := 11) C dX3_has_10 rfl (by decide) ?_
    refine g_goto (tgt := 15) C dX3_has_11 (by decide) ?_
    exact g_zret C RT9 dX3_has_15 rfl (pxi (by rw [lc_eq, show (0 : Int64) = lN 0 from rfl, pk_lEQ (by omega) (by decide)] at c_7; first | (rw [show n.testBit q = false by rw [Nat.testBit_eq_decide_div_mod_eq]; simp; omega]; rfl) | (rw [show n.testBit q = true by rw [q_t1]; omega]; rfl)))

set_option maxHeartbeats 4000000 in
set_option maxRecDepth 100000 in
theorem m_X3_coinOfDeal {n : Nat} (hn : n < 2 ^ 62) {x : Int64} (hx : x = lN n) : MT g bs l yX3_coinOfDeal cX3_coinOfDeal 2 (some .int) 0 0 0 [.long x] ad dm a b r (PX (some (.int (nI (n / 2 ^ 20)))) ad dm a b r) := by
  refine mt_of (by decide) [some (.long x), none] rfl (Nat.le_of_ble_eq_true rfl) ?_
  intro E hg hbs hl hN C RT9 hcells hslots hname
  refine g_lload_0 (q := 1) C dX3_coinOfDeal_0 rfl ?_
  refine g_bipush (v := 20) (q := 3) C dX3_coinOfDeal_1 rfl (by decide) ?_
  refine g_lshr (q := 4) C dX3_coinOfDeal_3 rfl ?_
  refine g_l2i (q := 5) C dX3_coinOfDeal_4 rfl ?_
  exact g_iret C RT9 dX3_coinOfDeal_5 (pxi (by rw [hx, y_coin hn]))

theorem rx_c {ch ch' : Nat → Int64} {s : Nat} {x : Option (Nat × Nat)} (h : rpX ch s x) (h1 : ch' s = ch s) : rpX ch' s x := by
  cases x with
  | none => exact h1.trans h
  | some q => exact h1.trans h
theorem rx_o {b0 : Nat → Nat → Int64} {s k : Nat} {x : Option (Nat × Nat)} {v : Int64} (h : rpX (b0 4) k x) (hk : k ≠ s) : rpX (u2 b0 4 s v 4) k x := rx_c h (u2_k hk _)
theorem rx_s {b0 : Nat → Nat → Int64} {s : Nat} {q : Nat × Nat} : rpX (u2 b0 4 s (lN (ec q)) 4) s (some q) := u2_s
theorem b_fr {b0 : Nat → Nat → Int64} (hf : ∀ n, n ≠ 4 → b0 n = b n) {k : Nat} {v : Int64} : ∀ n, n ≠ 4 → u2 b0 4 k v n = b n := fun n h => by rw [u2_n h]; exact hf n h
set_option maxHeartbeats 4000000 in
set_option maxRecDepth 100000 in
theorem m_X3_offerDeals (I : IX dm nF nP) (W : WP nF nP pa) {fv : Int32} {p rc sz : Nat} (hp : p < nP) (hsz : szN pa p = sz) (hsz1 : 1 ≤ sz) (hsz6 : sz ≤ 6) (hmg : mgS pa fv p = true) (hrc : sN pa (mgS pa fv) p = rc) (hrs : rc + sz ≤ 120) {mo : Int64} (hmo : mo = lN (bdN pa p * sz * 2 ^ 20 + 2 ^ p)) (hr : ∀ k, k < 121 → rpX (b 4) k (DP pa fv p k)) : MT g bs l yX3_offerDeals cX3_offerDeals 8 none 1 0 0 [.ref (ad 0), .int (nI rc), .int (nI sz), .long mo] ad dm a b r (fun v ad0 dm0 a0 b0 r0 => v = none ∧ ad0 = ad ∧ dm0 = dm ∧ a0 = a ∧ r0 = r ∧ (∀ n, n ≠ 4 → b0 n = b n) ∧ ∀ k, k < 121 → rpX (b0 4) k (DP pa fv (p + 1) k)) := by
  refine mt_of (by decide) [some (.ref (ad 0)), some (.int (nI rc)), some (.int (nI sz)), some (.long mo), none, none, none, none] rfl (Nat.le_of_ble_eq_true rfl) ?_
  intro E hg hbs hl hN C RT9 hcells hslots hname
  have hnF := I.1
  have hnP := I.2.1
  subst hmo
  have hbd := bd_ok W hp hmg
  have lp : ∀ (m : Nat) (b0 : Nat → Nat → Int64) (sv : Int32) (e6 e7 : Option Value), m ≤ rc + 1 → sv = nI m - 1 → (∀ n, n ≠ 4 → b0 n = b n) → (∀ k, k < 121 → k < m + sz → rpX (b0 4) k (DP pa fv p k)) → (∀ k, k < 121 → m + sz ≤ k → rpX (b0 4) k (DP pa fv (p + 1) k)) → G E 0 0 ad dm a b0 r 3 [some (.ref (ad 0)), some (.int (nI rc)), some (.int (nI sz)), some (.long (lN (bdN pa p * sz * 2 ^ 20 + 2 ^ p))), none, some (.int sv), e6, e7] [] := by
    intro m
    induction m with
    | zero =>
      intro b0 sv e6 e7 hm hsv hfr hlo hhi
      subst hsv
      refine g_iload_5 (q := 5) C dX3_offerDeals_3 rfl ?_
      refine g_if_lt (tgt := 77) (q := 8) C dX3_offerDeals_5 rfl (by decide) (fun c_5 => ?_) (fun c_5 => absurd (by rw [i_lt, i_0, show (nI 0 - 1).toInt = -1 from rfl]; decide) c_5)
      exact g_vret C RT9 dX3_offerDeals_77 ⟨rfl, rfl, rfl, rfl, rfl, hfr, fun k hk9 => by
  rcases Nat.lt_or_ge k sz with h | h
  · rw [DP_l (by rw [hsz]; exact h)]; exact hlo k hk9 (by omega)
  · exact hhi k hk9 (by omega)⟩
    | succ m ih =>
      intro b0 sv e6 e7 hm hsv hfr hlo hhi
      rw [nI_pred] at hsv
      subst hsv
      have hl0 := hlo m (by omega) (by omega)
      have hlm := hlo (m + sz) (by omega) (by omega)
      have hok0 := DP_ok W hnP fv (p := p) (by omega) m
      have hok := DP_ok W hnP fv (p := p) (by omega) (m + sz)
      have hDy : DP pa fv (p + 1) (m + sz) = mnD (DP pa fv p (m + sz)) (adD (bdN pa p * sz) p (DP pa fv p m)) := by rw [DP_y hmg (by rw [hsz]; omega), hsz, show m + sz - sz = m by omega]
      refine g_iload_5 (q := 5) C dX3_offerDeals_3 rfl ?_
      refine g_if_lt (tgt := 77) (q := 8) C dX3_offerDeals_5 rfl (by decide) (fun c_5 => absurd c_5 (nI_pos (by omega))) (fun c_5 => ?_)
      refine g_aload_0 (q := 9) C dX3_offerDeals_8 rfl ?_
      refine g_getc (q := 12) (m := 4) C f_X3_25 dX3_offerDeals_9 rfl rfl (IX.d0 I _ (by decide)) ?_
      refine g_iload_5 (q := 14) C dX3_offerDeals_12 rfl ?_
      refine g_la (q := 15) C dX3_offerDeals_14 rfl rfl (IX.d0 I _ (by decide)) rfl (by omega) (by decide) ?_
      refine g_lconst (v := 0) (q := 16) C dX3_offerDeals_15 rfl rfl ?_
      refine g_lcmp (q := 17) C dX3_offerDeals_16 rfl ?_
      refine g_if_lt (tgt := 71) (q := 20) C dX3_offerDeals_17 rfl (by decide) (fun c_17 => ?_) (fun c_17 => ?_)
      · refine g_iinc_5 (v := (nI m - 1)) (q := 74) C dX3_offerDeals_71 rfl (by rw [hN]; decide) (i_dec _) ?_
        refine g_goto (tgt := 3) C dX3_offerDeals_74 (by decide) ?_
        first
          | (rw [lc_lt] at c_17
             have e9 := dx_none hl0 hok0 c_17
             rw [e9] at hDy
             exact ih b0 _ _ _ (by omega) rfl hfr (fun k h1 h2 => hlo k h1 (by omega)) (fun k h1 h2 => by
               by_cases h : k = m + sz
               · subst h; rw [hDy, show mnD (DP pa fv p (m + sz)) (adD (bdN pa p * sz) p none) = DP pa fv p (m + sz) from rfl]; exact hlm
               · exact hhi k h1 (by omega)))
          | (rw [lc_lt] at c_42
             have e9 := dx_take hlm hok hw9 (Or.inl c_42)
             exact ih (u2 b0 4 (m + sz) (lN (ec (q.1 + bdN pa p * sz, q.2 + 2 ^ p)))) _ _ _ (by omega) rfl (b_fr hfr) (fun k h1 h2 => rx_o (hlo k h1 (by omega)) (by omega)) (fun k h1 h2 => by
               by_cases h : k = m + sz
               · subst h; rw [hDy, e9]; exact rx_s
               · exact rx_o (hhi k h1 (by omega)) h))
          | (rw [lc_lt] at c_42
             rw [lc_ge] at c_57
             have e9 := dx_skip hlm hok hw9 c_42 c_57
             exact ih b0 _ _ _ (by omega) rfl hfr (fun k h1 h2 => hlo k h1 (by omega)) (fun k h1 h2 => by
               by_cases h : k = m + sz
               · subst h; rw [hDy, e9]; exact hlm
               · exact hhi k h1 (by omega)))
          | (rw [lc_ge] at c_57
             have e9 := dx_take hlm hok hw9 (Or.inr (Int64.not_le.mp c_57))
             exact ih (u2 b0 4 (m + sz) (lN (ec (q.1 + bdN pa p * sz, q.2 + 2 ^ p)))) _ _ _ (by omega) rfl (b_fr hfr) (fun k h1 h2 => rx_o (hlo k h1 (by omega)) (by omega)) (fun k h1 h2 => by
               by_cases h : k = m + sz
               · subst h; rw [hDy, e9]; exact rx_s
               · exact rx_o (hhi k h1 (by omega)) h))
      · rw [lc_lt] at c_17
        obtain ⟨q, eq, b4⟩ := dx_some hl0 c_17
        obtain ⟨b1, b2, b3⟩ := DP_bd W fv (p := p) (by omega) _ q eq
        have hpw : 2 ^ p ≤ 2 ^ 19 := Nat.pow_le_pow_right (by decide) (by omega)
        have hmul : bdN pa p * sz ≤ 999 * 6 := Nat.mul_le_mul hbd.2 hsz6
        have hw9 : (q.1 + bdN pa p * sz, q.2 + 2 ^ p).1 < 200000 ∧ (q.1 + bdN pa p * sz, q.2 + 2 ^ p).2 < 2 ^ 20 := ⟨by dsimp only; omega, by dsimp only; omega⟩
        rw [show adD (bdN pa p * sz) p (DP pa fv p m) = some (q.1 + bdN pa p * sz, q.2 + 2 ^ p) by rw [eq]; rfl] at hDy
        refine g_aload_0 (q := 21) C dX3_offerDeals_20 rfl ?_
        refine g_getc (q := 24) (m := 4) C f_X3_25 dX3_offerDeals_21 rfl rfl (IX.d0 I _ (by decide)) ?_
        refine g_iload_5 (q := 26) C dX3_offerDeals_24 rfl ?_
        refine g_la (q := 27) C dX3_offerDeals_26 rfl rfl (IX.d0 I _ (by decide)) rfl (by omega) (by decide) ?_
        refine g_lload_3 (q := 28) C dX3_offerDeals_27 rfl ?_
        refine g_ladd (q := 29) C dX3_offerDeals_28 rfl ?_
        rw [b4, ec_add]
        refine g_lstore_6 (q := 31) C dX3_offerDeals_29 rfl (by rw [hN]; decide) rfl ?_
        refine g_aload_0 (q := 32) C dX3_offerDeals_31 rfl ?_
        refine g_getc (q := 35) (m := 4) C f_X3_25 dX3_offerDeals_32 rfl rfl (IX.d0 I _ (by decide)) ?_
        refine g_iload_5 (q := 37) C dX3_offerDeals_35 rfl ?_
        refine g_iload_2 (q := 38) C dX3_offerDeals_37 rfl ?_
        refine g_iadd (q := 39) C dX3_offerDeals_38 rfl ?_
        refine g_la (q := 40) C dX3_offerDeals_39 rfl rfl (IX.d0 I _ (by decide)) (nI_add m sz) (by omega) (by decide) ?_
        refine g_lconst (v := 0) (q := 41) C dX3_offerDeals_40 rfl rfl ?_
        refine g_lcmp (q := 42) C dX3_offerDeals_41 rfl ?_
        refine g_if_lt (tgt := 60) (q := 45) C dX3_offerDeals_42 rfl (by decide) (fun c_42 => ?_) (fun c_42 => ?_)
        · refine g_aload_0 (q := 61) C dX3_offerDeals_60 rfl ?_
          refine g_getc (q := 64) (m := 4) C f_X3_25 dX3_offerDeals_61 rfl rfl (IX.d0 I _ (by decide)) ?_
          refine g_iload_5 (q := 66) C dX3_offerDeals_64 rfl ?_
          refine g_iload_2 (q := 67) C dX3_offerDeals_66 rfl ?_
          refine g_iadd (q := 68) C dX3_offerDeals_67 rfl ?_
          refine g_lload_6 (q := 70) C dX3_offerDeals_68 rfl ?_
          refine g_last (q := 71) C dX3_offerDeals_70 rfl rfl (IX.d0 I _ (by decide)) (nI_add m sz) (by omega) (by decide) ?_
          refine g_iinc_5 (v := (nI m - 1)) (q := 74) C dX3_offerDeals_71 rfl (by rw [hN]; decide) (i_dec _) ?_
          refine g_goto (tgt := 3) C dX3_offerDeals_74 (by decide) ?_
          first
            | (rw [lc_lt] at c_17
               have e9 := dx_none hl0 hok0 c_17
               rw [e9] at hDy
               exact ih b0 _ _ _ (by omega) rfl hfr (fun k h1 h2 => hlo k h1 (by omega)) (fun k h1 h2 => by
                 by_cases h : k = m + sz
                 · subst h; rw [hDy, show mnD (DP pa fv p (m + sz)) (adD (bdN pa p * sz) p none) = DP pa fv p (m + sz) from rfl]; exact hlm
                 · exact hhi k h1 (by omega)))
            | (rw [lc_lt] at c_42
               have e9 := dx_take hlm hok hw9 (Or.inl c_42)
               exact ih (u2 b0 4 (m + sz) (lN (ec (q.1 + bdN pa p * sz, q.2 + 2 ^ p)))) _ _ _ (by omega) rfl (b_fr hfr) (fun k h1 h2 => rx_o (hlo k h1 (by omega)) (by omega)) (fun k h1 h2 => by
                 by_cases h : k = m + sz
                 · subst h; rw [hDy, e9]; exact rx_s
                 · exact rx_o (hhi k h1 (by omega)) h))
            | (rw [lc_lt] at c_42
               rw [lc_ge] at c_57
               have e9 := dx_skip hlm hok hw9 c_42 c_57
               exact ih b0 _ _ _ (by omega) rfl hfr (fun k h1 h2 => hlo k h1 (by omega)) (fun k h1 h2 => by
                 by_cases h : k = m + sz
                 · subst h; rw [hDy, e9]; exact hlm
                 · exact hhi k h1 (by omega)))
            | (rw [lc_ge] at c_57
               have e9 := dx_take hlm hok hw9 (Or.inr (Int64.not_le.mp c_57))
               exact ih (u2 b0 4 (m + sz) (lN (ec (q.1 + bdN pa p * sz, q.2 + 2 ^ p)))) _ _ _ (by omega) rfl (b_fr hfr) (fun k h1 h2 => rx_o (hlo k h1 (by omega)) (by omega)) (fun k h1 h2 => by
                 by_cases h : k = m + sz
                 · subst h; rw [hDy, e9]; exact rx_s
                 · exact rx_o (hhi k h1 (by omega)) h))
        · refine g_lload_6 (q := 47) C dX3_offerDeals_45 rfl ?_
          refine g_aload_0 (q := 48) C dX3_offerDeals_47 rfl ?_
          refine g_getc (q := 51) (m := 4) C f_X3_25 dX3_offerDeals_48 rfl rfl (IX.d0 I _ (by decide)) ?_
          refine g_iload_5 (q := 53) C dX3_offerDeals_51 rfl ?_
          refine g_iload_2 (q := 54) C dX3_offerDeals_53 rfl ?_
          refine g_iadd (q := 55) C dX3_offerDeals_54 rfl ?_
          refine g_la (q := 56) C dX3_offerDeals_55 rfl rfl (IX.d0 I _ (by decide)) (nI_add m sz) (by omega) (by decide) ?_
          refine g_lcmp (q := 57) C dX3_offerDeals_56 rfl ?_
          refine g_if_ge (tgt := 71) (q := 60) C dX3_offerDeals_57 rfl (by decide) (fun c_57 => ?_) (fun c_57 => ?_)
          · refine g_iinc_5 (v := (nI m - 1)) (q := 74) C dX3_offerDeals_71 rfl (by rw [hN]; decide) (i_dec _) ?_
            refine g_goto (tgt := 3) C dX3_offerDeals_74 (by decide) ?_
            first
              | (rw [lc_lt] at c_17
                 have e9 := dx_none hl0 hok0 c_17
                 rw [e9] at hDy
                 exact ih b0 _ _ _ (by omega) rfl hfr (fun k h1 h2 => hlo k h1 (by omega)) (fun k h1 h2 => by
                   by_cases h : k = m + sz
                   · subst h; rw [hDy, show mnD (DP pa fv p (m + sz)) (adD (bdN pa p * sz) p none) = DP pa fv p (m + sz) from rfl]; exact hlm
                   · exact hhi k h1 (by omega)))
              | (rw [lc_lt] at c_42
                 have e9 := dx_take hlm hok hw9 (Or.inl c_42)
                 exact ih (u2 b0 4 (m + sz) (lN (ec (q.1 + bdN pa p * sz, q.2 + 2 ^ p)))) _ _ _ (by omega) rfl (b_fr hfr) (fun k h1 h2 => rx_o (hlo k h1 (by omega)) (by omega)) (fun k h1 h2 => by
                   by_cases h : k = m + sz
                   · subst h; rw [hDy, e9]; exact rx_s
                   · exact rx_o (hhi k h1 (by omega)) h))
              | (rw [lc_lt] at c_42
                 rw [lc_ge] at c_57
                 have e9 := dx_skip hlm hok hw9 c_42 c_57
                 exact ih b0 _ _ _ (by omega) rfl hfr (fun k h1 h2 => hlo k h1 (by omega)) (fun k h1 h2 => by
                   by_cases h : k = m + sz
                   · subst h; rw [hDy, e9]; exact hlm
                   · exact hhi k h1 (by omega)))
              | (rw [lc_ge] at c_57
                 have e9 := dx_take hlm hok hw9 (Or.inr (Int64.not_le.mp c_57))
                 exact ih (u2 b0 4 (m + sz) (lN (ec (q.1 + bdN pa p * sz, q.2 + 2 ^ p)))) _ _ _ (by omega) rfl (b_fr hfr) (fun k h1 h2 => rx_o (hlo k h1 (by omega)) (by omega)) (fun k h1 h2 => by
                   by_cases h : k = m + sz
                   · subst h; rw [hDy, e9]; exact rx_s
                   · exact rx_o (hhi k h1 (by omega)) h))
          · refine g_aload_0 (q := 61) C dX3_offerDeals_60 rfl ?_
            refine g_getc (q := 64) (m := 4) C f_X3_25 dX3_offerDeals_61 rfl rfl (IX.d0 I _ (by decide)) ?_
            refine g_iload_5 (q := 66) C dX3_offerDeals_64 rfl ?_
            refine g_iload_2 (q := 67) C dX3_offerDeals_66 rfl ?_
            refine g_iadd (q := 68) C dX3_offerDeals_67 rfl ?_
            refine g_lload_6 (q := 70) C dX3_offerDeals_68 rfl ?_
            refine g_last (q := 71) C dX3_offerDeals_70 rfl rfl (IX.d0 I _ (by decide)) (nI_add m sz) (by omega) (by decide) ?_
            refine g_iinc_5 (v := (nI m - 1)) (q := 74) C dX3_offerDeals_71 rfl (by rw [hN]; decide) (i_dec _) ?_
            refine g_goto (tgt := 3) C dX3_offerDeals_74 (by decide) ?_
            first
              | (rw [lc_lt] at c_17
                 have e9 := dx_none hl0 hok0 c_17
                 rw [e9] at hDy
                 exact ih b0 _ _ _ (by omega) rfl hfr (fun k h1 h2 => hlo k h1 (by omega)) (fun k h1 h2 => by
                   by_cases h : k = m + sz
                   · subst h; rw [hDy, show mnD (DP pa fv p (m + sz)) (adD (bdN pa p * sz) p none) = DP pa fv p (m + sz) from rfl]; exact hlm
                   · exact hhi k h1 (by omega)))
              | (rw [lc_lt] at c_42
                 have e9 := dx_take hlm hok hw9 (Or.inl c_42)
                 exact ih (u2 b0 4 (m + sz) (lN (ec (q.1 + bdN pa p * sz, q.2 + 2 ^ p)))) _ _ _ (by omega) rfl (b_fr hfr) (fun k h1 h2 => rx_o (hlo k h1 (by omega)) (by omega)) (fun k h1 h2 => by
                   by_cases h : k = m + sz
                   · subst h; rw [hDy, e9]; exact rx_s
                   · exact rx_o (hhi k h1 (by omega)) h))
              | (rw [lc_lt] at c_42
                 rw [lc_ge] at c_57
                 have e9 := dx_skip hlm hok hw9 c_42 c_57
                 exact ih b0 _ _ _ (by omega) rfl hfr (fun k h1 h2 => hlo k h1 (by omega)) (fun k h1 h2 => by
                   by_cases h : k = m + sz
                   · subst h; rw [hDy, e9]; exact hlm
                   · exact hhi k h1 (by omega)))
              | (rw [lc_ge] at c_57
                 have e9 := dx_take hlm hok hw9 (Or.inr (Int64.not_le.mp c_57))
                 exact ih (u2 b0 4 (m + sz) (lN (ec (q.1 + bdN pa p * sz, q.2 + 2 ^ p)))) _ _ _ (by omega) rfl (b_fr hfr) (fun k h1 h2 => rx_o (hlo k h1 (by omega)) (by omega)) (fun k h1 h2 => by
                   by_cases h : k = m + sz
                   · subst h; rw [hDy, e9]; exact rx_s
                   · exact rx_o (hhi k h1 (by omega)) h))
  refine g_iload_1 (q := 1) C dX3_offerDeals_0 rfl ?_
  refine g_istore_5 (q := 3) C dX3_offerDeals_1 rfl (by rw [hN]; decide) rfl ?_
  refine lp (rc + 1) b _ _ _ (Nat.le_refl _) (nI_pred rc).symm (fun _ _ => rfl) (fun k h1 h2 => hr k h1) (fun k h1 h2 => ?_)
  have h3 := hr k h1
  rw [DP_far W (by omega) (by omega)] at h3
  rw [DP_y hmg (by rw [hsz]; omega), hsz, DP_far W (s := k) (by omega) (by omega), DP_far W (s := k - sz) (by omega) (by omega)]
  exact h3

def enX (x : Option (Nat × (Nat × Nat))) : Int64 := match x with
  | none => -1
  | some w => lN (ec w.2)
theorem bx_none (W : WP nF nP pa) (hn : nP ≤ 20) {fv : Int32} {ov k : Nat} {lv : Int64} (h : lv = enX (bsD (DP pa fv nP) ov k)) (c : lv < 0) : bsD (DP pa fv nP) ov k = none := by
  cases h9 : bsD (DP pa fv nP) ov k with
  | none => rfl
  | some w =>
    obtain ⟨h1, h2, h3⟩ := bsD_in h9
    have hk := DP_ok W hn fv (Nat.le_refl nP) w.1 w.2 h1
    have hs := ec_sm hk.1 hk.2
    rw [h9] at h
    rw [h] at c
    exact absurd c (lN_n0 (show ec w.2 < 2 ^ 62 by omega))
set_option maxHeartbeats 4000000 in
set_option maxRecDepth 100000 in
theorem m_X3_leastDeal (I : IX dm nF nP) (W : WP nF nP pa) {fv : Int32} {ov rc : Nat} (hov : ov ≤ 121) (hrc : sN pa (mgS pa fv) nP = rc) (hr : ∀ k, k < 121 → rpX (b 4) k (DP pa fv nP k)) : MT g bs l yX3_leastDeal cX3_leastDeal 8 (some .long) 1 0 0 [.ref (ad 0), .int (nI ov), .int (nI rc)] ad dm a b r (PX (some (.long (enX (bsD (DP pa fv nP) ov (rc + 1 - ov))))) ad dm a b r) := by
  refine mt_of (by decide) [some (.ref (ad 0)), some (.int (nI ov)), some (.int (nI rc)), none, none, none, none, none] rfl (Nat.le_of_ble_eq_true rfl) ?_
  intro E hg hbs hl hN C RT9 hcells hslots hname
  have hnF := I.1
  have hnP := I.2.1
  have hrc9 := sN_le W (mgS pa fv) (Nat.le_refl nP)
  have lp : ∀ (n s : Nat) (lv : Int64) (e6 e7 : Option Value), s + n = rc + 1 ∨ (n = 0 ∧ rc + 1 ≤ s ∧ s ≤ 200) → ov ≤ s → lv = enX (bsD (DP pa fv nP) ov (s - ov)) → G E 0 0 ad dm a b r 7 [some (.ref (ad 0)), some (.int (nI ov)), some (.int (nI rc)), some (.long lv), none, some (.int (nI s)), e6, e7] [] := by
    intro n
    induction n with
    | zero =>
      intro s lv e6 e7 hn hos hlv
      have hs9 : bsD (DP pa fv nP) ov (s - ov) = bsD (DP pa fv nP) ov (rc + 1 - ov) := by
        rcases Nat.lt_or_ge rc ov with h | h
        · rw [show rc + 1 - ov = 0 by omega, ← Nat.zero_add (s - ov)]
          exact bsD_none (k := 0) (fun x hx => DP_far W (Nat.le_refl _) (by omega)) (s - ov)
        · rw [show s - ov = (rc + 1 - ov) + (s - (rc + 1)) by omega]
          exact bsD_none (fun x hx => DP_far W (Nat.le_refl _) (by omega)) _
      rw [hs9] at hlv
      refine g_iload_5 (q := 9) C dX3_leastDeal_7 rfl ?_
      refine g_iload_2 (q := 10) C dX3_leastDeal_9 rfl ?_
      refine g_icmp_gt (tgt := 56) (q := 13) C dX3_leastDeal_10 rfl (by decide) (fun c_10 => ?_) (fun c_10 => absurd (nI_lt (by omega) (by omega)) c_10)
      refine g_lload_3 (q := 57) C dX3_leastDeal_56 rfl ?_
      exact g_lret C RT9 dX3_leastDeal_57 (px (by rw [hlv]))
    | succ n ih =>
      intro s lv e6 e7 hn hos hlv
      refine g_iload_5 (q := 9) C dX3_leastDeal_7 rfl ?_
      refine g_iload_2 (q := 10) C dX3_leastDeal_9 rfl ?_
      refine g_icmp_gt (tgt := 56) (q := 13) C dX3_leastDeal_10 rfl (by decide) (fun c_10 => absurd c_10 (nI_nlt (by omega) (by omega))) (fun c_10 => ?_)
      have hs := hr s (by omega)
      have hok := DP_ok W hnP fv (Nat.le_refl nP)
      have hstep : bsD (DP pa fv nP) ov (s + 1 - ov) = bsD (DP pa fv nP) ov (s - ov + 1) := by rw [show s + 1 - ov = s - ov + 1 by omega]
      refine g_aload_0 (q := 14) C dX3_leastDeal_13 rfl ?_
      refine g_getc (q := 17) (m := 4) C f_X3_25 dX3_leastDeal_14 rfl rfl (IX.d0 I _ (by decide)) ?_
      refine g_iload_5 (q := 19) C dX3_leastDeal_17 rfl ?_
      refine g_la (q := 20) C dX3_leastDeal_19 rfl rfl (IX.d0 I _ (by decide)) rfl (by omega) (by decide) ?_
      refine g_lstore_6 (q := 22) C dX3_leastDeal_20 rfl (by rw [hN]; decide) rfl ?_
      refine g_lload_6 (q := 24) C dX3_leastDeal_22 rfl ?_
      refine g_lconst (v := 0) (q := 25) C dX3_leastDeal_24 rfl rfl ?_
      refine g_lcmp (q := 26) C dX3_leastDeal_25 rfl ?_
      refine g_if_lt (tgt := 50) (q := 29) C dX3_leastDeal_26 rfl (by decide) (fun c_26 => ?_) (fun c_26 => ?_)
      · refine g_iinc_5 (v := nI (s + 1)) (q := 53) C dX3_leastDeal_50 rfl (by rw [hN]; decide) (nI_1 s) ?_
        refine g_goto (tgt := 7) C dX3_leastDeal_53 (by decide) ?_
        first
          | (rw [lc_lt] at c_26
             have e9 := dx_none hs (hok s) c_26
             exact ih (s + 1) _ _ _ (Or.inl (by omega)) (by omega) (by rw [hstep, bsD, show ov + (s - ov) = s by omega, e9]; exact hlv))
          | (rw [lc_lt] at c_32
             exact ih (s + 1) _ _ _ (Or.inl (by omega)) (by omega) (by rw [hstep, bsD, show ov + (s - ov) = s by omega, hD, bx_none W hnP hlv c_32]; rfl))
          | (rw [nI_leI (by omega) (by omega)] at c_44
             exact ih (s + 1) _ _ _ (Or.inl (by omega)) (by omega) (by rw [hstep, bsD, show ov + (s - ov) = s by omega, hD, ew]; dsimp only; rw [if_neg (by omega)]; rfl))
          | (rw [nI_leI (by omega) (by omega)] at c_44
             exact ih (s + 1) _ _ _ (Or.inl (by omega)) (by omega) (by rw [hstep, bsD, show ov + (s - ov) = s by omega, hD, ew]; dsimp only; rw [if_pos (by omega)]; rfl))
      · rw [lc_lt] at c_26
        obtain ⟨q, hD, b4⟩ := dx_some hs c_26
        have hqk := hok s q hD
        have hqs := ec_sm hqk.1 hqk.2
        rw [b4]
        refine g_lload_3 (q := 30) C dX3_leastDeal_29 rfl ?_
        refine g_lconst (v := 0) (q := 31) C dX3_leastDeal_30 rfl rfl ?_
        refine g_lcmp (q := 32) C dX3_leastDeal_31 rfl ?_
        refine g_if_lt (tgt := 47) (q := 35) C dX3_leastDeal_32 rfl (by decide) (fun c_32 => ?_) (fun c_32 => ?_)
        · refine g_lload_6 (q := 49) C dX3_leastDeal_47 rfl ?_
          refine g_lstore_3 (q := 50) C dX3_leastDeal_49 rfl (by rw [hN]; decide) rfl ?_
          refine g_iinc_5 (v := nI (s + 1)) (q := 53) C dX3_leastDeal_50 rfl (by rw [hN]; decide) (nI_1 s) ?_
          refine g_goto (tgt := 7) C dX3_leastDeal_53 (by decide) ?_
          first
            | (rw [lc_lt] at c_26
               have e9 := dx_none hs (hok s) c_26
               exact ih (s + 1) _ _ _ (Or.inl (by omega)) (by omega) (by rw [hstep, bsD, show ov + (s - ov) = s by omega, e9]; exact hlv))
            | (rw [lc_lt] at c_32
               exact ih (s + 1) _ _ _ (Or.inl (by omega)) (by omega) (by rw [hstep, bsD, show ov + (s - ov) = s by omega, hD, bx_none W hnP hlv c_32]; rfl))
            | (rw [nI_leI (by omega) (by omega)] at c_44
               exact ih (s + 1) _ _ _ (Or.inl (by omega)) (by omega) (by rw [hstep, bsD, show ov + (s - ov) = s by omega, hD, ew]; dsimp only; rw [if_neg (by omega)]; rfl))
            | (rw [nI_leI (by omega) (by omega)] at c_44
               exact ih (s + 1) _ _ _ (Or.inl (by omega)) (by omega) (by rw [hstep, bsD, show ov + (s - ov) = s by omega, hD, ew]; dsimp only; rw [if_pos (by omega)]; rfl))
        · rw [lc_lt] at c_32
          obtain ⟨w, ew⟩ : ∃ w, bsD (DP pa fv nP) ov (s - ov) = some w := by
            cases h9 : bsD (DP pa fv nP) ov (s - ov) with
            | none => exact absurd (by rw [hlv, h9]; decide) c_32
            | some w => exact ⟨w, rfl⟩
          obtain ⟨w1, w2, w3⟩ := bsD_in ew
          have hwk := hok w.1 w.2 w1
          have hws := ec_sm hwk.1 hwk.2
          have hlv2 : lv = lN (ec w.2) := by rw [hlv, ew]; rfl
          subst hlv2
          refine g_lload_6 (q := 37) C dX3_leastDeal_35 rfl ?_
          refine g_cs1i (q := 40) C cs_X3_143 dX3_leastDeal_37 rfl (m_X3_coinOfDeal (n := ec q) (by omega) rfl) (by decide) (Nat.le_of_ble_eq_true rfl) ⟨Nat.zero_le _, Nat.zero_le _⟩ ?_
          refine g_lload_3 (q := 41) C dX3_leastDeal_40 rfl ?_
          refine g_cs1i (q := 44) C cs_X3_143 dX3_leastDeal_41 rfl (m_X3_coinOfDeal (n := ec w.2) (by omega) rfl) (by decide) (Nat.le_of_ble_eq_true rfl) ⟨Nat.zero_le _, Nat.zero_le _⟩ ?_
          rw [ec_div hqk.2, ec_div hwk.2]
          refine g_icmp_ge (tgt := 50) (q := 47) C dX3_leastDeal_44 rfl (by decide) (fun c_44 => ?_) (fun c_44 => ?_)
          · refine g_iinc_5 (v := nI (s + 1)) (q := 53) C dX3_leastDeal_50 rfl (by rw [hN]; decide) (nI_1 s) ?_
            refine g_goto (tgt := 7) C dX3_leastDeal_53 (by decide) ?_
            first
              | (rw [lc_lt] at c_26
                 have e9 := dx_none hs (hok s) c_26
                 exact ih (s + 1) _ _ _ (Or.inl (by omega)) (by omega) (by rw [hstep, bsD, show ov + (s - ov) = s by omega, e9]; exact hlv))
              | (rw [lc_lt] at c_32
                 exact ih (s + 1) _ _ _ (Or.inl (by omega)) (by omega) (by rw [hstep, bsD, show ov + (s - ov) = s by omega, hD, bx_none W hnP hlv c_32]; rfl))
              | (rw [nI_leI (by omega) (by omega)] at c_44
                 exact ih (s + 1) _ _ _ (Or.inl (by omega)) (by omega) (by rw [hstep, bsD, show ov + (s - ov) = s by omega, hD, ew]; dsimp only; rw [if_neg (by omega)]; rfl))
              | (rw [nI_leI (by omega) (by omega)] at c_44
                 exact ih (s + 1) _ _ _ (Or.inl (by omega)) (by omega) (by rw [hstep, bsD, show ov + (s - ov) = s by omega, hD, ew]; dsimp only; rw [if_pos (by omega)]; rfl))
          · refine g_lload_6 (q := 49) C dX3_leastDeal_47 rfl ?_
            refine g_lstore_3 (q := 50) C dX3_leastDeal_49 rfl (by rw [hN]; decide) rfl ?_
            refine g_iinc_5 (v := nI (s + 1)) (q := 53) C dX3_leastDeal_50 rfl (by rw [hN]; decide) (nI_1 s) ?_
            refine g_goto (tgt := 7) C dX3_leastDeal_53 (by decide) ?_
            first
              | (rw [lc_lt] at c_26
                 have e9 := dx_none hs (hok s) c_26
                 exact ih (s + 1) _ _ _ (Or.inl (by omega)) (by omega) (by rw [hstep, bsD, show ov + (s - ov) = s by omega, e9]; exact hlv))
              | (rw [lc_lt] at c_32
                 exact ih (s + 1) _ _ _ (Or.inl (by omega)) (by omega) (by rw [hstep, bsD, show ov + (s - ov) = s by omega, hD, bx_none W hnP hlv c_32]; rfl))
              | (rw [nI_leI (by omega) (by omega)] at c_44
                 exact ih (s + 1) _ _ _ (Or.inl (by omega)) (by omega) (by rw [hstep, bsD, show ov + (s - ov) = s by omega, hD, ew]; dsimp only; rw [if_neg (by omega)]; rfl))
              | (rw [nI_leI (by omega) (by omega)] at c_44
                 exact ih (s + 1) _ _ _ (Or.inl (by omega)) (by omega) (by rw [hstep, bsD, show ov + (s - ov) = s by omega, hD, ew]; dsimp only; rw [if_pos (by omega)]; rfl))
  refine g_ldc2 (q := 3) C dX3_leastDeal_0 rfl k_X3_236 ?_
  refine g_lstore_3 (q := 4) C dX3_leastDeal_3 rfl (by rw [hN]; decide) rfl ?_
  refine g_iload_1 (q := 5) C dX3_leastDeal_4 rfl ?_
  refine g_istore_5 (q := 7) C dX3_leastDeal_5 rfl (by rw [hN]; decide) rfl ?_
  rcases Nat.lt_or_ge rc ov with h | h
  · exact lp 0 ov (-1) _ _ (Or.inr ⟨rfl, by omega, by omega⟩) (Nat.le_refl _) (by rw [Nat.sub_self]; rfl)
  · exact lp (rc + 1 - ov) ov (-1) _ _ (Or.inl (by omega)) (Nat.le_refl _) (by rw [Nat.sub_self]; rfl)

theorem cd_eq (W : WP nF nP pa) {fv : Int32} {ov : Nat} : bsD (DP pa fv nP) ov (sN pa (mgS pa fv) nP + 1 - ov) = bsD (DP pa fv nP) ov (121 - ov) ∨ 120 < sN pa (mgS pa fv) nP := by
  rcases Nat.lt_or_ge 120 (sN pa (mgS pa fv) nP) with h | h
  · exact Or.inr h
  · refine Or.inl ?_
    rcases Nat.lt_or_ge (sN pa (mgS pa fv) nP) ov with h2 | h2
    · rw [show sN pa (mgS pa fv) nP + 1 - ov = 0 by omega, ← Nat.zero_add (121 - ov)]
      exact (bsD_none (k := 0) (fun x hx => DP_far W (Nat.le_refl _) (by omega)) _).symm
    · rw [show 121 - ov = (sN pa (mgS pa fv) nP + 1 - ov) + (120 - sN pa (mgS pa fv) nP) by omega]
      exact (bsD_none (fun x hx => DP_far W (Nat.le_refl _) (by omega)) _).symm
set_option maxHeartbeats 4000000 in
set_option maxRecDepth 100000 in
theorem m_X3_cheapestDeal (X : XR nF nP fl pa nu dm a r) (W : WP nF nP pa) {f ov : Nat} (hf : f < nF) (hov9 : ov ≤ 121) : MT g bs l yX3_cheapestDeal cX3_cheapestDeal 6 (some .long) 2 0 0 [.ref (ad 0), .ref (ad (20 + f)), .int (nI ov)] ad dm a b r (fun v ad0 dm0 a0 b0 r0 => v = some (.long (enX (bsD (DP pa (nI f) nP) ov (121 - ov)))) ∧ ad0 = ad ∧ dm0 = dm ∧ a0 = a ∧ r0 = r ∧ ∀ n, n ≠ 4 → b0 n = b n) := by
  refine mt_of (by decide) [some (.ref (ad 0)), some (.ref (ad (20 + f))), some (.int (nI ov)), none, none, none] rfl (Nat.le_of_ble_eq_true rfl) ?_
  intro E hg hbs hl hN C RT9 hcells hslots hname
  have I := X.1
  have hnF := I.1
  have hnP := I.2.1
  have lo2p : ∀ (n i rc : Nat) (b0 : Nat → Nat → Int64) (e5 : Option Value), i + n = nP → rc = sN pa (mgS pa (nI f)) i → (∀ n, n ≠ 4 → b0 n = b n) → (∀ k, k < 121 → rpX (b0 4) k (DP pa (nI f) i k)) → G E 0 0 ad dm a b0 r 38 [some (.ref (ad 0)), some (.ref (ad (20 + f))), some (.int (nI ov)), some (.int (nI rc)), some (.int (nI i)), e5] [] := by
    intro n
    induction n with
    | zero =>
      intro i rc b0 e5 hi hrc hfr hr
      refine g_iload_4 (q := 40) C dX3_cheapestDeal_38 rfl ?_
      refine g_aload_0 (q := 41) C dX3_cheapestDeal_40 rfl ?_
      refine g_geti (q := 44) C f_X3_40 dX3_cheapestDeal_41 rfl rfl (IX.d0 I _ (by decide)) ?_
      refine g_icmp_ge (tgt := 125) (q := 47) C dX3_cheapestDeal_44 rfl (by decide) (fun c_44 => ?_) (fun c_44 => absurd (by rw [X.nP]; exact nI_le (by omega) (by omega)) c_44)
      have hi9 : i = nP := by omega
      subst hi9
      subst hrc
      refine g_aload_0 (q := 126) C dX3_cheapestDeal_125 rfl ?_
      refine g_iload_2 (q := 127) C dX3_cheapestDeal_126 rfl ?_
      refine g_iload_3 (q := 128) C dX3_cheapestDeal_127 rfl ?_
      refine g_cv2i (q := 131) C cv_X3_245 dX3_cheapestDeal_128 rfl rfl (IX.d0 I _ (by decide)) (m_X3_leastDeal I W hov9 rfl hr) (by decide) (Nat.le_of_ble_eq_true rfl) ⟨Nat.zero_le _, Nat.zero_le _⟩ ?_
      exact g_lret C RT9 dX3_cheapestDeal_131 ⟨by rw [(cd_eq W (fv := nI f) (ov := ov)).resolve_right (by have := sN_le W (mgS pa (nI f)) (Nat.le_refl i); omega)], rfl, rfl, rfl, rfl, hfr⟩
    | succ n ih =>
      intro i rc b0 e5 hi hrc hfr hr
      have hip : i < nP := by omega
      have hz := sz_ok W hip
      have hrl := sN_le W (mgS pa (nI f)) (n := i) (by omega)
      obtain ⟨o, ho, ro, eo, e1, e2, e3, e4x, e5x, e6, w7, w8⟩ := X.pt hip
      have es1 : a (30 + i) 1 = nI (szN pa i) := by rw [← e1]; exact hz.1
      have hz6 : szN pa i ≤ 6 := hz.2.2
      have hz1 : 1 ≤ szN pa i := hz.2.1
      refine g_iload_4 (q := 40) C dX3_cheapestDeal_38 rfl ?_
      refine g_aload_0 (q := 41) C dX3_cheapestDeal_40 rfl ?_
      refine g_geti (q := 44) C f_X3_40 dX3_cheapestDeal_41 rfl rfl (IX.d0 I _ (by decide)) ?_
      refine g_icmp_ge (tgt := 125) (q := 47) C dX3_cheapestDeal_44 rfl (by decide) (fun c_44 => absurd c_44 (by rw [X.nP]; exact nI_ge (by omega) (by omega))) (fun c_44 => ?_)
      refine g_aload_0 (q := 48) C dX3_cheapestDeal_47 rfl ?_
      refine g_getc (q := 51) (m := 2) C f_X3_17 dX3_cheapestDeal_48 rfl rfl (IX.d0 I _ (by decide)) ?_
      refine g_iload_4 (q := 53) C dX3_cheapestDeal_51 rfl ?_
      refine g_aaP (q := 54) C dX3_cheapestDeal_53 rfl rfl (IX.d0 I _ (by decide)) rfl (by omega) (by decide) (XR.rp X (by assumption)) ?_
      refine g_astore_5 (q := 56) C dX3_cheapestDeal_54 rfl (by rw [hN]; decide) rfl ?_
      refine g_aload_5 (q := 58) C dX3_cheapestDeal_56 rfl ?_
      refine g_aload_1 (q := 59) C dX3_cheapestDeal_58 rfl ?_
      refine g_cv1i (q := 62) C cv_X3_238 dX3_cheapestDeal_59 rfl (IX.lp I (by assumption)) (IX.dp I (by assumption)) (m_X2_wouldGive X (by assumption) (by assumption)) (by decide) (Nat.le_of_ble_eq_true rfl) ⟨Nat.zero_le _, Nat.zero_le _⟩ ?_
      refine g_ifeqb (tgt := 119) (q := 65) C dX3_cheapestDeal_62 rfl (by decide) (fun c_62 => ?_) (fun c_62 => ?_)
      · refine g_iinc_4 (v := nI (i + 1)) (q := 122) C dX3_cheapestDeal_119 rfl (by rw [hN]; decide) (nI_1 i) ?_
        refine g_goto (tgt := 38) C dX3_cheapestDeal_122 (by decide) ?_
        first
          | exact ih (i + 1) _ _ _ (by omega) hsn.symm (fun n hn => (hfr2 n hn).trans (hfr n hn)) hr2
          | exact ih (i + 1) _ _ _ (by omega) (by rw [hrc]; show _ = (if mgS pa (nI f) i = true then _ else _); rw [if_neg (by rw [c_62]; decide)]) hfr (fun k hk9 => by rw [DP_n c_62]; exact hr k hk9)
      · have hbd := bd_ok W hip c_62
        have es3 : a (30 + i) 3 = nI (bdN pa i) := by rw [← e3]; exact hbd.1
        have hmul : bdN pa i * szN pa i ≤ 999 * 6 := Nat.mul_le_mul hbd.2 hz.2.2
        have hsn : sN pa (mgS pa (nI f)) (i + 1) = rc + szN pa i := by rw [hrc]; show (if mgS pa (nI f) i = true then _ else _) = _; rw [if_pos c_62]
        refine g_iload_3 (q := 66) C dX3_cheapestDeal_65 rfl ?_
        refine g_aload_5 (q := 68) C dX3_cheapestDeal_66 rfl ?_
        refine g_geti (q := 71) C f_X3_102 dX3_cheapestDeal_68 rfl (IX.lp I (by assumption)) (IX.dp I (by assumption)) ?_
        refine g_iadd (q := 72) C dX3_cheapestDeal_71 rfl ?_
        refine g_aload_0 (q := 73) C dX3_cheapestDeal_72 rfl ?_
        refine g_getc (q := 76) (m := 4) C f_X3_25 dX3_cheapestDeal_73 rfl rfl (IX.d0 I _ (by decide)) ?_
        refine g_alen (v := 121) (q := 77) C dX3_cheapestDeal_76 rfl rfl (by decide) (IX.d0 I _ (by decide)) rfl ?_
        refine g_icmp_ge (tgt := 119) (q := 80) C dX3_cheapestDeal_77 rfl (by decide) (fun c_77 => absurd c_77 (by rw [es1, nI_add]; exact nI_ge (b := 121) (by omega) (by omega))) (fun c_77 => ?_)
        refine g_aload_0 (q := 81) C dX3_cheapestDeal_80 rfl ?_
        refine g_iload_3 (q := 82) C dX3_cheapestDeal_81 rfl ?_
        refine g_aload_5 (q := 84) C dX3_cheapestDeal_82 rfl ?_
        refine g_geti (q := 87) C f_X3_102 dX3_cheapestDeal_84 rfl (IX.lp I (by assumption)) (IX.dp I (by assumption)) ?_
        refine g_aload_5 (q := 89) C dX3_cheapestDeal_87 rfl ?_
        refine g_geti (q := 92) C f_X3_151 dX3_cheapestDeal_89 rfl (IX.lp I (by assumption)) (IX.dp I (by assumption)) ?_
        refine g_i2l (q := 93) C dX3_cheapestDeal_92 rfl ?_
        refine g_aload_5 (q := 95) C dX3_cheapestDeal_93 rfl ?_
        refine g_geti (q := 98) C f_X3_102 dX3_cheapestDeal_95 rfl (IX.lp I (by assumption)) (IX.dp I (by assumption)) ?_
        refine g_i2l (q := 99) C dX3_cheapestDeal_98 rfl ?_
        refine g_lmul (q := 100) C dX3_cheapestDeal_99 rfl ?_
        refine g_bipush (v := 20) (q := 102) C dX3_cheapestDeal_100 rfl (by decide) ?_
        refine g_lshl (q := 103) C dX3_cheapestDeal_102 rfl ?_
        refine g_lconst (v := 1) (q := 104) C dX3_cheapestDeal_103 rfl rfl ?_
        refine g_iload_4 (q := 106) C dX3_cheapestDeal_104 rfl ?_
        refine g_lshl (q := 107) C dX3_cheapestDeal_106 rfl ?_
        refine g_ladd (q := 108) C dX3_cheapestDeal_107 rfl ?_
        rw [es1, es3, nI_l (by omega), nI_l (by omega), lN_mul, y_sh20, y_shl i (by omega), lN_add]
        refine g_cv3g (q := 111) C cv_X3_241 dX3_cheapestDeal_108 rfl rfl (IX.d0 I _ (by decide)) (m_X3_offerDeals I W hip rfl hz.2.1 hz.2.2 c_62 hrc.symm (by omega) rfl hr) (by decide) (Nat.le_of_ble_eq_true rfl) ⟨Nat.zero_le _, Nat.zero_le _⟩ (fun v ad' dm' a' b' r' hp => ?_)
        obtain ⟨rfl, rfl, rfl, rfl, rfl, hfr2, hr2⟩ := hp
        change G E 0 0 _ _ _ b' _ 111 _ []
        refine g_iload_3 (q := 112) C dX3_cheapestDeal_111 rfl ?_
        refine g_aload_5 (q := 114) C dX3_cheapestDeal_112 rfl ?_
        refine g_geti (q := 117) C f_X3_102 dX3_cheapestDeal_114 rfl (IX.lp I (by assumption)) (IX.dp I (by assumption)) ?_
        refine g_iadd (q := 118) C dX3_cheapestDeal_117 rfl ?_
        rw [es1, nI_add]
        refine g_istore_3 (q := 119) C dX3_cheapestDeal_118 rfl (by rw [hN]; decide) rfl ?_
        refine g_iinc_4 (v := nI (i + 1)) (q := 122) C dX3_cheapestDeal_119 rfl (by rw [hN]; decide) (nI_1 i) ?_
        refine g_goto (tgt := 38) C dX3_cheapestDeal_122 (by decide) ?_
        first
          | exact ih (i + 1) _ _ _ (by omega) hsn.symm (fun n hn => (hfr2 n hn).trans (hfr n hn)) hr2
          | exact ih (i + 1) _ _ _ (by omega) (by rw [hrc]; show _ = (if mgS pa (nI f) i = true then _ else _); rw [if_neg (by rw [c_62]; decide)]) hfr (fun k hk9 => by rw [DP_n c_62]; exact hr k hk9)
  have lo1p : ∀ (n s : Nat) (b0 : Nat → Nat → Int64), s + n = 121 → (∀ n, n ≠ 4 → b0 n = b n) → (∀ k, k < s → b0 4 k = -1) → G E 0 0 ad dm a b0 r 2 [some (.ref (ad 0)), some (.ref (ad (20 + f))), some (.int (nI ov)), some (.int (nI s)), none, none] [] := by
    intro n
    induction n with
    | zero =>
      intro s b0 hn hfr hr
      refine g_iload_3 (q := 3) C dX3_cheapestDeal_2 rfl ?_
      refine g_aload_0 (q := 4) C dX3_cheapestDeal_3 rfl ?_
      refine g_getc (q := 7) (m := 4) C f_X3_25 dX3_cheapestDeal_4 rfl rfl (IX.d0 I _ (by decide)) ?_
      refine g_alen (v := 121) (q := 8) C dX3_cheapestDeal_7 rfl rfl (by decide) (IX.d0 I _ (by decide)) rfl ?_
      refine g_icmp_ge (tgt := 26) (q := 11) C dX3_cheapestDeal_8 rfl (by decide) (fun c_8 => ?_) (fun c_8 => absurd (nI_le (a := 121) (by omega) (by omega)) c_8)
      refine g_aload_0 (q := 27) C dX3_cheapestDeal_26 rfl ?_
      refine g_getc (q := 30) (m := 4) C f_X3_25 dX3_cheapestDeal_27 rfl rfl (IX.d0 I _ (by decide)) ?_
      refine g_iconst (v := 0) (q := 31) C dX3_cheapestDeal_30 rfl (by decide) ?_
      refine g_lconst (v := 0) (q := 32) C dX3_cheapestDeal_31 rfl rfl ?_
      refine g_last (q := 33) C dX3_cheapestDeal_32 rfl rfl (IX.d0 I _ (by decide)) (show _ = nI 0 from rfl) (by decide) (by decide) ?_
      refine g_iconst (v := 0) (q := 34) C dX3_cheapestDeal_33 rfl (by decide) ?_
      refine g_istore_3 (q := 35) C dX3_cheapestDeal_34 rfl (by rw [hN]; decide) rfl ?_
      refine g_iconst (v := 0) (q := 36) C dX3_cheapestDeal_35 rfl (by decide) ?_
      refine g_istore_4 (q := 38) C dX3_cheapestDeal_36 rfl (by rw [hN]; decide) rfl ?_
      have hz0 : sN pa (mgS pa (nI f)) 0 = 0 := rfl
      exact lo2p nP 0 0 _ none (by omega) hz0.symm (b_fr hfr) (fun k hk9 => by
        by_cases h : k = 0
        · subst h; rw [DP, if_pos rfl]; exact u2_s
        · rw [DP, if_neg h]; exact (u2_k h _).trans (hr k (by omega)))
    | succ n ih =>
      intro s b0 hn hfr hr
      refine g_iload_3 (q := 3) C dX3_cheapestDeal_2 rfl ?_
      refine g_aload_0 (q := 4) C dX3_cheapestDeal_3 rfl ?_
      refine g_getc (q := 7) (m := 4) C f_X3_25 dX3_cheapestDeal_4 rfl rfl (IX.d0 I _ (by decide)) ?_
      refine g_alen (v := 121) (q := 8) C dX3_cheapestDeal_7 rfl rfl (by decide) (IX.d0 I _ (by decide)) rfl ?_
      refine g_icmp_ge (tgt := 26) (q := 11) C dX3_cheapestDeal_8 rfl (by decide) (fun c_8 => absurd c_8 (nI_ge (b := 121) (by omega) (by omega))) (fun c_8 => ?_)
      refine g_aload_0 (q := 12) C dX3_cheapestDeal_11 rfl ?_
      refine g_getc (q := 15) (m := 4) C f_X3_25 dX3_cheapestDeal_12 rfl rfl (IX.d0 I _ (by decide)) ?_
      refine g_iload_3 (q := 16) C dX3_cheapestDeal_15 rfl ?_
      refine g_ldc2 (q := 19) C dX3_cheapestDeal_16 rfl k_X3_236 ?_
      refine g_last (q := 20) C dX3_cheapestDeal_19 rfl rfl (IX.d0 I _ (by decide)) rfl (by omega) (by decide) ?_
      refine g_iinc_3 (v := nI (s + 1)) (q := 23) C dX3_cheapestDeal_20 rfl (by rw [hN]; decide) (nI_1 s) ?_
      refine g_goto (tgt := 2) C dX3_cheapestDeal_23 (by decide) ?_
      exact ih (s + 1) _ (by omega) (b_fr hfr) (fun k hk9 => by
        by_cases h : k = s
        · subst h; exact u2_s
        · exact (u2_k h _).trans (hr k (by omega)))
  refine g_iconst (v := 0) (q := 1) C dX3_cheapestDeal_0 rfl (by decide) ?_
  refine g_istore_3 (q := 2) C dX3_cheapestDeal_1 rfl (by rw [hN]; decide) rfl ?_
  exact lo1p 121 0 b (by omega) (fun _ _ => rfl) (fun k hk => by omega)

end D28
