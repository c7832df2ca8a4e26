section X43
variable {g : GM} {bs : Nat} {l : Launch} {ad : Nat → Nat} {dm : Nat → Bool} {a : Nat → Nat → Int32} {b : Nat → Nat → Int64} {r : Nat → Nat → Option Nat} {nF nP : Nat} {fl pa nu : Nat → Int32}
variable {D : MD} {q : Nat → Nat} {tw : Nat → Option Nat}
def lastT (f : Nat → Bool) : Nat → Option Nat
  | 0 => none
  | i + 1 => if f i = true then some i else lastT f i
theorem lastT_s {f : Nat → Bool} {t : Nat} : ∀ {i : Nat}, lastT f i = some t → t < i ∧ f t = true
  | 0, h => by cases h
  | i + 1, h => by
    unfold lastT at h
    split at h
    · next h2 => cases h; exact ⟨by omega, h2⟩
    · have := lastT_s h
      exact ⟨by omega, this.2⟩
set_option maxHeartbeats 4000000 in
set_option maxRecDepth 100000 in
theorem m_X1_begin (I : IX dm nF nP) : MT g bs l yX1_begin cX1_begin 1 none 0 0 0 [.ref (ad 5)] ad dm a b r (PX none ad dm (u2 a 5 12 (nI 0)) (u2 b 5 11 (lN 0)) r) := by
  refine mt_of (by decide) [some (.ref (ad 5))] rfl (Nat.le_of_ble_eq_true rfl) ?_
  intro E hg hbs hl hN C RT9 hcells hslots hname
  refine g_aload_0 (q := 1) C dX1_begin_0 rfl ?_
  refine g_iconst (v := 0) (q := 2) C dX1_begin_1 rfl (by decide) ?_
  refine g_puti (q := 5) C p_X1_56 dX1_begin_2 rfl rfl (IX.d0 I _ (by decide)) rfl rfl ?_
  refine g_aload_0 (q := 6) C dX1_begin_5 rfl ?_
  refine g_lconst (v := 0) (q := 7) C dX1_begin_6 rfl rfl ?_
  refine g_putl (q := 10) C p_X1_52 dX1_begin_7 rfl rfl (IX.d0 I _ (by decide)) rfl rfl ?_
  exact g_vret C RT9 dX1_begin_10 (px rfl)

set_option maxHeartbeats 4000000 in
set_option maxRecDepth 100000 in
theorem m_X1_putWay_n (I : IX dm nF nP) {j f : Nat} (hj : j < 72) (hf : f < nF) (v : Int32) (v2 : Int64) : MT g bs l yX1_putWay cX1_putWay 7 none 0 0 0 [.ref (ad 5), .int (nI j), .ref (ad (20 + f)), .null, .int v, .long v2] ad dm a b r (PX none ad dm (u2 a 15 j v) (u2 b 16 j v2) (u2 (u2 r 13 j (some (20 + f))) 14 j (none))) := by
  refine mt_of (by decide) [some (.ref (ad 5)), some (.int (nI j)), some (.ref (ad (20 + f))), some (.null), some (.int v), some (.long v2), none] rfl (Nat.le_of_ble_eq_true rfl) ?_
  intro E hg hbs hl hN C RT9 hcells hslots hname
  refine g_aload_0 (q := 1) C dX1_putWay_0 rfl ?_
  refine g_getc (q := 4) (m := 13) C f_X1_38 dX1_putWay_1 rfl rfl (IX.d0 I _ (by decide)) ?_
  refine g_iload_1 (q := 5) C dX1_putWay_4 rfl ?_
  refine g_aload_2 (q := 6) C dX1_putWay_5 rfl ?_
  refine g_aastF (q := 7) C dX1_putWay_6 rfl rfl (IX.d0 I _ (by decide)) (IX.df I (by assumption)) (IX.lf I (by assumption)) rfl (by omega) (by decide) ?_
  refine g_aload_0 (q := 8) C dX1_putWay_7 rfl ?_
  refine g_getc (q := 11) (m := 14) C f_X1_42 dX1_putWay_8 rfl rfl (IX.d0 I _ (by decide)) ?_
  refine g_iload_1 (q := 12) C dX1_putWay_11 rfl ?_
  refine g_aload_3N (q := 13) C dX1_putWay_12 rfl ?_
  refine g_aastFN (q := 14) C dX1_putWay_13 rfl rfl (IX.d0 I _ (by decide)) rfl (by omega) (by decide) ?_
  refine g_aload_0 (q := 15) C dX1_putWay_14 rfl ?_
  refine g_getc (q := 18) (m := 15) C f_X1_45 dX1_putWay_15 rfl rfl (IX.d0 I _ (by decide)) ?_
  refine g_iload_1 (q := 19) C dX1_putWay_18 rfl ?_
  refine g_iload_4 (q := 21) C dX1_putWay_19 rfl ?_
  refine g_iast (q := 22) C dX1_putWay_21 rfl rfl (IX.d0 I _ (by decide)) rfl (by omega) (by decide) ?_
  refine g_aload_0 (q := 23) C dX1_putWay_22 rfl ?_
  refine g_getc (q := 26) (m := 16) C f_X1_48 dX1_putWay_23 rfl rfl (IX.d0 I _ (by decide)) ?_
  refine g_iload_1 (q := 27) C dX1_putWay_26 rfl ?_
  refine g_lload_5 (q := 29) C dX1_putWay_27 rfl ?_
  refine g_last (q := 30) C dX1_putWay_29 rfl rfl (IX.d0 I _ (by decide)) rfl (by omega) (by decide) ?_
  exact g_vret C RT9 dX1_putWay_30 (px rfl)

set_option maxHeartbeats 4000000 in
set_option maxRecDepth 100000 in
theorem m_X1_putWay_r (I : IX dm nF nP) {j f fb : Nat} (hj : j < 72) (hf : f < nF) (hfb : fb < nF) (v : Int32) (v2 : Int64) : MT g bs l yX1_putWay cX1_putWay 7 none 0 0 0 [.ref (ad 5), .int (nI j), .ref (ad (20 + f)), .ref (ad (20 + fb)), .int v, .long v2] ad dm a b r (PX none ad dm (u2 a 15 j v) (u2 b 16 j v2) (u2 (u2 r 13 j (some (20 + f))) 14 j (some (20 + fb)))) := by
  refine mt_of (by decide) [some (.ref (ad 5)), some (.int (nI j)), some (.ref (ad (20 + f))), some (.ref (ad (20 + fb))), some (.int v), some (.long v2), none] rfl (Nat.le_of_ble_eq_true rfl) ?_
  intro E hg hbs hl hN C RT9 hcells hslots hname
  refine g_aload_0 (q := 1) C dX1_putWay_0 rfl ?_
  refine g_getc (q := 4) (m := 13) C f_X1_38 dX1_putWay_1 rfl rfl (IX.d0 I _ (by decide)) ?_
  refine g_iload_1 (q := 5) C dX1_putWay_4 rfl ?_
  refine g_aload_2 (q := 6) C dX1_putWay_5 rfl ?_
  refine g_aastF (q := 7) C dX1_putWay_6 rfl rfl (IX.d0 I _ (by decide)) (IX.df I hf) (IX.lf I hf) rfl (by omega) (by decide) ?_
  refine g_aload_0 (q := 8) C dX1_putWay_7 rfl ?_
  refine g_getc (q := 11) (m := 14) C f_X1_42 dX1_putWay_8 rfl rfl (IX.d0 I _ (by decide)) ?_
  refine g_iload_1 (q := 12) C dX1_putWay_11 rfl ?_
  refine g_aload_3 (q := 13) C dX1_putWay_12 rfl ?_
  refine g_aastF (q := 14) C dX1_putWay_13 rfl rfl (IX.d0 I _ (by decide)) (IX.df I hfb) (IX.lf I hfb) rfl (by omega) (by decide) ?_
  refine g_aload_0 (q := 15) C dX1_putWay_14 rfl ?_
  refine g_getc (q := 18) (m := 15) C f_X1_45 dX1_putWay_15 rfl rfl (IX.d0 I _ (by decide)) ?_
  refine g_iload_1 (q := 19) C dX1_putWay_18 rfl ?_
  refine g_iload_4 (q := 21) C dX1_putWay_19 rfl ?_
  refine g_iast (q := 22) C dX1_putWay_21 rfl rfl (IX.d0 I _ (by decide)) rfl (by omega) (by decide) ?_
  refine g_aload_0 (q := 23) C dX1_putWay_22 rfl ?_
  refine g_getc (q := 26) (m := 16) C f_X1_48 dX1_putWay_23 rfl rfl (IX.d0 I _ (by decide)) ?_
  refine g_iload_1 (q := 27) C dX1_putWay_26 rfl ?_
  refine g_lload_5 (q := 29) C dX1_putWay_27 rfl ?_
  refine g_last (q := 30) C dX1_putWay_29 rfl rfl (IX.d0 I _ (by decide)) rfl (by omega) (by decide) ?_
  exact g_vret C RT9 dX1_putWay_30 (px rfl)

/-! from the kit's laws (bits): a shift to the left -/
theorem wb_tb (n : Nat) : (lN n).toBitVec = BitVec.ofNat 64 n := rfl
theorem wb_inj {a b : Int64} (h : a.toBitVec = b.toBitVec) : a = b := Int64.toBitVec_inj.mp h
theorem wb_c : ∀ k, k < 64 → ((nI k).toInt64 &&& 63) = lN k := by decide +kernel
theorem wb_sm : ∀ k, k < 64 → (BitVec.ofNat 64 k).smod 64 = BitVec.ofNat 64 k := by decide +kernel
theorem wb_shl (n : Nat) {k : Nat} (hk : k < 64) : lN n <<< ((nI k).toInt64 &&& 63) = lN (n * 2 ^ k) := by
  rw [wb_c k hk]
  apply wb_inj
  rw [Int64.toBitVec_shiftLeft, wb_tb, wb_tb, wb_tb, wb_sm k hk]
  apply BitVec.eq_of_toNat_eq
  rw [BitVec.shiftLeft_eq', BitVec.toNat_shiftLeft, BitVec.toNat_ofNat, BitVec.toNat_ofNat, BitVec.toNat_ofNat, Nat.mod_eq_of_lt (show k < 2 ^ 64 by omega), Nat.shiftLeft_eq, Nat.mul_mod, Nat.mod_mod, ← Nat.mul_mod]
theorem wo_eq {sz l p t : Nat} (hl : l ≤ 9999) (hp : p < 15) (ht : t < 6) (hs : sz ≤ 6) : (lN sz * (nI 360000 - nI l).toInt64) <<< ((24 : Int32).toInt64 &&& 63) + ((15 : Int32) - nI p).toInt64 <<< (((4 : Int32) * ((5 : Int32) - nI t)).toInt64 &&& 63) = lN (sz * (360000 - l) * 16777216 + (15 - p) * 16 ^ (5 - t)) := by
  rw [pk_sub (by omega), nI_l (by omega), lN_mul, show (24 : Int32) = nI 24 from rfl, wb_shl _ (by decide), show (15 : Int32) = nI 15 from rfl, pk_sub (by omega), nI_l (by omega), show (5 : Int32) = nI 5 from rfl, pk_sub (by omega), show (4 : Int32) = nI 4 from rfl, pk_mul, wb_shl _ (by omega), lN_add, Nat.pow_mul]
set_option maxHeartbeats 4000000 in
set_option maxRecDepth 100000 in
theorem m_X1_worthOf (I : IX dm nF nP) {i p q0 l9 : Nat} (hi : i < 6) (hr6 : r 6 i = some (30 + q0)) (hq0 : q0 < nP) (hsz : a (30 + q0) 1 = nI (D.1 i)) (hs6 : D.1 i ≤ 6) (htn : a 7 i = nI (D.2.2.2.2 i)) (htl : D.2.2.2.2 i < 6) (hp : p < D.2.1 i) (hp2 : D.2.1 i ≤ 12) (hl8 : D.2.2.2.1 i p = l9) (hl9 : l9 ≤ 9999) : MT g bs l yX1_worthOf cX1_worthOf 8 (some .long) 0 0 0 [.ref (ad 5), .int (nI i), .int (nI l9), .int (nI p)] ad dm a b r (PX (some (.long (lN (mW D i p)))) ad dm a b r) := by
  refine mt_of (by decide) [some (.ref (ad 5)), some (.int (nI i)), some (.int (nI l9)), some (.int (nI p)), none, none, none, none] rfl (Nat.le_of_ble_eq_true rfl) ?_
  intro E hg hbs hl hN C RT9 hcells hslots hname
  have hmw : mW D i p = D.1 i * (360000 - l9) * 16777216 + (15 - p) * 16 ^ (5 - D.2.2.2.2 i) := by unfold mW gW dW; rw [if_pos hp, if_pos hp, ← hl8]
  refine g_aload_0 (q := 1) C dX1_worthOf_0 rfl ?_
  refine g_getc (q := 4) (m := 6) C f_X1_11 dX1_worthOf_1 rfl rfl (IX.d0 I _ (by decide)) ?_
  refine g_iload_1 (q := 5) C dX1_worthOf_4 rfl ?_
  refine g_aaP (q := 6) C dX1_worthOf_5 rfl rfl (IX.d0 I _ (by decide)) rfl (by omega) (by decide) hr6 ?_
  refine g_geti (q := 9) C f_X1_76 dX1_worthOf_6 rfl (IX.lp I (by assumption)) (IX.dp I (by assumption)) ?_
  rw [hsz]
  refine g_i2l (q := 10) C dX1_worthOf_9 rfl ?_
  refine g_ldc (q := 12) C dX1_worthOf_10 rfl k_X1_91 ?_
  refine g_iload_2 (q := 13) C dX1_worthOf_12 rfl ?_
  refine g_isub (q := 14) C dX1_worthOf_13 rfl ?_
  refine g_i2l (q := 15) C dX1_worthOf_14 rfl ?_
  refine g_lmul (q := 16) C dX1_worthOf_15 rfl ?_
  refine g_lstore_4 (q := 18) C dX1_worthOf_16 rfl (by rw [hN]; decide) rfl ?_
  refine g_bipush (v := 15) (q := 20) C dX1_worthOf_18 rfl (by decide) ?_
  refine g_iload_3 (q := 21) C dX1_worthOf_20 rfl ?_
  refine g_isub (q := 22) C dX1_worthOf_21 rfl ?_
  refine g_i2l (q := 23) C dX1_worthOf_22 rfl ?_
  refine g_lstore_6 (q := 25) C dX1_worthOf_23 rfl (by rw [hN]; decide) rfl ?_
  refine g_lload_4 (q := 27) C dX1_worthOf_25 rfl ?_
  refine g_bipush (v := 24) (q := 29) C dX1_worthOf_27 rfl (by decide) ?_
  refine g_lshl (q := 30) C dX1_worthOf_29 rfl ?_
  refine g_lload_6 (q := 32) C dX1_worthOf_30 rfl ?_
  refine g_iconst (v := 4) (q := 33) C dX1_worthOf_32 rfl (by decide) ?_
  refine g_iconst (v := 5) (q := 34) C dX1_worthOf_33 rfl (by decide) ?_
  refine g_aload_0 (q := 35) C dX1_worthOf_34 rfl ?_
  refine g_getc (q := 38) (m := 7) C f_X1_17 dX1_worthOf_35 rfl rfl (IX.d0 I _ (by decide)) ?_
  refine g_iload_1 (q := 39) C dX1_worthOf_38 rfl ?_
  refine g_ia (q := 40) C dX1_worthOf_39 rfl rfl (IX.d0 I _ (by decide)) rfl (by omega) (by decide) ?_
  rw [htn]
  refine g_isub (q := 41) C dX1_worthOf_40 rfl ?_
  refine g_imul (q := 42) C dX1_worthOf_41 rfl ?_
  refine g_lshl (q := 43) C dX1_worthOf_42 rfl ?_
  refine g_ladd (q := 44) C dX1_worthOf_43 rfl ?_
  exact g_lret C RT9 dX1_worthOf_44 (by rw [nI_l (by omega)]; exact px (by rw [show (mW D i p) = _ from hmw]; exact congrArg (fun z => some (Value.long z)) (wo_eq hl9 (by omega) htl hs6)))

theorem nI_n0 {n : Nat} (h : n < 2 ^ 31) : ¬ nI n < 0 := by
  rw [i_lt, nI_toInt h]
  show ¬ (n : Int) < 0
  omega
theorem nI_dn (i : Nat) : nI i + Int32.ofInt (-1) = nI i - 1 := by rw [Int32.sub_eq_add_neg]; rfl
theorem nI_dc (i : Nat) : nI (i + 1) + Int32.ofInt (-1) = nI i := pk_m1 i
theorem nI_sc (i : Nat) : nI (i + 1) - 1 = nI i := by
  rw [← nI_1 i, Int32.add_sub_cancel]
theorem sz_eq (W : WP nF nP pa) (X : XR nF nP fl pa nu dm a r) {j k : Nat} (hj : j < nP) (hk : k < nP) : a (30 + j) 1 = a (30 + k) 1 ↔ szN pa j = szN pa k := by
  obtain ⟨s3, s1, s2⟩ := sz_ok W hj
  obtain ⟨t3, t1, t2⟩ := sz_ok W hk
  unfold szN
  obtain ⟨-, -, -, -, e1, -⟩ := X.pt hj
  obtain ⟨-, -, -, -, e2, -⟩ := X.pt hk
  constructor
  · intro h
    rw [← e1, ← e2] at h
    rw [h]
  · intro h
    rw [← e1, ← e2, s3, t3, h]
set_option maxHeartbeats 4000000 in
set_option maxRecDepth 100000 in
theorem m_X1_lastTwin (X : XR nF nP fl pa nu dm a r) (W : WP nF nP pa) {c j : Nat} (hc5 : a 5 12 = nI c) (hc6 : c ≤ 6) (hj : j < nP) (hq : ∀ i, i < c → r 6 i = some (30 + q i) ∧ q i < nP) : MT g bs l yX1_lastTwin cX1_lastTwin 3 (some .int) 0 0 0 [.ref (ad 5), .ref (ad (30 + j))] ad dm a b r (PX (some (.int (twI (lastT (fun t => decide (cN (pa (9 * q t)) = cN (pa (9 * j))) && decide (szN pa (q t) = szN pa j)) c)))) ad dm a b r) := by
  refine mt_of (by decide) [some (.ref (ad 5)), some (.ref (ad (30 + j))), none] rfl (Nat.le_of_ble_eq_true rfl) ?_
  intro E hg hbs hl hN C RT9 hcells hslots hname
  have I := X.1
  have hnF := X.1.1
  have hnP := X.1.2.1
  obtain ⟨o2, ho2, ro2, eo2, es2, -⟩ := X.pt hj
  have hso2 : cN (pa (9 * j)) = o2 := by rw [eo2, cN_nI (by omega)]
  have lp : ∀ (i : Nat), i ≤ c → lastT (fun t => decide (cN (pa (9 * q t)) = cN (pa (9 * j))) && decide (szN pa (q t) = szN pa j)) c = lastT (fun t => decide (cN (pa (9 * q t)) = cN (pa (9 * j))) && decide (szN pa (q t) = szN pa j)) i → G E 0 0 ad dm a b r 7 [some (.ref (ad 5)), some (.ref (ad (30 + j))), some (.int (nI i - 1))] [] := by
    intro i
    induction i with
    | zero =>
      intro hi hLL
      rw [hLL] at RT9
      refine g_iload_2 (q := 8) C dX1_lastTwin_7 rfl ?_
      refine g_if_lt (tgt := 51) (q := 11) C dX1_lastTwin_8 rfl (by decide) (fun c_8 => ?_) (fun c_8 => absurd (by decide) c_8)
      refine g_iconst (v := (-1)) (q := 52) C dX1_lastTwin_51 rfl (by decide) ?_
      exact g_iret C RT9 dX1_lastTwin_52 (pxi rfl)
    | succ i ih =>
      intro hi hLL
      obtain ⟨n1, n2⟩ := hq i (by omega)
      obtain ⟨o1, ho1, ro1, eo1, es1, -⟩ := X.pt n2
      have hso : cN (pa (9 * q i)) = o1 := by rw [eo1, cN_nI (by omega)]
      rw [nI_sc]
      refine g_iload_2 (q := 8) C dX1_lastTwin_7 rfl ?_
      refine g_if_lt (tgt := 51) (q := 11) C dX1_lastTwin_8 rfl (by decide) (fun c_8 => absurd c_8 (nI_n0 (by omega))) (fun c_8 => ?_)
      refine g_aload_0 (q := 12) C dX1_lastTwin_11 rfl ?_
      refine g_getc (q := 15) (m := 6) C f_X1_11 dX1_lastTwin_12 rfl rfl (IX.d0 I _ (by decide)) ?_
      refine g_iload_2 (q := 16) C dX1_lastTwin_15 rfl ?_
      refine g_aaP (q := 17) C dX1_lastTwin_16 rfl rfl (IX.d0 I _ (by decide)) rfl (by omega) (by decide) n1 ?_
      refine g_getr (q := 20) C f_X1_87 dX1_lastTwin_17 rfl (IX.lp I (by assumption)) (IX.dp I (by assumption)) ro1 ?_
      refine g_aload_1 (q := 21) C dX1_lastTwin_20 rfl ?_
      refine g_getr (q := 24) C f_X1_87 dX1_lastTwin_21 rfl (IX.lp I (by assumption)) (IX.dp I (by assumption)) ro2 ?_
      refine g_acmp_ne (tgt := 45) (q := 27) C dX1_lastTwin_24 rfl (by decide) (IX.df X.1 ho1) (IX.df X.1 ho2) (fun c_24 => ?_) (fun c_24 => ?_)
      · refine g_iinc_2 (v := (nI i - 1)) (q := 48) C dX1_lastTwin_45 rfl (by rw [hN]; decide) (nI_dn i) ?_
        refine g_goto (tgt := 7) C dX1_lastTwin_48 (by decide) ?_
        first
          | (have e9 : lastT (fun t => decide (cN (pa (9 * q t)) = cN (pa (9 * j))) && decide (szN pa (q t) = szN pa j)) (i + 1) = lastT (fun t => decide (cN (pa (9 * q t)) = cN (pa (9 * j))) && decide (szN pa (q t) = szN pa j)) i := by
               show (if _ then _ else _) = _
               rw [if_neg (by rw [Bool.and_eq_true, decide_eq_true_eq, decide_eq_true_eq, ← sz_eq W X n2 hj]; exact fun z => c_40 z.2)]
             exact ih (by omega) (hLL.trans e9))
          | (have e9 : lastT (fun t => decide (cN (pa (9 * q t)) = cN (pa (9 * j))) && decide (szN pa (q t) = szN pa j)) (i + 1) = lastT (fun t => decide (cN (pa (9 * q t)) = cN (pa (9 * j))) && decide (szN pa (q t) = szN pa j)) i := by
               show (if _ then _ else _) = _
               rw [if_neg (by rw [Bool.and_eq_true, decide_eq_true_eq, hso, hso2]; exact fun z => c_24 (by rw [z.1]))]
             exact ih (by omega) (hLL.trans e9))
      · refine g_aload_0 (q := 28) C dX1_lastTwin_27 rfl ?_
        refine g_getc (q := 31) (m := 6) C f_X1_11 dX1_lastTwin_28 rfl rfl (IX.d0 I _ (by decide)) ?_
        refine g_iload_2 (q := 32) C dX1_lastTwin_31 rfl ?_
        refine g_aaP (q := 33) C dX1_lastTwin_32 rfl rfl (IX.d0 I _ (by decide)) rfl (by omega) (by decide) n1 ?_
        refine g_geti (q := 36) C f_X1_76 dX1_lastTwin_33 rfl (IX.lp I (by assumption)) (IX.dp I (by assumption)) ?_
        refine g_aload_1 (q := 37) C dX1_lastTwin_36 rfl ?_
        refine g_geti (q := 40) C f_X1_76 dX1_lastTwin_37 rfl (IX.lp I (by assumption)) (IX.dp I (by assumption)) ?_
        refine g_icmp_ne (tgt := 45) (q := 43) C dX1_lastTwin_40 rfl (by decide) (fun c_40 => ?_) (fun c_40 => ?_)
        · refine g_iinc_2 (v := (nI i - 1)) (q := 48) C dX1_lastTwin_45 rfl (by rw [hN]; decide) (nI_dn i) ?_
          refine g_goto (tgt := 7) C dX1_lastTwin_48 (by decide) ?_
          first
            | (have e9 : lastT (fun t => decide (cN (pa (9 * q t)) = cN (pa (9 * j))) && decide (szN pa (q t) = szN pa j)) (i + 1) = lastT (fun t => decide (cN (pa (9 * q t)) = cN (pa (9 * j))) && decide (szN pa (q t) = szN pa j)) i := by
                 show (if _ then _ else _) = _
                 rw [if_neg (by rw [Bool.and_eq_true, decide_eq_true_eq, decide_eq_true_eq, ← sz_eq W X n2 hj]; exact fun z => c_40 z.2)]
               exact ih (by omega) (hLL.trans e9))
            | (have e9 : lastT (fun t => decide (cN (pa (9 * q t)) = cN (pa (9 * j))) && decide (szN pa (q t) = szN pa j)) (i + 1) = lastT (fun t => decide (cN (pa (9 * q t)) = cN (pa (9 * j))) && decide (szN pa (q t) = szN pa j)) i := by
                 show (if _ then _ else _) = _
                 rw [if_neg (by rw [Bool.and_eq_true, decide_eq_true_eq, hso, hso2]; exact fun z => c_24 (by rw [z.1]))]
               exact ih (by omega) (hLL.trans e9))
        · refine g_iload_2 (q := 44) C dX1_lastTwin_43 rfl ?_
          exact g_iret C RT9 dX1_lastTwin_44 (by
  have e9 : lastT (fun t => decide (cN (pa (9 * q t)) = cN (pa (9 * j))) && decide (szN pa (q t) = szN pa j)) (i + 1) = some i := by
    show (if _ then _ else _) = _
    rw [if_pos (by rw [Bool.and_eq_true, decide_eq_true_eq, decide_eq_true_eq, ← sz_eq W X n2 hj]; exact ⟨by rw [hso, hso2]; omega, c_40⟩)]
  rw [hLL, e9]
  exact pxi rfl)
  refine g_aload_0 (q := 1) C dX1_lastTwin_0 rfl ?_
  refine g_geti (q := 4) C f_X1_56 dX1_lastTwin_1 rfl rfl (IX.d0 I _ (by decide)) ?_
  rw [hc5]
  refine g_iconst (v := 1) (q := 5) C dX1_lastTwin_4 rfl (by decide) ?_
  refine g_isub (q := 6) C dX1_lastTwin_5 rfl ?_
  refine g_istore_2 (q := 7) C dX1_lastTwin_6 rfl (by rw [hN]; decide) rfl ?_
  exact lp c (Nat.le_refl _) rfl

theorem XR.fm (X : XR nF nP fl pa nu dm a r) {a' : Nat → Nat → Int32} {r' : Nat → Nat → Option Nat} (h1 : ∀ m, (m < 4 ∨ 30 ≤ m) → a' m = a m) (h3 : ∀ m, 20 ≤ m → m < 30 → ∀ j, j < 8 → a' m j = a m j) (h2 : ∀ m, (m < 4 ∨ 20 ≤ m) → r' m = r m) : XR nF nP fl pa nu dm a' r' := by
  obtain ⟨x1, x2, x3, x4, x5, x6, x7⟩ := X
  have hn := x1.1
  refine ⟨x1, by rw [h1 0 (by decide)]; exact x2, by rw [h1 0 (by decide)]; exact x3, by rw [h1 0 (by decide)]; exact x4, fun k hk => by rw [h1 3 (by decide)]; exact x5 k hk, fun i hi => ?_, fun j hj => ?_⟩
  · rw [h2 1 (by decide), h3 (20 + i) (by omega) (by omega) 0 (by decide)]
    refine ⟨(x6 i hi).1, (x6 i hi).2.1, fun k hk => ?_⟩
    rw [h3 (20 + i) (by omega) (by omega) _ (by omega)]
    exact (x6 i hi).2.2 k hk
  · rw [h2 2 (by decide), h2 (30 + j) (by omega), h1 (30 + j) (by omega)]
    exact x7 j hj
set_option maxHeartbeats 4000000 in
set_option maxRecDepth 100000 in
theorem m_X1_addParty (X : XR nF nP fl pa nu dm a r) (W : WP nF nP pa) {c j t : Nat} (hc5 : a 5 12 = nI c) (hc6 : c < 6) (ht : t < 6) (hj : j < nP) (hq : ∀ i, i < c → r 6 i = some (30 + q i) ∧ q i < nP) : MT g bs l yX1_addParty cX1_addParty 3 none 1 0 0 [.ref (ad 5), .ref (ad (30 + j)), .int (nI t)] ad dm a b r (PX none ad dm (u2 (u2 (u2 (u2 a 7 c (nI t)) 8 c (twI (lastT (fun t => decide (cN (pa (9 * q t)) = cN (pa (9 * j))) && decide (szN pa (q t) = szN pa j)) c))) 9 c (nI 0)) 5 12 (nI (c + 1))) b (u2 r 6 c (some (30 + j)))) := by
  refine mt_of (by decide) [some (.ref (ad 5)), some (.ref (ad (30 + j))), some (.int (nI t))] rfl (Nat.le_of_ble_eq_true rfl) ?_
  intro E hg hbs hl hN C RT9 hcells hslots hname
  have I := X.1
  have X2 : XR nF nP fl pa nu dm (u2 a 7 c (nI t)) (u2 r 6 c (some (30 + j))) := X.fm (fun m hm => u2_n (by omega)) (fun m m1 m2 j hj => by rw [u2_n (by omega)]) (fun m hm => u2_n (by omega))
  have hq2 : ∀ i, i < c → u2 r 6 c (some (30 + j)) 6 i = some (30 + q i) ∧ q i < nP := fun i hi => ⟨by rw [u2_k (by omega)]; exact (hq i hi).1, (hq i hi).2⟩
  refine g_aload_0 (q := 1) C dX1_addParty_0 rfl ?_
  refine g_geti (q := 4) C f_X1_56 dX1_addParty_1 rfl rfl (IX.d0 I _ (by decide)) ?_
  refine g_bipush (v := 6) (q := 6) C dX1_addParty_4 rfl (by decide) ?_
  refine g_icmp_ge (tgt := 19) (q := 9) C dX1_addParty_6 rfl (by decide) (fun c_6 => absurd c_6 (by rw [hc5]; exact nI_ge (by omega) (by decide))) (fun c_6 => ?_)
  refine g_iload_2 (q := 10) C dX1_addParty_9 rfl ?_
  refine g_if_lt (tgt := 19) (q := 13) C dX1_addParty_10 rfl (by decide) (fun c_10 => absurd c_10 (nI_n0 (by omega))) (fun c_10 => ?_)
  refine g_iload_2 (q := 14) C dX1_addParty_13 rfl ?_
  refine g_bipush (v := 6) (q := 16) C dX1_addParty_14 rfl (by decide) ?_
  refine g_icmp_lt (tgt := 20) (q := 19) C dX1_addParty_16 rfl (by decide) (fun c_16 => ?_) (fun c_16 => absurd (nI_lt (by omega) (by decide)) c_16)
  refine g_aload_0 (q := 21) C dX1_addParty_20 rfl ?_
  refine g_getc (q := 24) (m := 6) C f_X1_11 dX1_addParty_21 rfl rfl (IX.d0 I _ (by decide)) ?_
  refine g_aload_0 (q := 25) C dX1_addParty_24 rfl ?_
  refine g_geti (q := 28) C f_X1_56 dX1_addParty_25 rfl rfl (IX.d0 I _ (by decide)) ?_
  refine g_aload_1 (q := 29) C dX1_addParty_28 rfl ?_
  refine g_aastP (q := 30) C dX1_addParty_29 rfl rfl (IX.d0 I _ (by decide)) (IX.dp I hj) (IX.lp I hj) hc5 (by omega) (by decide) ?_
  refine g_aload_0 (q := 31) C dX1_addParty_30 rfl ?_
  refine g_getc (q := 34) (m := 7) C f_X1_17 dX1_addParty_31 rfl rfl (IX.d0 I _ (by decide)) ?_
  refine g_aload_0 (q := 35) C dX1_addParty_34 rfl ?_
  refine g_geti (q := 38) C f_X1_56 dX1_addParty_35 rfl rfl (IX.d0 I _ (by decide)) ?_
  refine g_iload_2 (q := 39) C dX1_addParty_38 rfl ?_
  refine g_iast (q := 40) C dX1_addParty_39 rfl rfl (IX.d0 I _ (by decide)) hc5 (by omega) (by decide) ?_
  refine g_aload_0 (q := 41) C dX1_addParty_40 rfl ?_
  refine g_getc (q := 44) (m := 8) C f_X1_21 dX1_addParty_41 rfl rfl (IX.d0 I _ (by decide)) ?_
  refine g_aload_0 (q := 45) C dX1_addParty_44 rfl ?_
  refine g_geti (q := 48) C f_X1_56 dX1_addParty_45 rfl rfl (IX.d0 I _ (by decide)) ?_
  rw [u2_n (show (5 : Nat) ≠ 7 by decide), hc5]
  refine g_aload_0 (q := 49) C dX1_addParty_48 rfl ?_
  refine g_aload_1 (q := 50) C dX1_addParty_49 rfl ?_
  refine g_cv1i (q := 53) C cv_X1_60 dX1_addParty_50 rfl rfl (IX.d0 I _ (by decide)) (m_X1_lastTwin X2 W (by rw [u2_n (by decide)]; exact hc5) (by omega) hj hq2) (by decide) (Nat.le_of_ble_eq_true rfl) ⟨Nat.zero_le _, Nat.zero_le _⟩ ?_
  refine g_iast (q := 54) C dX1_addParty_53 rfl rfl (IX.d0 I _ (by decide)) rfl (by omega) (by decide) ?_
  refine g_aload_0 (q := 55) C dX1_addParty_54 rfl ?_
  refine g_getc (q := 58) (m := 9) C f_X1_24 dX1_addParty_55 rfl rfl (IX.d0 I _ (by decide)) ?_
  refine g_aload_0 (q := 59) C dX1_addParty_58 rfl ?_
  refine g_geti (q := 62) C f_X1_56 dX1_addParty_59 rfl rfl (IX.d0 I _ (by decide)) ?_
  refine g_iconst (v := 0) (q := 63) C dX1_addParty_62 rfl (by decide) ?_
  refine g_iast (q := 64) C dX1_addParty_63 rfl rfl (IX.d0 I _ (by decide)) (by rw [u2_n (by decide), u2_n (by decide)]; exact hc5) (by omega) (by decide) ?_
  refine g_aload_0 (q := 65) C dX1_addParty_64 rfl ?_
  refine g_dup (q := 66) C dX1_addParty_65 rfl rfl ?_
  refine g_geti (q := 69) C f_X1_56 dX1_addParty_66 rfl rfl (IX.d0 I _ (by decide)) ?_
  refine g_iconst (v := 1) (q := 70) C dX1_addParty_69 rfl (by decide) ?_
  refine g_iadd (q := 71) C dX1_addParty_70 rfl ?_
  rw [u2_n (show (5 : Nat) ≠ 9 by decide), u2_n (show (5 : Nat) ≠ 8 by decide), u2_n (show (5 : Nat) ≠ 7 by decide), hc5, nI_1]
  refine g_puti (q := 74) C p_X1_56 dX1_addParty_71 rfl rfl (IX.d0 I _ (by decide)) rfl rfl ?_
  exact g_vret C RT9 dX1_addParty_74 (px rfl)

end X43
