section X40
variable {g : GM} {bs : Nat} {l : Launch} {ad : Nat → Nat} {dm : Nat → Bool} {a : Nat → Nat → Int32} {b : Nat → Nat → Int64} {r : Nat → Nat → Option Nat} {nF nP : Nat} {fl pa nu : Nat → Int32}
variable {D : MD} {n k : Nat} {fr : Nat → Int} {q : Nat → Nat} {pl : Nat → Nat → Nat} {x : Nat → Nat}
theorem ix12 (i w : Nat) : nI i * 12 + nI w = nI (12 * i + w) := by
  rw [show (12 : Int32) = nI 12 from rfl, pk_mul, nI_add, Nat.mul_comm]
def XM (D : MD) (n nP : Nat) (q : Nat → Nat) (pl : Nat → Nat → Nat) (a : Nat → Nat → Int32) (b : Nat → Nat → Int64) (r : Nat → Nat → Option Nat) : Prop := a 5 12 = nI n ∧ (∀ i, i < n → r 6 i = some (30 + q i) ∧ q i < nP ∧ a (30 + q i) 1 = nI (D.1 i) ∧ a 9 i = nI (D.2.1 i)) ∧ ∀ i, i < n → ∀ w, w < D.2.1 i → pl i w < D.2.1 i ∧ a 15 (12 * i + w) = nI (pl i w) ∧ b 16 (12 * i + w) = lN (mW D i (pl i w)) ∧ r 13 (12 * i + w) = some (20 + D.2.2.1 i (pl i w) / 9) ∧ (D.2.2.1 i (pl i w) % 9 = 0 → r 14 (12 * i + w) = none) ∧ ∀ fb, D.2.2.1 i (pl i w) % 9 = fb + 1 → r 14 (12 * i + w) = some (20 + fb)
def capI (fr : Nat → Int) (f : Nat) : Nat := (fr f).toNat
def XF (D : MD) (nF : Nat) (fr : Nat → Int) (x : Nat → Nat) (k : Nat) (a : Nat → Nat → Int32) : Prop := ∀ f, f < nF → (a (20 + f) 8).toInt = fr f - (us D f x k : Int)
theorem fit_1 {v : Int32} {u s f : Nat} (h : v.toInt = fr f - (u : Int)) (hs : 1 ≤ s) (hs2 : s < 1000) : (v < nI s) ↔ ¬ u + s ≤ capI fr f := by
  rw [i_lt, h, nI_toInt (by omega)]
  unfold capI
  omega
def fitb (D : MD) (fr : Nat → Int) (x : Nat → Nat) (k j p : Nat) : Bool := decide (us D (D.2.2.1 j p / 9) x k + D.1 j ≤ capI fr (D.2.2.1 j p / 9)) && (decide (D.2.2.1 j p % 9 = 0) || decide (us D (D.2.2.1 j p % 9 - 1) x k + D.1 j ≤ capI fr (D.2.2.1 j p % 9 - 1)))
theorem fb_1 {j p : Nat} (h : ¬ us D (D.2.2.1 j p / 9) x k + D.1 j ≤ capI fr (D.2.2.1 j p / 9)) : fitb D fr x k j p = false := by rw [fitb, decide_eq_false h]; rfl
theorem fb_2 {j p : Nat} (h : us D (D.2.2.1 j p / 9) x k + D.1 j ≤ capI fr (D.2.2.1 j p / 9)) (h2 : D.2.2.1 j p % 9 = 0) : fitb D fr x k j p = true := by rw [fitb, decide_eq_true h, decide_eq_true h2]; rfl
theorem fb_3 {j p fb : Nat} (h2 : D.2.2.1 j p % 9 = fb + 1) (h3 : ¬ us D fb x k + D.1 j ≤ capI fr fb) : fitb D fr x k j p = false := by
  rw [fitb, h2, show fb + 1 - 1 = fb from rfl, decide_eq_false h3, decide_eq_false (show ¬ fb + 1 = 0 by omega)]; simp
theorem fb_4 {j p fb : Nat} (h : us D (D.2.2.1 j p / 9) x k + D.1 j ≤ capI fr (D.2.2.1 j p / 9)) (h2 : D.2.2.1 j p % 9 = fb + 1) (h3 : us D fb x k + D.1 j ≤ capI fr fb) : fitb D fr x k j p = true := by
  rw [fitb, h2, show fb + 1 - 1 = fb from rfl, decide_eq_true h3, decide_eq_true h]; simp
set_option maxHeartbeats 4000000 in
set_option maxRecDepth 100000 in
theorem m_X1_fits (I : IX dm nF nP) (hD : Dok D n) (hco : CO D n nF) (M : XM D n nP q pl a b r) (Fx : XF D nF fr x k a) {i w : Nat} (hi : i < n) (hw : w < D.2.1 i) : MT g bs l yX1_fits cX1_fits 4 (some .boolean) 0 0 0 [.ref (ad 5), .int (nI i), .int (nI (12 * i + w))] ad dm a b r (PX (some (.int (bI (fitb D fr x k i (pl i w))))) ad dm a b r) := by
  refine mt_of (by decide) [some (.ref (ad 5)), some (.int (nI i)), some (.int (nI (12 * i + w))), none] rfl (Nat.le_of_ble_eq_true rfl) ?_
  intro E hg hbs hl hN C RT9 hcells hslots hname
  obtain ⟨m1, m2, m3, m4, m5, m6⟩ := M.2.2 i hi w hw
  obtain ⟨c1, c2, c3⟩ := hco i hi _ m1
  obtain ⟨n1, n2, n3, n4⟩ := M.2.1 i hi
  obtain ⟨d1, d2, d3, d4, d5⟩ := hD.2 i hi
  have hn6 := hD.1
  refine g_aload_0 (q := 1) C dX1_fits_0 rfl ?_
  refine g_getc (q := 4) (m := 6) C f_X1_11 dX1_fits_1 rfl rfl (IX.d0 I _ (by decide)) ?_
  refine g_iload_1 (q := 5) C dX1_fits_4 rfl ?_
  refine g_aaP (q := 6) C dX1_fits_5 rfl rfl (IX.d0 I _ (by decide)) rfl (by omega) (by decide) n1 ?_
  refine g_geti (q := 9) C f_X1_76 dX1_fits_6 rfl (IX.lp I (by assumption)) (IX.dp I (by assumption)) ?_
  refine g_istore_3 (q := 10) C dX1_fits_9 rfl (by rw [hN]; decide) rfl ?_
  refine g_aload_0 (q := 11) C dX1_fits_10 rfl ?_
  refine g_getc (q := 14) (m := 13) C f_X1_38 dX1_fits_11 rfl rfl (IX.d0 I _ (by decide)) ?_
  refine g_iload_2 (q := 15) C dX1_fits_14 rfl ?_
  refine g_aaF (q := 16) C dX1_fits_15 rfl rfl (IX.d0 I _ (by decide)) rfl (by omega) (by decide) m4 ?_
  refine g_geti (q := 19) C f_X1_119 dX1_fits_16 rfl (IX.lf I (by assumption)) (IX.df I (by assumption)) ?_
  refine g_iload_3 (q := 20) C dX1_fits_19 rfl ?_
  refine g_icmp_lt (tgt := 49) (q := 23) C dX1_fits_20 rfl (by decide) (fun c_20 => ?_) (fun c_20 => ?_)
  · refine g_iconst (v := 0) (q := 50) C dX1_fits_49 rfl (by decide) ?_
    exact g_zret C RT9 dX1_fits_50 rfl (pxi (by
  rw [n3, fit_1 (Fx _ c1) d1 (by omega)] at c_20
  first
  | rw [fb_1 c_20]; rfl
  | rw [fb_2 (Classical.not_not.mp c_20) hb9]; rfl
  | (rw [n3, fit_1 (Fx _ hfb) d1 (by omega)] at c_42
     first
     | rw [fb_3 hb9 c_42]; rfl
     | rw [fb_4 (Classical.not_not.mp c_20) hb9 (Classical.not_not.mp c_42)]; rfl)))
  · refine g_aload_0 (q := 24) C dX1_fits_23 rfl ?_
    refine g_getc (q := 27) (m := 14) C f_X1_42 dX1_fits_24 rfl rfl (IX.d0 I _ (by decide)) ?_
    refine g_iload_2 (q := 28) C dX1_fits_27 rfl ?_
    rcases hb9 : D.2.2.1 i (pl i w) % 9 with _ | fb
    · refine g_aaFN (q := 29) C dX1_fits_28 rfl rfl (IX.d0 I _ (by decide)) rfl (by omega) (by decide) (m5 hb9) ?_
      refine g_ifnullN (tgt := 45) C dX1_fits_29 (by decide) ?_
      refine g_iconst (v := 1) (q := 46) C dX1_fits_45 rfl (by decide) ?_
      refine g_goto (tgt := 50) C dX1_fits_46 (by decide) ?_
      exact g_zret C RT9 dX1_fits_50 rfl (pxi (by
  rw [n3, fit_1 (Fx _ c1) d1 (by omega)] at c_20
  first
  | rw [fb_1 c_20]; rfl
  | rw [fb_2 (Classical.not_not.mp c_20) hb9]; rfl
  | (rw [n3, fit_1 (Fx _ hfb) d1 (by omega)] at c_42
     first
     | rw [fb_3 hb9 c_42]; rfl
     | rw [fb_4 (Classical.not_not.mp c_20) hb9 (Classical.not_not.mp c_42)]; rfl)))
    · have hfb : fb < nF := by omega
      refine g_aaF (q := 29) C dX1_fits_28 rfl rfl (IX.d0 I _ (by decide)) rfl (by omega) (by decide) (m6 fb hb9) ?_
      refine g_ifnull (q := 32) C dX1_fits_29 rfl ?_
      refine g_aload_0 (q := 33) C dX1_fits_32 rfl ?_
      refine g_getc (q := 36) (m := 14) C f_X1_42 dX1_fits_33 rfl rfl (IX.d0 I _ (by decide)) ?_
      refine g_iload_2 (q := 37) C dX1_fits_36 rfl ?_
      refine g_aaF (q := 38) C dX1_fits_37 rfl rfl (IX.d0 I _ (by decide)) rfl (by omega) (by decide) (m6 fb hb9) ?_
      refine g_geti (q := 41) C f_X1_119 dX1_fits_38 rfl (IX.lf I (by assumption)) (IX.df I (by assumption)) ?_
      refine g_iload_3 (q := 42) C dX1_fits_41 rfl ?_
      refine g_icmp_lt (tgt := 49) (q := 45) C dX1_fits_42 rfl (by decide) (fun c_42 => ?_) (fun c_42 => ?_)
      · refine g_iconst (v := 0) (q := 50) C dX1_fits_49 rfl (by decide) ?_
        exact g_zret C RT9 dX1_fits_50 rfl (pxi (by
  rw [n3, fit_1 (Fx _ c1) d1 (by omega)] at c_20
  first
  | rw [fb_1 c_20]; rfl
  | rw [fb_2 (Classical.not_not.mp c_20) hb9]; rfl
  | (rw [n3, fit_1 (Fx _ hfb) d1 (by omega)] at c_42
     first
     | rw [fb_3 hb9 c_42]; rfl
     | rw [fb_4 (Classical.not_not.mp c_20) hb9 (Classical.not_not.mp c_42)]; rfl)))
      · refine g_iconst (v := 1) (q := 46) C dX1_fits_45 rfl (by decide) ?_
        refine g_goto (tgt := 50) C dX1_fits_46 (by decide) ?_
        exact g_zret C RT9 dX1_fits_50 rfl (pxi (by
  rw [n3, fit_1 (Fx _ c1) d1 (by omega)] at c_20
  first
  | rw [fb_1 c_20]; rfl
  | rw [fb_2 (Classical.not_not.mp c_20) hb9]; rfl
  | (rw [n3, fit_1 (Fx _ hfb) d1 (by omega)] at c_42
     first
     | rw [fb_3 hb9 c_42]; rfl
     | rw [fb_4 (Classical.not_not.mp c_20) hb9 (Classical.not_not.mp c_42)]; rfl)))

set_option maxHeartbeats 4000000 in
set_option maxRecDepth 100000 in
theorem m_X1_fill_n (I : IX dm nF nP) (hD : Dok D n) (hco : CO D n nF) (M : XM D n nP q pl a b r) {i w : Nat} (hi : i < n) (hw : w < D.2.1 i) (s : Int32) (hb9 : D.2.2.1 i (pl i w) % 9 = 0) : MT g bs l yX1_fill cX1_fill 3 none 0 0 0 [.ref (ad 5), .int (nI (12 * i + w)), .int s] ad dm a b r (PX none ad dm (u2 a (20 + D.2.2.1 i (pl i w) / 9) 8 (a (20 + D.2.2.1 i (pl i w) / 9) 8 - s)) b r) := by
  refine mt_of (by decide) [some (.ref (ad 5)), some (.int (nI (12 * i + w))), some (.int s)] rfl (Nat.le_of_ble_eq_true rfl) ?_
  intro E hg hbs hl hN C RT9 hcells hslots hname
  obtain ⟨m1, m2, m3, m4, m5, m6⟩ := M.2.2 i hi w hw
  obtain ⟨c1, c2, c3⟩ := hco i hi _ m1
  obtain ⟨n1, n2, n3, n4⟩ := M.2.1 i hi
  obtain ⟨d1, d2, d3, d4, d5⟩ := hD.2 i hi
  have hn6 := hD.1
  refine g_aload_0 (q := 1) C dX1_fill_0 rfl ?_
  refine g_getc (q := 4) (m := 13) C f_X1_38 dX1_fill_1 rfl rfl (IX.d0 I _ (by decide)) ?_
  refine g_iload_1 (q := 5) C dX1_fill_4 rfl ?_
  refine g_aaF (q := 6) C dX1_fill_5 rfl rfl (IX.d0 I _ (by decide)) rfl (by omega) (by decide) m4 ?_
  refine g_dup (q := 7) C dX1_fill_6 rfl rfl ?_
  refine g_geti (q := 10) C f_X1_119 dX1_fill_7 rfl (IX.lf I (by assumption)) (IX.df I (by assumption)) ?_
  refine g_iload_2 (q := 11) C dX1_fill_10 rfl ?_
  refine g_isub (q := 12) C dX1_fill_11 rfl ?_
  refine g_puti (q := 15) C p_X1_119 dX1_fill_12 rfl (IX.lf I (by assumption)) (IX.df I (by assumption)) rfl rfl ?_
  refine g_aload_0 (q := 16) C dX1_fill_15 rfl ?_
  refine g_getc (q := 19) (m := 14) C f_X1_42 dX1_fill_16 rfl rfl (IX.d0 I _ (by decide)) ?_
  refine g_iload_1 (q := 20) C dX1_fill_19 rfl ?_
  refine g_aaFN (q := 21) C dX1_fill_20 rfl rfl (IX.d0 I _ (by decide)) rfl (by omega) (by decide) (m5 hb9) ?_
  refine g_ifnullN (tgt := 39) C dX1_fill_21 (by decide) ?_
  exact g_vret C RT9 dX1_fill_39 (px rfl)

set_option maxHeartbeats 4000000 in
set_option maxRecDepth 100000 in
theorem m_X1_fill_r (I : IX dm nF nP) (hD : Dok D n) (hco : CO D n nF) (M : XM D n nP q pl a b r) {i w : Nat} (hi : i < n) (hw : w < D.2.1 i) (s : Int32) {fb : Nat} (hb9 : D.2.2.1 i (pl i w) % 9 = fb + 1) (hfb : fb < nF) : MT g bs l yX1_fill cX1_fill 3 none 0 0 0 [.ref (ad 5), .int (nI (12 * i + w)), .int s] ad dm a b r (PX none ad dm (u2 (u2 a (20 + D.2.2.1 i (pl i w) / 9) 8 (a (20 + D.2.2.1 i (pl i w) / 9) 8 - s)) (20 + fb) 8 (u2 a (20 + D.2.2.1 i (pl i w) / 9) 8 (a (20 + D.2.2.1 i (pl i w) / 9) 8 - s) (20 + fb) 8 - s)) b r) := by
  refine mt_of (by decide) [some (.ref (ad 5)), some (.int (nI (12 * i + w))), some (.int s)] rfl (Nat.le_of_ble_eq_true rfl) ?_
  intro E hg hbs hl hN C RT9 hcells hslots hname
  obtain ⟨m1, m2, m3, m4, m5, m6⟩ := M.2.2 i hi w hw
  obtain ⟨c1, c2, c3⟩ := hco i hi _ m1
  obtain ⟨n1, n2, n3, n4⟩ := M.2.1 i hi
  obtain ⟨d1, d2, d3, d4, d5⟩ := hD.2 i hi
  have hn6 := hD.1
  refine g_aload_0 (q := 1) C dX1_fill_0 rfl ?_
  refine g_getc (q := 4) (m := 13) C f_X1_38 dX1_fill_1 rfl rfl (IX.d0 I _ (by decide)) ?_
  refine g_iload_1 (q := 5) C dX1_fill_4 rfl ?_
  refine g_aaF (q := 6) C dX1_fill_5 rfl rfl (IX.d0 I _ (by decide)) rfl (by omega) (by decide) m4 ?_
  refine g_dup (q := 7) C dX1_fill_6 rfl rfl ?_
  refine g_geti (q := 10) C f_X1_119 dX1_fill_7 rfl (IX.lf I (by assumption)) (IX.df I (by assumption)) ?_
  refine g_iload_2 (q := 11) C dX1_fill_10 rfl ?_
  refine g_isub (q := 12) C dX1_fill_11 rfl ?_
  refine g_puti (q := 15) C p_X1_119 dX1_fill_12 rfl (IX.lf I (by assumption)) (IX.df I (by assumption)) rfl rfl ?_
  refine g_aload_0 (q := 16) C dX1_fill_15 rfl ?_
  refine g_getc (q := 19) (m := 14) C f_X1_42 dX1_fill_16 rfl rfl (IX.d0 I _ (by decide)) ?_
  refine g_iload_1 (q := 20) C dX1_fill_19 rfl ?_
  refine g_aaF (q := 21) C dX1_fill_20 rfl rfl (IX.d0 I _ (by decide)) rfl (by omega) (by decide) (m6 fb hb9) ?_
  refine g_ifnull (q := 24) C dX1_fill_21 rfl ?_
  refine g_aload_0 (q := 25) C dX1_fill_24 rfl ?_
  refine g_getc (q := 28) (m := 14) C f_X1_42 dX1_fill_25 rfl rfl (IX.d0 I _ (by decide)) ?_
  refine g_iload_1 (q := 29) C dX1_fill_28 rfl ?_
  refine g_aaF (q := 30) C dX1_fill_29 rfl rfl (IX.d0 I _ (by decide)) rfl (by omega) (by decide) (m6 fb hb9) ?_
  refine g_dup (q := 31) C dX1_fill_30 rfl rfl ?_
  refine g_geti (q := 34) C f_X1_119 dX1_fill_31 rfl (IX.lf I (by assumption)) (IX.df I (by assumption)) ?_
  refine g_iload_2 (q := 35) C dX1_fill_34 rfl ?_
  refine g_isub (q := 36) C dX1_fill_35 rfl ?_
  refine g_puti (q := 39) C p_X1_119 dX1_fill_36 rfl (IX.lf I (by assumption)) (IX.df I (by assumption)) rfl rfl ?_
  exact g_vret C RT9 dX1_fill_39 (px rfl)

end X40
