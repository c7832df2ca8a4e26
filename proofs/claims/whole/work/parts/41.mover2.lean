section X41
variable {g : GM} {bs : Nat} {l : Launch} {ad : Nat → Nat} {dm : Nat → Bool} {a : Nat → Nat → Int32} {b : Nat → Nat → Int64} {r : Nat → Nat → Option Nat} {nF nP : Nat} {fl pa nu : Nat → Int32}
variable {D : MD} {n k : Nat} {fr : Nat → Int} {q : Nat → Nat} {pl : Nat → Nat → Nat} {x : Nat → Nat}
theorem lc_le (x y : Int64) : lg_cmp x y ≤ 0 ↔ x ≤ y := by
  have h1 := lc_lt x y
  have h2 := lc_eq x y
  constructor
  · intro h
    by_cases e : lg_cmp x y = 0
    · rw [h2] at e
      rw [e]
      exact Int64.le_refl _
    · have h3 : lg_cmp x y < 0 := by
        rw [i_lt]
        rw [i_le] at h
        rw [i_eq] at e
        omega
      rw [h1] at h3
      exact Int64.le_of_lt h3
  · intro h
    by_cases e : x = y
    · rw [h2.mpr e]; exact Int32.le_refl _
    · have : x < y := by
        rw [Int64.lt_iff_toInt_lt]
        rw [Int64.le_iff_toInt_le] at h
        have : ¬ x.toInt = y.toInt := fun z => e (Int64.toInt_inj.mp z)
        omega
      have h3 := h1.mpr this
      rw [i_lt] at h3
      rw [i_le]
      omega
def hrb (D : MD) (n : Nat) (fr : Nat → Int) (x : Nat → Nat) (k : Nat) (pl : Nat → Nat → Nat) (i w f : Nat) : Bool := decide (us D f x k + (sT D.1 n - sT D.1 i) ≤ capI fr f) || (decide (w < D.2.1 i) && (decide (D.2.2.1 i (pl i w) / 9 = f) || decide (D.2.2.1 i (pl i w) % 9 = f + 1)))
theorem pf_ok (hD : Dok D n) {i : Nat} (hi : i < n) : 1 ≤ sT D.1 n - sT D.1 i ∧ sT D.1 n - sT D.1 i ≤ 36 := by
  have h1 := sT_mono (F := D.1) (k := i + 1) (n := n) (by omega)
  have e1 : sT D.1 (i + 1) = sT D.1 i + D.1 i := rfl
  have h2 := (hD.2 i hi).1
  have h3 := sT_bd (F := D.1) (c := 6) (n := n) (fun j hj => (hD.2 j hj).2.1)
  have h4 := hD.1
  omega
def XP (D : MD) (n : Nat) (a : Nat → Nat → Int32) : Prop := ∀ i, i < n → a 12 i = nI (sT D.1 n - sT D.1 i)
theorem hr_1 {i w f : Nat} (h : us D f x k + (sT D.1 n - sT D.1 i) ≤ capI fr f) : hrb D n fr x k pl i w f = true := by rw [hrb, decide_eq_true h]; rfl
theorem hr_2 {i w f : Nat} (h : ¬ us D f x k + (sT D.1 n - sT D.1 i) ≤ capI fr f) (h2 : D.2.1 i ≤ w) : hrb D n fr x k pl i w f = false := by rw [hrb, decide_eq_false h, decide_eq_false (show ¬ w < D.2.1 i by omega)]; rfl
theorem hr_3 {i w f : Nat} (h2 : w < D.2.1 i) (h3 : f = D.2.2.1 i (pl i w) / 9) : hrb D n fr x k pl i w f = true := by rw [hrb, decide_eq_true h2, decide_eq_true h3.symm]; simp
theorem hr_4 {i w f : Nat} (h2 : w < D.2.1 i) (h3 : D.2.2.1 i (pl i w) % 9 = f + 1) : hrb D n fr x k pl i w f = true := by rw [hrb, decide_eq_true h2, decide_eq_true h3]; simp
theorem hr_5 {i w f : Nat} (h : ¬ us D f x k + (sT D.1 n - sT D.1 i) ≤ capI fr f) (h3 : ¬ f = D.2.2.1 i (pl i w) / 9) (h4 : ¬ D.2.2.1 i (pl i w) % 9 = f + 1) : hrb D n fr x k pl i w f = false := by
  rw [hrb, decide_eq_false h, decide_eq_false (show ¬ D.2.2.1 i (pl i w) / 9 = f from fun z => h3 z.symm), decide_eq_false h4]; simp
set_option maxHeartbeats 4000000 in
set_option maxRecDepth 100000 in
theorem m_X1_hasRoom (I : IX dm nF nP) (hD : Dok D n) (hco : CO D n nF) (M : XM D n nP q pl a b r) (Fx : XF D nF fr x k a) (hP : XP D n a) {i w f : Nat} (hi : i < n) (hw : w ≤ D.2.1 i) (hf : f < nF) : MT g bs l yX1_hasRoom cX1_hasRoom 5 (some .boolean) 0 0 0 [.ref (ad 5), .int (nI i), .int (nI w), .ref (ad (20 + f))] ad dm a b r (PX (some (.int (bI (hrb D n fr x k pl i w f)))) ad dm a b r) := by
  refine mt_of (by decide) [some (.ref (ad 5)), some (.int (nI i)), some (.int (nI w)), some (.ref (ad (20 + f))), none] rfl (Nat.le_of_ble_eq_true rfl) ?_
  intro E hg hbs hl hN C RT9 hcells hslots hname
  obtain ⟨n1, n2, n3, n4⟩ := M.2.1 i hi
  obtain ⟨d1, d2, d3, d4, d5⟩ := hD.2 i hi
  have hn6 := hD.1
  have hnF := I.1
  refine g_aload_3 (q := 1) C dX1_hasRoom_0 rfl ?_
  refine g_geti (q := 4) C f_X1_119 dX1_hasRoom_1 rfl (IX.lf I (by assumption)) (IX.df I (by assumption)) ?_
  refine g_aload_0 (q := 5) C dX1_hasRoom_4 rfl ?_
  refine g_getc (q := 8) (m := 12) C f_X1_33 dX1_hasRoom_5 rfl rfl (IX.d0 I _ (by decide)) ?_
  refine g_iload_1 (q := 9) C dX1_hasRoom_8 rfl ?_
  refine g_ia (q := 10) C dX1_hasRoom_9 rfl rfl (IX.d0 I _ (by decide)) rfl (by omega) (by decide) ?_
  refine g_icmp_lt (tgt := 15) (q := 13) C dX1_hasRoom_10 rfl (by decide) (fun c_10 => ?_) (fun c_10 => ?_)
  · refine g_iload_1 (q := 16) C dX1_hasRoom_15 rfl ?_
    refine g_bipush (v := 12) (q := 18) C dX1_hasRoom_16 rfl (by decide) ?_
    refine g_imul (q := 19) C dX1_hasRoom_18 rfl ?_
    refine g_iload_2 (q := 20) C dX1_hasRoom_19 rfl ?_
    refine g_iadd (q := 21) C dX1_hasRoom_20 rfl ?_
    rw [ix12]
    refine g_istore_4 (q := 23) C dX1_hasRoom_21 rfl (by rw [hN]; decide) rfl ?_
    refine g_iload_2 (q := 24) C dX1_hasRoom_23 rfl ?_
    refine g_aload_0 (q := 25) C dX1_hasRoom_24 rfl ?_
    refine g_getc (q := 28) (m := 9) C f_X1_24 dX1_hasRoom_25 rfl rfl (IX.d0 I _ (by decide)) ?_
    refine g_iload_1 (q := 29) C dX1_hasRoom_28 rfl ?_
    refine g_ia (q := 30) C dX1_hasRoom_29 rfl rfl (IX.d0 I _ (by decide)) rfl (by omega) (by decide) ?_
    refine g_icmp_ge (tgt := 59) (q := 33) C dX1_hasRoom_30 rfl (by decide) (fun c_30 => ?_) (fun c_30 => ?_)
    · refine g_iconst (v := 0) (q := 60) C dX1_hasRoom_59 rfl (by decide) ?_
      exact g_zret C RT9 dX1_hasRoom_60 rfl (pxi (by
  rw [hP i hi, fit_1 (Fx _ hf) (pf_ok hD hi).1 (by have := (pf_ok hD hi).2; omega)] at c_10
  first
  | rw [hr_3 hw9 (by omega)]; rfl
  | rw [hr_4 hw9 (by omega)]; rfl
  | rw [hr_5 c_10 (by omega) (by omega)]; rfl
  | (rw [n4, nI_leI (by omega) (by omega)] at c_30; rw [hr_2 c_10 c_30]; rfl)))
    · rw [n4, nI_leI (by omega) (by omega)] at c_30
      have hw9 : w < D.2.1 i := by omega
      obtain ⟨m1, m2, m3, m4, m5, m6⟩ := M.2.2 i hi w hw9
      obtain ⟨c1, c2, c3⟩ := hco i hi _ m1
      refine g_aload_3 (q := 34) C dX1_hasRoom_33 rfl ?_
      refine g_aload_0 (q := 35) C dX1_hasRoom_34 rfl ?_
      refine g_getc (q := 38) (m := 13) C f_X1_38 dX1_hasRoom_35 rfl rfl (IX.d0 I _ (by decide)) ?_
      refine g_iload_4 (q := 40) C dX1_hasRoom_38 rfl ?_
      refine g_aaF (q := 41) C dX1_hasRoom_40 rfl rfl (IX.d0 I _ (by decide)) rfl (by omega) (by decide) m4 ?_
      refine g_acmp_eq (tgt := 55) (q := 44) C dX1_hasRoom_41 rfl (by decide) (IX.df I (by assumption)) (IX.df I (by assumption)) (fun c_41 => ?_) (fun c_41 => ?_)
      · refine g_iconst (v := 1) (q := 56) C dX1_hasRoom_55 rfl (by decide) ?_
        refine g_goto (tgt := 60) C dX1_hasRoom_56 (by decide) ?_
        exact g_zret C RT9 dX1_hasRoom_60 rfl (pxi (by
  rw [hP i hi, fit_1 (Fx _ hf) (pf_ok hD hi).1 (by have := (pf_ok hD hi).2; omega)] at c_10
  first
  | rw [hr_3 hw9 (by omega)]; rfl
  | rw [hr_4 hw9 (by omega)]; rfl
  | rw [hr_5 c_10 (by omega) (by omega)]; rfl
  | (rw [n4, nI_leI (by omega) (by omega)] at c_30; rw [hr_2 c_10 c_30]; rfl)))
      · refine g_aload_3 (q := 45) C dX1_hasRoom_44 rfl ?_
        refine g_aload_0 (q := 46) C dX1_hasRoom_45 rfl ?_
        refine g_getc (q := 49) (m := 14) C f_X1_42 dX1_hasRoom_46 rfl rfl (IX.d0 I _ (by decide)) ?_
        refine g_iload_4 (q := 51) C dX1_hasRoom_49 rfl ?_
        rcases hb9 : D.2.2.1 i (pl i w) % 9 with _ | fb
        · refine g_aaFN (q := 52) C dX1_hasRoom_51 rfl rfl (IX.d0 I _ (by decide)) rfl (by omega) (by decide) (m5 hb9) ?_
          refine g_acmp_neN2 (tgt := 59) (q := 55) C dX1_hasRoom_52 rfl (by decide) ?_
          refine g_iconst (v := 0) (q := 60) C dX1_hasRoom_59 rfl (by decide) ?_
          exact g_zret C RT9 dX1_hasRoom_60 rfl (pxi (by
  rw [hP i hi, fit_1 (Fx _ hf) (pf_ok hD hi).1 (by have := (pf_ok hD hi).2; omega)] at c_10
  first
  | rw [hr_3 hw9 (by omega)]; rfl
  | rw [hr_4 hw9 (by omega)]; rfl
  | rw [hr_5 c_10 (by omega) (by omega)]; rfl
  | (rw [n4, nI_leI (by omega) (by omega)] at c_30; rw [hr_2 c_10 c_30]; rfl)))
        · have hfb : fb < nF := by omega
          refine g_aaF (q := 52) C dX1_hasRoom_51 rfl rfl (IX.d0 I _ (by decide)) rfl (by omega) (by decide) (m6 fb hb9) ?_
          refine g_acmp_ne (tgt := 59) (q := 55) C dX1_hasRoom_52 rfl (by decide) (IX.df I (by assumption)) (IX.df I (by assumption)) (fun c_52 => ?_) (fun c_52 => ?_)
          · refine g_iconst (v := 0) (q := 60) C dX1_hasRoom_59 rfl (by decide) ?_
            exact g_zret C RT9 dX1_hasRoom_60 rfl (pxi (by
  rw [hP i hi, fit_1 (Fx _ hf) (pf_ok hD hi).1 (by have := (pf_ok hD hi).2; omega)] at c_10
  first
  | rw [hr_3 hw9 (by omega)]; rfl
  | rw [hr_4 hw9 (by omega)]; rfl
  | rw [hr_5 c_10 (by omega) (by omega)]; rfl
  | (rw [n4, nI_leI (by omega) (by omega)] at c_30; rw [hr_2 c_10 c_30]; rfl)))
          · refine g_iconst (v := 1) (q := 56) C dX1_hasRoom_55 rfl (by decide) ?_
            refine g_goto (tgt := 60) C dX1_hasRoom_56 (by decide) ?_
            exact g_zret C RT9 dX1_hasRoom_60 rfl (pxi (by
  rw [hP i hi, fit_1 (Fx _ hf) (pf_ok hD hi).1 (by have := (pf_ok hD hi).2; omega)] at c_10
  first
  | rw [hr_3 hw9 (by omega)]; rfl
  | rw [hr_4 hw9 (by omega)]; rfl
  | rw [hr_5 c_10 (by omega) (by omega)]; rfl
  | (rw [n4, nI_leI (by omega) (by omega)] at c_30; rw [hr_2 c_10 c_30]; rfl)))
  · refine g_iconst (v := 1) (q := 14) C dX1_hasRoom_13 rfl (by decide) ?_
    exact g_zret C RT9 dX1_hasRoom_14 rfl (pxi (by rw [hP i hi, fit_1 (Fx _ hf) (pf_ok hD hi).1 (by have := (pf_ok hD hi).2; omega)] at c_10; rw [hr_1 (Classical.not_not.mp c_10)]; rfl))

set_option maxHeartbeats 4000000 in
set_option maxRecDepth 100000 in
theorem m_X1_betterHasRoom (I : IX dm nF nP) (hD : Dok D n) (hco : CO D n nF) (M : XM D n nP q pl a b r) (Fx : XF D nF fr x k a) (hP : XP D n a) {i w : Nat} (hi : i < n) (hw : w ≤ D.2.1 i) : MT g bs l yX1_betterHasRoom cX1_betterHasRoom 5 (some .boolean) 1 0 0 [.ref (ad 5), .int (nI i), .int (nI w)] ad dm a b r (fun v ad0 dm0 a0 b0 r0 => ad0 = ad ∧ dm0 = dm ∧ a0 = a ∧ b0 = b ∧ r0 = r ∧ ∃ c : Bool, v = some (.int (bI c)) ∧ (c = true → ∃ t, t < w ∧ ∀ f, (D.2.2.1 i (pl i t) / 9 = f ∨ D.2.2.1 i (pl i t) % 9 = f + 1) → hrb D n fr x k pl i w f = true)) := by
  refine mt_of (by decide) [some (.ref (ad 5)), some (.int (nI i)), some (.int (nI w)), none, none] rfl (Nat.le_of_ble_eq_true rfl) ?_
  intro E hg hbs hl hN C RT9 hcells hslots hname
  obtain ⟨n1, n2, n3, n4⟩ := M.2.1 i hi
  obtain ⟨d1, d2, d3, d4, d5⟩ := hD.2 i hi
  have hn6 := hD.1
  have hnF := I.1
  have lp : ∀ (s t : Nat) (e4 : Option Value), t + s = w → G E 0 0 ad dm a b r 2 [some (.ref (ad 5)), some (.int (nI i)), some (.int (nI w)), some (.int (nI t)), e4] [] := by
    intro s
    induction s with
    | zero =>
      intro t e4 ht
      refine g_iload_3 (q := 3) C dX1_betterHasRoom_2 rfl ?_
      refine g_iload_2 (q := 4) C dX1_betterHasRoom_3 rfl ?_
      refine g_icmp_ge (tgt := 65) (q := 7) C dX1_betterHasRoom_4 rfl (by decide) (fun c_4 => ?_) (fun c_4 => absurd (nI_le (by omega) (by omega)) c_4)
      refine g_iconst (v := 0) (q := 66) C dX1_betterHasRoom_65 rfl (by decide) ?_
      exact g_zret C RT9 dX1_betterHasRoom_66 rfl ⟨rfl, rfl, rfl, rfl, rfl, false, rfl, fun h => by cases h⟩
    | succ s ih =>
      intro t e4 ht
      obtain ⟨m1, m2, m3, m4, m5, m6⟩ := M.2.2 i hi t (by omega)
      obtain ⟨c1, c2, c3⟩ := hco i hi _ m1
      refine g_iload_3 (q := 3) C dX1_betterHasRoom_2 rfl ?_
      refine g_iload_2 (q := 4) C dX1_betterHasRoom_3 rfl ?_
      refine g_icmp_ge (tgt := 65) (q := 7) C dX1_betterHasRoom_4 rfl (by decide) (fun c_4 => absurd c_4 (nI_ge (by omega) (by omega))) (fun c_4 => ?_)
      refine g_iload_1 (q := 8) C dX1_betterHasRoom_7 rfl ?_
      refine g_bipush (v := 12) (q := 10) C dX1_betterHasRoom_8 rfl (by decide) ?_
      refine g_imul (q := 11) C dX1_betterHasRoom_10 rfl ?_
      refine g_iload_3 (q := 12) C dX1_betterHasRoom_11 rfl ?_
      refine g_iadd (q := 13) C dX1_betterHasRoom_12 rfl ?_
      rw [ix12]
      refine g_istore_4 (q := 15) C dX1_betterHasRoom_13 rfl (by rw [hN]; decide) rfl ?_
      refine g_aload_0 (q := 16) C dX1_betterHasRoom_15 rfl ?_
      refine g_iload_1 (q := 17) C dX1_betterHasRoom_16 rfl ?_
      refine g_iload_2 (q := 18) C dX1_betterHasRoom_17 rfl ?_
      refine g_aload_0 (q := 19) C dX1_betterHasRoom_18 rfl ?_
      refine g_getc (q := 22) (m := 13) C f_X1_38 dX1_betterHasRoom_19 rfl rfl (IX.d0 I _ (by decide)) ?_
      refine g_iload_4 (q := 24) C dX1_betterHasRoom_22 rfl ?_
      refine g_aaF (q := 25) C dX1_betterHasRoom_24 rfl rfl (IX.d0 I _ (by decide)) rfl (by omega) (by decide) m4 ?_
      refine g_cv3i (q := 28) C cv_X1_122 dX1_betterHasRoom_25 rfl rfl (IX.d0 I _ (by decide)) (m_X1_hasRoom I hD hco M Fx hP hi hw c1) (by decide) (Nat.le_of_ble_eq_true rfl) ⟨Nat.zero_le _, Nat.zero_le _⟩ ?_
      refine g_ifeqb (tgt := 59) (q := 31) C dX1_betterHasRoom_28 rfl (by decide) (fun c_28 => ?_) (fun c_28 => ?_)
      · refine g_iinc_3 (v := nI (t + 1)) (q := 62) C dX1_betterHasRoom_59 rfl (by rw [hN]; decide) (nI_1 t) ?_
        refine g_goto (tgt := 2) C dX1_betterHasRoom_62 (by decide) ?_
        exact ih (t + 1) _ (by omega)
      · refine g_aload_0 (q := 32) C dX1_betterHasRoom_31 rfl ?_
        refine g_getc (q := 35) (m := 14) C f_X1_42 dX1_betterHasRoom_32 rfl rfl (IX.d0 I _ (by decide)) ?_
        refine g_iload_4 (q := 37) C dX1_betterHasRoom_35 rfl ?_
        rcases hb9 : D.2.2.1 i (pl i t) % 9 with _ | fb
        · refine g_aaFN (q := 38) C dX1_betterHasRoom_37 rfl rfl (IX.d0 I _ (by decide)) rfl (by omega) (by decide) (m5 hb9) ?_
          refine g_ifnullN (tgt := 57) C dX1_betterHasRoom_38 (by decide) ?_
          refine g_iconst (v := 1) (q := 58) C dX1_betterHasRoom_57 rfl (by decide) ?_
          exact g_zret C RT9 dX1_betterHasRoom_58 rfl ⟨rfl, rfl, rfl, rfl, rfl, true, rfl, fun _ => ⟨t, by omega, fun f hf => by
  rcases hf with hf | hf
  · rw [← hf]; exact c_28
  · rw [hb9] at hf
    first
    | omega
    | (rw [show f = fb by omega]; exact c_54)⟩⟩
        · have hfb : fb < nF := by omega
          refine g_aaF (q := 38) C dX1_betterHasRoom_37 rfl rfl (IX.d0 I _ (by decide)) rfl (by omega) (by decide) (m6 fb hb9) ?_
          refine g_ifnull (q := 41) C dX1_betterHasRoom_38 rfl ?_
          refine g_aload_0 (q := 42) C dX1_betterHasRoom_41 rfl ?_
          refine g_iload_1 (q := 43) C dX1_betterHasRoom_42 rfl ?_
          refine g_iload_2 (q := 44) C dX1_betterHasRoom_43 rfl ?_
          refine g_aload_0 (q := 45) C dX1_betterHasRoom_44 rfl ?_
          refine g_getc (q := 48) (m := 14) C f_X1_42 dX1_betterHasRoom_45 rfl rfl (IX.d0 I _ (by decide)) ?_
          refine g_iload_4 (q := 50) C dX1_betterHasRoom_48 rfl ?_
          refine g_aaF (q := 51) C dX1_betterHasRoom_50 rfl rfl (IX.d0 I _ (by decide)) rfl (by omega) (by decide) (m6 fb hb9) ?_
          refine g_cv3i (q := 54) C cv_X1_122 dX1_betterHasRoom_51 rfl rfl (IX.d0 I _ (by decide)) (m_X1_hasRoom I hD hco M Fx hP hi hw hfb) (by decide) (Nat.le_of_ble_eq_true rfl) ⟨Nat.zero_le _, Nat.zero_le _⟩ ?_
          refine g_ifeqb (tgt := 59) (q := 57) C dX1_betterHasRoom_54 rfl (by decide) (fun c_54 => ?_) (fun c_54 => ?_)
          · refine g_iinc_3 (v := nI (t + 1)) (q := 62) C dX1_betterHasRoom_59 rfl (by rw [hN]; decide) (nI_1 t) ?_
            refine g_goto (tgt := 2) C dX1_betterHasRoom_62 (by decide) ?_
            exact ih (t + 1) _ (by omega)
          · refine g_iconst (v := 1) (q := 58) C dX1_betterHasRoom_57 rfl (by decide) ?_
            exact g_zret C RT9 dX1_betterHasRoom_58 rfl ⟨rfl, rfl, rfl, rfl, rfl, true, rfl, fun _ => ⟨t, by omega, fun f hf => by
  rcases hf with hf | hf
  · rw [← hf]; exact c_28
  · rw [hb9] at hf
    first
    | omega
    | (rw [show f = fb by omega]; exact c_54)⟩⟩
  refine g_iconst (v := 0) (q := 1) C dX1_betterHasRoom_0 rfl (by decide) ?_
  refine g_istore_3 (q := 2) C dX1_betterHasRoom_1 rfl (by rw [hN]; decide) rfl ?_
  exact lp w 0 none (by omega)

def PLok (D : MD) (n : Nat) (pl : Nat → Nat → Nat) : Prop := ∀ i, i < n → (∀ w w', w < w' → w' < D.2.1 i → mW D i (pl i w') < mW D i (pl i w)) ∧ ∀ p, p < D.2.1 i → ∃ w, w < D.2.1 i ∧ pl i w = p
set_option maxHeartbeats 4000000 in
set_option maxRecDepth 100000 in
theorem m_X1_mostWorth (I : IX dm nF nP) (hD : Dok D n) (hco : CO D n nF) (M : XM D n nP q pl a b r) (hpl : PLok D n pl) (Fx : XF D nF fr x k a) {i : Nat} (hi : i < n) : MT g bs l yX1_mostWorth cX1_mostWorth 4 (some .long) 1 0 0 [.ref (ad 5), .int (nI i)] ad dm a b r (fun v ad0 dm0 a0 b0 r0 => ad0 = ad ∧ dm0 = dm ∧ a0 = a ∧ b0 = b ∧ r0 = r ∧ ∃ W9 : Nat, v = some (.long (lN W9)) ∧ W9 < 2 ^ 50 ∧ ∀ p, p < D.2.1 i → fitb D fr x k i p = true → mW D i p ≤ W9) := by
  refine mt_of (by decide) [some (.ref (ad 5)), some (.int (nI i)), none, none] rfl (Nat.le_of_ble_eq_true rfl) ?_
  intro E hg hbs hl hN C RT9 hcells hslots hname
  obtain ⟨n1, n2, n3, n4⟩ := M.2.1 i hi
  obtain ⟨d1, d2, d3, d4, d5⟩ := hD.2 i hi
  have hn6 := hD.1
  have hnF := I.1
  have lp : ∀ (s w : Nat) (e3 : Option Value), w + s = D.2.1 i → (∀ w', w' < w → fitb D fr x k i (pl i w') = false) → G E 0 0 ad dm a b r 2 [some (.ref (ad 5)), some (.int (nI i)), some (.int (nI w)), e3] [] := by
    intro s
    induction s with
    | zero =>
      intro w e3 ht hno
      refine g_iload_2 (q := 3) C dX1_mostWorth_2 rfl ?_
      refine g_aload_0 (q := 4) C dX1_mostWorth_3 rfl ?_
      refine g_getc (q := 7) (m := 9) C f_X1_24 dX1_mostWorth_4 rfl rfl (IX.d0 I _ (by decide)) ?_
      refine g_iload_1 (q := 8) C dX1_mostWorth_7 rfl ?_
      refine g_ia (q := 9) C dX1_mostWorth_8 rfl rfl (IX.d0 I _ (by decide)) rfl (by omega) (by decide) ?_
      refine g_icmp_ge (tgt := 41) (q := 12) C dX1_mostWorth_9 rfl (by decide) (fun c_9 => ?_) (fun c_9 => absurd (by rw [n4]; exact nI_le (by omega) (by omega)) c_9)
      refine g_lconst (v := 0) (q := 42) C dX1_mostWorth_41 rfl rfl ?_
      exact g_lret C RT9 dX1_mostWorth_42 ⟨rfl, rfl, rfl, rfl, rfl, 0, rfl, by decide, fun p hp hf => by
  obtain ⟨w', w1, w2⟩ := (hpl i hi).2 p hp
  have := hno w' (by omega)
  rw [w2, hf] at this
  cases this⟩
    | succ s ih =>
      intro w e3 ht hno
      obtain ⟨m1, m2, m3, m4, m5, m6⟩ := M.2.2 i hi w (by omega)
      refine g_iload_2 (q := 3) C dX1_mostWorth_2 rfl ?_
      refine g_aload_0 (q := 4) C dX1_mostWorth_3 rfl ?_
      refine g_getc (q := 7) (m := 9) C f_X1_24 dX1_mostWorth_4 rfl rfl (IX.d0 I _ (by decide)) ?_
      refine g_iload_1 (q := 8) C dX1_mostWorth_7 rfl ?_
      refine g_ia (q := 9) C dX1_mostWorth_8 rfl rfl (IX.d0 I _ (by decide)) rfl (by omega) (by decide) ?_
      refine g_icmp_ge (tgt := 41) (q := 12) C dX1_mostWorth_9 rfl (by decide) (fun c_9 => absurd c_9 (by rw [n4]; exact nI_ge (by omega) (by omega))) (fun c_9 => ?_)
      refine g_iload_1 (q := 13) C dX1_mostWorth_12 rfl ?_
      refine g_bipush (v := 12) (q := 15) C dX1_mostWorth_13 rfl (by decide) ?_
      refine g_imul (q := 16) C dX1_mostWorth_15 rfl ?_
      refine g_iload_2 (q := 17) C dX1_mostWorth_16 rfl ?_
      refine g_iadd (q := 18) C dX1_mostWorth_17 rfl ?_
      rw [ix12]
      refine g_istore_3 (q := 19) C dX1_mostWorth_18 rfl (by rw [hN]; decide) rfl ?_
      refine g_aload_0 (q := 20) C dX1_mostWorth_19 rfl ?_
      refine g_iload_1 (q := 21) C dX1_mostWorth_20 rfl ?_
      refine g_iload_3 (q := 22) C dX1_mostWorth_21 rfl ?_
      refine g_cv2i (q := 25) C cv_X1_104 dX1_mostWorth_22 rfl rfl (IX.d0 I _ (by decide)) (m_X1_fits I hD hco M Fx hi (show w < D.2.1 i by omega)) (by decide) (Nat.le_of_ble_eq_true rfl) ⟨Nat.zero_le _, Nat.zero_le _⟩ ?_
      refine g_ifeqb (tgt := 35) (q := 28) C dX1_mostWorth_25 rfl (by decide) (fun c_25 => ?_) (fun c_25 => ?_)
      · refine g_iinc_2 (v := nI (w + 1)) (q := 38) C dX1_mostWorth_35 rfl (by rw [hN]; decide) (nI_1 w) ?_
        refine g_goto (tgt := 2) C dX1_mostWorth_38 (by decide) ?_
        refine ih (w + 1) _ (by omega) (fun w' hw' => ?_)
        by_cases e : w' = w
        · rw [e]; exact c_25
        · exact hno w' (by omega)
      · refine g_aload_0 (q := 29) C dX1_mostWorth_28 rfl ?_
        refine g_getc (q := 32) (m := 16) C f_X1_48 dX1_mostWorth_29 rfl rfl (IX.d0 I _ (by decide)) ?_
        refine g_iload_3 (q := 33) C dX1_mostWorth_32 rfl ?_
        refine g_la (q := 34) C dX1_mostWorth_33 rfl rfl (IX.d0 I _ (by decide)) rfl (by omega) (by decide) ?_
        exact g_lret C RT9 dX1_mostWorth_34 ⟨rfl, rfl, rfl, rfl, rfl, mW D i (pl i w), by rw [m3], by have := mW_le hD hi (pl i w); omega, fun p hp hf => by
  obtain ⟨w', w1, w2⟩ := (hpl i hi).2 p hp
  rcases Nat.lt_trichotomy w' w with h | h | h
  · have := hno w' h
    rw [w2, hf] at this
    cases this
  · rw [← w2, h]; exact Nat.le_refl _
  · have := (hpl i hi).1 w w' h w1
    rw [w2] at this
    omega⟩
  refine g_iconst (v := 0) (q := 1) C dX1_mostWorth_0 rfl (by decide) ?_
  refine g_istore_2 (q := 2) C dX1_mostWorth_1 rfl (by rw [hN]; decide) rfl ?_
  exact lp (D.2.1 i) 0 none (by omega) (fun w hw => by omega)

theorem fit_y (hD : Dok D n) (hco : CO D n nF) {y : Nat → Nat} {j : Nat} (hj : j < n) (hk : k ≤ j) (hy : fe D nF (capI fr) n y) (hx : ∀ i, i < k → y i = x i) (hw : y j < D.2.1 j) : fitb D fr x k j (y j) = true := by
  obtain ⟨c1, c2, c3⟩ := hco j hj _ hw
  have key : ∀ f, f < nF → (D.2.2.1 j (y j) / 9 = f ∨ D.2.2.1 j (y j) % 9 = f + 1) → us D f x k + D.1 j ≤ capI fr f := fun f hf hu => by
    have h1 := hy f hf
    have h2 : us D f y (j + 1) ≤ us D f y n := sT_mono (by omega)
    have h3 : us D f y (j + 1) = us D f y j + uW D f j (y j) := rfl
    have h4 : us D f y k ≤ us D f y j := sT_mono hk
    have h5 : us D f y k = us D f x k := us_cong hx
    have h6 : uW D f j (y j) = D.1 j := by unfold uW; rw [if_pos ⟨hw, hu⟩]
    omega
  rcases hb9 : D.2.2.1 j (y j) % 9 with _ | fb
  · exact fb_2 (key _ c1 (Or.inl rfl)) hb9
  · exact fb_4 (key _ c1 (Or.inl rfl)) hb9 (key fb (by omega) (Or.inr hb9))
set_option maxHeartbeats 4000000 in
set_option maxRecDepth 100000 in
theorem m_X1_mayBeat (I : IX dm nF nP) (hD : Dok D n) (hco : CO D n nF) (M : XM D n nP q pl a b r) (hpl : PLok D n pl) (Fx : XF D nF fr x k a) (hk : k < n) {sc : Nat} (hsc : b 5 11 = lN sc) (hs2 : sc < 2 ^ 60) : MT g bs l yX1_mayBeat cX1_mayBeat 7 (some .boolean) 2 0 0 [.ref (ad 5), .int (nI k), .long (lN (sm D x k))] ad dm a b r (fun v ad0 dm0 a0 b0 r0 => ad0 = ad ∧ dm0 = dm ∧ a0 = a ∧ b0 = b ∧ r0 = r ∧ ∃ c : Bool, v = some (.int (bI c)) ∧ (c = false → ∀ y, cn D n y → fe D nF (capI fr) n y → (∀ i, i < k → y i = x i) → sm D y n ≤ sc)) := by
  refine mt_of (by decide) [some (.ref (ad 5)), some (.int (nI k)), some (.long (lN (sm D x k))), none, none, none, none] rfl (Nat.le_of_ble_eq_true rfl) ?_
  intro E hg hbs hl hN C RT9 hcells hslots hname
  have hn6 := hD.1
  have hs9 := sm_le hD (y := x) (m := k) (by omega)
  have lp : ∀ (s j W9 : Nat), j + s = n → k ≤ j → W9 ≤ (j + 1) * 2 ^ 50 → (∀ y, cn D n y → fe D nF (capI fr) n y → (∀ i, i < k → y i = x i) → sm D y j ≤ W9) → G E 0 0 ad dm a b r 6 [some (.ref (ad 5)), some (.int (nI k)), some (.long (lN (sm D x k))), none, some (.long (lN W9)), none, some (.int (nI j))] [] := by
    intro s
    induction s with
    | zero =>
      intro j W9 hj hkj hW hM
      refine g_iload_6 (q := 8) C dX1_mayBeat_6 rfl ?_
      refine g_aload_0 (q := 9) C dX1_mayBeat_8 rfl ?_
      refine g_geti (q := 12) C f_X1_56 dX1_mayBeat_9 rfl rfl (IX.d0 I _ (by decide)) ?_
      refine g_icmp_ge (tgt := 32) (q := 15) C dX1_mayBeat_12 rfl (by decide) (fun c_12 => ?_) (fun c_12 => absurd (by rw [M.1]; exact nI_le (by omega) (by omega)) c_12)
      refine g_lload_4 (q := 34) C dX1_mayBeat_32 rfl ?_
      refine g_aload_0 (q := 35) C dX1_mayBeat_34 rfl ?_
      refine g_getl (q := 38) C f_X1_52 dX1_mayBeat_35 rfl rfl (IX.d0 I _ (by decide)) ?_
      refine g_lcmp (q := 39) C dX1_mayBeat_38 rfl ?_
      refine g_if_le (tgt := 46) (q := 42) C dX1_mayBeat_39 rfl (by decide) (fun c_39 => ?_) (fun c_39 => ?_)
      · refine g_iconst (v := 0) (q := 47) C dX1_mayBeat_46 rfl (by decide) ?_
        exact g_zret C RT9 dX1_mayBeat_47 rfl ⟨rfl, rfl, rfl, rfl, rfl, false, rfl, fun _ y y1 y2 y3 => by
          rw [lc_le, hsc, pk_lLE (by omega) (by omega)] at c_39
          have h9 := hM y y1 y2 y3
          rw [show j = n by omega] at h9
          exact Nat.le_trans h9 c_39⟩
      · refine g_iconst (v := 1) (q := 43) C dX1_mayBeat_42 rfl (by decide) ?_
        refine g_goto (tgt := 47) C dX1_mayBeat_43 (by decide) ?_
        exact g_zret C RT9 dX1_mayBeat_47 rfl ⟨rfl, rfl, rfl, rfl, rfl, true, rfl, fun h => by cases h⟩
    | succ s ih =>
      intro j W9 hj hkj hW hM
      refine g_iload_6 (q := 8) C dX1_mayBeat_6 rfl ?_
      refine g_aload_0 (q := 9) C dX1_mayBeat_8 rfl ?_
      refine g_geti (q := 12) C f_X1_56 dX1_mayBeat_9 rfl rfl (IX.d0 I _ (by decide)) ?_
      refine g_icmp_ge (tgt := 32) (q := 15) C dX1_mayBeat_12 rfl (by decide) (fun c_12 => absurd c_12 (by rw [M.1]; exact nI_ge (by omega) (by omega))) (fun c_12 => ?_)
      refine g_lload_4 (q := 17) C dX1_mayBeat_15 rfl ?_
      refine g_aload_0 (q := 18) C dX1_mayBeat_17 rfl ?_
      refine g_iload_6 (q := 20) C dX1_mayBeat_18 rfl ?_
      refine g_cv1g (q := 23) C cv_X1_115 dX1_mayBeat_20 rfl rfl (IX.d0 I _ (by decide)) (m_X1_mostWorth I hD hco M hpl Fx (show j < n by omega)) (by decide) (Nat.le_of_ble_eq_true rfl) ⟨Nat.zero_le _, Nat.zero_le _⟩ (fun v ad' dm' a' b' r' hp => ?_)
      obtain ⟨rfl, rfl, rfl, rfl, rfl, w9, rfl, hw1, hw2⟩ := hp
      change G E 0 0 _ _ _ _ _ 23 _ [.long (lN w9), .long (lN W9)]
      refine g_ladd (q := 24) C dX1_mayBeat_23 rfl ?_
      rw [lN_add]
      refine g_lstore_4 (q := 26) C dX1_mayBeat_24 rfl (by rw [hN]; decide) rfl ?_
      refine g_iinc_6 (v := nI (j + 1)) (q := 29) C dX1_mayBeat_26 rfl (by rw [hN]; decide) (nI_1 j) ?_
      refine g_goto (tgt := 6) C dX1_mayBeat_29 (by decide) ?_
      refine ih (j + 1) (W9 + w9) (by omega) (by omega) (by omega) (fun y y1 y2 y3 => ?_)
      have e1 : sm D y (j + 1) = sm D y j + mW D j (y j) := rfl
      have h1 := hM y y1 y2 y3
      have h2 : mW D j (y j) ≤ w9 := by
        rcases y1 j (by omega) with h | h
        · exact hw2 _ h (fit_y hD hco (by omega) (by omega) y2 y3 h)
        · have := (hD.2 j (by omega)).2.2.1
          rw [h, mW, gW, dW, if_neg (by omega), if_neg (by omega), Nat.zero_mul]
          exact Nat.zero_le _
      omega
  refine g_lload_2 (q := 1) C dX1_mayBeat_0 rfl ?_
  refine g_lstore_4 (q := 3) C dX1_mayBeat_1 rfl (by rw [hN]; decide) rfl ?_
  refine g_iload_1 (q := 4) C dX1_mayBeat_3 rfl ?_
  refine g_istore_6 (q := 6) C dX1_mayBeat_4 rfl (by rw [hN]; decide) rfl ?_
  exact lp (n - k) k (sm D x k) (by omega) (Nat.le_refl _) (by omega) (fun y _ _ y3 => Nat.le_of_eq (sm_cong y3))

def ENC (D : MD) (pl : Nat → Nat → Nat) (v : Int32) (j p : Nat) : Prop := (p < D.2.1 j ∧ ∃ w, w < D.2.1 j ∧ v = nI w ∧ pl j w = p) ∨ (p = 15 ∧ v = nI (D.2.1 j))
def twI (t : Option Nat) : Int32 := match t with
  | none => -1
  | some t => nI t
set_option maxHeartbeats 4000000 in
set_option maxRecDepth 100000 in
theorem m_X1_twinPlace_n (I : IX dm nF nP) (hD : Dok D n) (hco : CO D n nF) (M : XM D n nP q pl a b r) {i : Nat} (hi : i < n) (ht : a 8 i = -1) : MT g bs l yX1_twinPlace cX1_twinPlace 3 (some .int) 0 0 0 [.ref (ad 5), .int (nI i)] ad dm a b r (PX (some (.int (nI 0))) ad dm a b r) := by
  refine mt_of (by decide) [some (.ref (ad 5)), some (.int (nI i)), none] rfl (Nat.le_of_ble_eq_true rfl) ?_
  intro E hg hbs hl hN C RT9 hcells hslots hname
  obtain ⟨n1, n2, n3, n4⟩ := M.2.1 i hi
  obtain ⟨d1, d2, d3, d4, d5⟩ := hD.2 i hi
  have hn6 := hD.1
  have hnF := I.1
  refine g_aload_0 (q := 1) C dX1_twinPlace_0 rfl ?_
  refine g_getc (q := 4) (m := 8) C f_X1_21 dX1_twinPlace_1 rfl rfl (IX.d0 I _ (by decide)) ?_
  refine g_iload_1 (q := 5) C dX1_twinPlace_4 rfl ?_
  refine g_ia (q := 6) C dX1_twinPlace_5 rfl rfl (IX.d0 I _ (by decide)) rfl (by omega) (by decide) ?_
  refine g_istore_2 (q := 7) C dX1_twinPlace_6 rfl (by rw [hN]; decide) rfl ?_
  refine g_iload_2 (q := 8) C dX1_twinPlace_7 rfl ?_
  refine g_iconst (v := (-1)) (q := 9) C dX1_twinPlace_8 rfl (by decide) ?_
  refine g_icmp_ne (tgt := 14) (q := 12) C dX1_twinPlace_9 rfl (by decide) (fun c_9 => absurd ht c_9) (fun c_9 => ?_)
  refine g_iconst (v := 0) (q := 13) C dX1_twinPlace_12 rfl (by decide) ?_
  exact g_iret C RT9 dX1_twinPlace_13 (px rfl)

set_option maxHeartbeats 4000000 in
set_option maxRecDepth 100000 in
theorem m_X1_twinPlace_s (I : IX dm nF nP) (hD : Dok D n) (hco : CO D n nF) (M : XM D n nP q pl a b r) {i t : Nat} (hi : i < n) (hti : t < i) (ht : a 8 i = nI t) (he : ENC D pl (a 10 t) t (x t)) : MT g bs l yX1_twinPlace cX1_twinPlace 3 (some .int) 0 0 0 [.ref (ad 5), .int (nI i)] ad dm a b r (PX (some (.int (nI (x t)))) ad dm a b r) := by
  refine mt_of (by decide) [some (.ref (ad 5)), some (.int (nI i)), none] rfl (Nat.le_of_ble_eq_true rfl) ?_
  intro E hg hbs hl hN C RT9 hcells hslots hname
  have hn6 := hD.1
  have hnF := I.1
  have htn : t < n := by omega
  obtain ⟨n1, n2, n3, n4⟩ := M.2.1 t htn
  obtain ⟨d1, d2, d3, d4, d5⟩ := hD.2 t htn
  rcases he with ⟨e0, w, e1, e2, e3⟩ | ⟨e1, e2⟩
  · skip
    refine g_aload_0 (q := 1) C dX1_twinPlace_0 rfl ?_
    refine g_getc (q := 4) (m := 8) C f_X1_21 dX1_twinPlace_1 rfl rfl (IX.d0 I _ (by decide)) ?_
    refine g_iload_1 (q := 5) C dX1_twinPlace_4 rfl ?_
    refine g_ia (q := 6) C dX1_twinPlace_5 rfl rfl (IX.d0 I _ (by decide)) rfl (by omega) (by decide) ?_
    rw [ht]
    refine g_istore_2 (q := 7) C dX1_twinPlace_6 rfl (by rw [hN]; decide) rfl ?_
    refine g_iload_2 (q := 8) C dX1_twinPlace_7 rfl ?_
    refine g_iconst (v := (-1)) (q := 9) C dX1_twinPlace_8 rfl (by decide) ?_
    refine g_icmp_ne (tgt := 14) (q := 12) C dX1_twinPlace_9 rfl (by decide) (fun c_9 => ?_) (fun c_9 => absurd c_9 (nI_m1 (by omega)))
    refine g_aload_0 (q := 15) C dX1_twinPlace_14 rfl ?_
    refine g_getc (q := 18) (m := 10) C f_X1_27 dX1_twinPlace_15 rfl rfl (IX.d0 I _ (by decide)) ?_
    refine g_iload_2 (q := 19) C dX1_twinPlace_18 rfl ?_
    refine g_ia (q := 20) C dX1_twinPlace_19 rfl rfl (IX.d0 I _ (by decide)) rfl (by omega) (by decide) ?_
    refine g_aload_0 (q := 21) C dX1_twinPlace_20 rfl ?_
    refine g_getc (q := 24) (m := 9) C f_X1_24 dX1_twinPlace_21 rfl rfl (IX.d0 I _ (by decide)) ?_
    refine g_iload_2 (q := 25) C dX1_twinPlace_24 rfl ?_
    refine g_ia (q := 26) C dX1_twinPlace_25 rfl rfl (IX.d0 I _ (by decide)) rfl (by omega) (by decide) ?_
    rw [n4, e2]
    refine g_icmp_ge (tgt := 48) (q := 29) C dX1_twinPlace_26 rfl (by decide) (fun c_26 => absurd c_26 (nI_ge (by omega) (by omega))) (fun c_26 => ?_)
    refine g_aload_0 (q := 30) C dX1_twinPlace_29 rfl ?_
    refine g_getc (q := 33) (m := 15) C f_X1_45 dX1_twinPlace_30 rfl rfl (IX.d0 I _ (by decide)) ?_
    refine g_iload_2 (q := 34) C dX1_twinPlace_33 rfl ?_
    refine g_bipush (v := 12) (q := 36) C dX1_twinPlace_34 rfl (by decide) ?_
    refine g_imul (q := 37) C dX1_twinPlace_36 rfl ?_
    refine g_aload_0 (q := 38) C dX1_twinPlace_37 rfl ?_
    refine g_getc (q := 41) (m := 10) C f_X1_27 dX1_twinPlace_38 rfl rfl (IX.d0 I _ (by decide)) ?_
    refine g_iload_2 (q := 42) C dX1_twinPlace_41 rfl ?_
    refine g_ia (q := 43) C dX1_twinPlace_42 rfl rfl (IX.d0 I _ (by decide)) rfl (by omega) (by decide) ?_
    rw [e2]
    refine g_iadd (q := 44) C dX1_twinPlace_43 rfl ?_
    refine g_ia (q := 45) C dX1_twinPlace_44 rfl rfl (IX.d0 I _ (by decide)) (ix12 t w) (by omega) (by decide) ?_
    refine g_goto (tgt := 50) C dX1_twinPlace_45 (by decide) ?_
    exact g_iret C RT9 dX1_twinPlace_50 (pxi (by rw [(M.2.2 t htn w e1).2.1, e3]))
  · skip
    refine g_aload_0 (q := 1) C dX1_twinPlace_0 rfl ?_
    refine g_getc (q := 4) (m := 8) C f_X1_21 dX1_twinPlace_1 rfl rfl (IX.d0 I _ (by decide)) ?_
    refine g_iload_1 (q := 5) C dX1_twinPlace_4 rfl ?_
    refine g_ia (q := 6) C dX1_twinPlace_5 rfl rfl (IX.d0 I _ (by decide)) rfl (by omega) (by decide) ?_
    rw [ht]
    refine g_istore_2 (q := 7) C dX1_twinPlace_6 rfl (by rw [hN]; decide) rfl ?_
    refine g_iload_2 (q := 8) C dX1_twinPlace_7 rfl ?_
    refine g_iconst (v := (-1)) (q := 9) C dX1_twinPlace_8 rfl (by decide) ?_
    refine g_icmp_ne (tgt := 14) (q := 12) C dX1_twinPlace_9 rfl (by decide) (fun c_9 => ?_) (fun c_9 => absurd c_9 (nI_m1 (by omega)))
    refine g_aload_0 (q := 15) C dX1_twinPlace_14 rfl ?_
    refine g_getc (q := 18) (m := 10) C f_X1_27 dX1_twinPlace_15 rfl rfl (IX.d0 I _ (by decide)) ?_
    refine g_iload_2 (q := 19) C dX1_twinPlace_18 rfl ?_
    refine g_ia (q := 20) C dX1_twinPlace_19 rfl rfl (IX.d0 I _ (by decide)) rfl (by omega) (by decide) ?_
    refine g_aload_0 (q := 21) C dX1_twinPlace_20 rfl ?_
    refine g_getc (q := 24) (m := 9) C f_X1_24 dX1_twinPlace_21 rfl rfl (IX.d0 I _ (by decide)) ?_
    refine g_iload_2 (q := 25) C dX1_twinPlace_24 rfl ?_
    refine g_ia (q := 26) C dX1_twinPlace_25 rfl rfl (IX.d0 I _ (by decide)) rfl (by omega) (by decide) ?_
    rw [n4, e2]
    refine g_icmp_ge (tgt := 48) (q := 29) C dX1_twinPlace_26 rfl (by decide) (fun c_26 => ?_) (fun c_26 => absurd (nI_le (by omega) (by omega)) c_26)
    refine g_bipush (v := 15) (q := 50) C dX1_twinPlace_48 rfl (by decide) ?_
    exact g_iret C RT9 dX1_twinPlace_50 (pxi (by rw [e1]; rfl))

set_option maxHeartbeats 4000000 in
set_option maxRecDepth 100000 in
theorem m_X1_keepIfBetter (I : IX dm nF nP) (hD : Dok D n) (hco : CO D n nF) (M : XM D n nP q pl a b r) {sc s9 : Nat} (hsc : b 5 11 = lN sc) (hs1 : sc < 2 ^ 60) (hs2 : s9 < 2 ^ 60) : MT g bs l yX1_keepIfBetter cX1_keepIfBetter 4 none 0 0 0 [.ref (ad 5), .long (lN s9)] ad dm a b r (fun v ad0 dm0 a0 b0 r0 => v = none ∧ ad0 = ad ∧ dm0 = dm ∧ r0 = r ∧ ((s9 ≤ sc ∧ a0 = a ∧ b0 = b) ∨ (sc < s9 ∧ (∀ m, m ≠ 11 → a0 m = a m) ∧ (∀ j, j < n → a0 11 j = a 10 j) ∧ b0 = u2 b 5 11 (lN s9)))) := by
  refine mt_of (by decide) [some (.ref (ad 5)), some (.long (lN s9)), none, none] rfl (Nat.le_of_ble_eq_true rfl) ?_
  intro E hg hbs hl hN C RT9 hcells hslots hname
  have hn6 := hD.1
  have lp : sc < s9 → ∀ (s i : Nat) (a0 : Nat → Nat → Int32), i + s = n → (∀ m, m ≠ 11 → a0 m = a m) → (∀ j, j < i → a0 11 j = a 10 j) → G E 0 0 ad dm a0 (u2 b 5 11 (lN s9)) r 16 [some (.ref (ad 5)), some (.long (lN s9)), none, some (.int (nI i))] [] := by
    intro hlt s
    induction s with
    | zero =>
      intro i a0 hi hf hb
      have h5 : a0 5 12 = nI n := by rw [hf 5 (by decide)]; exact M.1
      refine g_iload_3 (q := 17) C dX1_keepIfBetter_16 rfl ?_
      refine g_aload_0 (q := 18) C dX1_keepIfBetter_17 rfl ?_
      refine g_geti (q := 21) C f_X1_56 dX1_keepIfBetter_18 rfl rfl (IX.d0 I _ (by decide)) ?_
      refine g_icmp_ge (tgt := 42) (q := 24) C dX1_keepIfBetter_21 rfl (by decide) (fun c_21 => ?_) (fun c_21 => absurd (by rw [h5]; exact nI_le (by omega) (by omega)) c_21)
      exact g_vret C RT9 dX1_keepIfBetter_42 ⟨rfl, rfl, rfl, rfl, Or.inr ⟨hlt, hf, fun j hj => hb j (by omega), rfl⟩⟩
    | succ s ih =>
      intro i a0 hi hf hb
      have h5 : a0 5 12 = nI n := by rw [hf 5 (by decide)]; exact M.1
      refine g_iload_3 (q := 17) C dX1_keepIfBetter_16 rfl ?_
      refine g_aload_0 (q := 18) C dX1_keepIfBetter_17 rfl ?_
      refine g_geti (q := 21) C f_X1_56 dX1_keepIfBetter_18 rfl rfl (IX.d0 I _ (by decide)) ?_
      refine g_icmp_ge (tgt := 42) (q := 24) C dX1_keepIfBetter_21 rfl (by decide) (fun c_21 => absurd c_21 (by rw [h5]; exact nI_ge (by omega) (by omega))) (fun c_21 => ?_)
      refine g_aload_0 (q := 25) C dX1_keepIfBetter_24 rfl ?_
      refine g_getc (q := 28) (m := 11) C f_X1_30 dX1_keepIfBetter_25 rfl rfl (IX.d0 I _ (by decide)) ?_
      refine g_iload_3 (q := 29) C dX1_keepIfBetter_28 rfl ?_
      refine g_aload_0 (q := 30) C dX1_keepIfBetter_29 rfl ?_
      refine g_getc (q := 33) (m := 10) C f_X1_27 dX1_keepIfBetter_30 rfl rfl (IX.d0 I _ (by decide)) ?_
      refine g_iload_3 (q := 34) C dX1_keepIfBetter_33 rfl ?_
      refine g_ia (q := 35) C dX1_keepIfBetter_34 rfl rfl (IX.d0 I _ (by decide)) rfl (by omega) (by decide) ?_
      refine g_iast (q := 36) C dX1_keepIfBetter_35 rfl rfl (IX.d0 I _ (by decide)) rfl (by omega) (by decide) ?_
      refine g_iinc_3 (v := nI (i + 1)) (q := 39) C dX1_keepIfBetter_36 rfl (by rw [hN]; decide) (nI_1 i) ?_
      refine g_goto (tgt := 16) C dX1_keepIfBetter_39 (by decide) ?_
      refine ih (i + 1) _ (by omega) (fun m hm => by rw [u2_n hm]; exact hf m hm) (fun j hj => ?_)
      by_cases e : j = i
      · subst e; rw [u2_s, hf 10 (by decide)]
      · rw [u2_k e]; exact hb j (by omega)
  refine g_lload_1 (q := 1) C dX1_keepIfBetter_0 rfl ?_
  refine g_aload_0 (q := 2) C dX1_keepIfBetter_1 rfl ?_
  refine g_getl (q := 5) C f_X1_52 dX1_keepIfBetter_2 rfl rfl (IX.d0 I _ (by decide)) ?_
  refine g_lcmp (q := 6) C dX1_keepIfBetter_5 rfl ?_
  refine g_if_le (tgt := 42) (q := 9) C dX1_keepIfBetter_6 rfl (by decide) (fun c_6 => ?_) (fun c_6 => ?_)
  · exact g_vret C RT9 dX1_keepIfBetter_42 ⟨rfl, rfl, rfl, rfl, Or.inl ⟨by rw [lc_le, hsc, pk_lLE (by omega) (by omega)] at c_6; exact c_6, rfl, rfl⟩⟩
  · refine g_aload_0 (q := 10) C dX1_keepIfBetter_9 rfl ?_
    refine g_lload_1 (q := 11) C dX1_keepIfBetter_10 rfl ?_
    refine g_putl (q := 14) C p_X1_52 dX1_keepIfBetter_11 rfl rfl (IX.d0 I _ (by decide)) rfl rfl ?_
    refine g_iconst (v := 0) (q := 15) C dX1_keepIfBetter_14 rfl (by decide) ?_
    refine g_istore_3 (q := 16) C dX1_keepIfBetter_15 rfl (by rw [hN]; decide) rfl ?_
    rw [lc_le, hsc, pk_lLE (by omega) (by omega)] at c_6
    exact lp (by omega) n 0 a (by omega) (fun _ _ => rfl) (fun j hj => by omega)

end X41
