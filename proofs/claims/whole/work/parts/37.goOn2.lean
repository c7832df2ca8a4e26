section M37
variable {g : GM} {bs : Nat} {l : Launch} {ad : Nat → Nat} {dm : Nat → Bool} {a : Nat → Nat → Int32} {b : Nat → Nat → Int64} {r : Nat → Nat → Option Nat} {nF nP : Nat} {fl pa nu : Nat → Int32}
variable {D : MD} {n : Nat} {cap lf ll ld : Nat → Nat}
set_option maxHeartbeats 4000000 in
set_option maxRecDepth 100000 in
theorem m_X4_goOn (hD : Dok D n) (hi : Did D n) (hco : CO D n nF) (hl1 : ∀ i, i < n → ll i ≤ 59994) (hl2 : ∀ i, i < n → ∀ p, p < D.2.1 i → ll i ≤ D.2.2.2.1 i p * D.1 i) : ∀ (t k : Nat) (a : Nat → Nat → Int32) (x : Nat → Nat) (sc : Nat), k + t = n → IM dm a nF nP → MS D n nP lf ll a → ML D nF cap ld x k a → (∀ f, f < nF → us D f x k ≤ cap f) → cn D k x → (∀ j, j < k → a 113 j = enW D j (x j)) → mB D nF cap n a sc (sd D x k + 16 ^ (6 - k)) → MT g bs l yX4_goOn cX4_goOn 10 none (1 + t) 0 0 [.ref (ad 100), .int (nI k), .int (nI (spp D x k)), .int (nI (sl D x k))] ad dm a b r (gP D nF n cap x k sc ad dm a b r) := by
  have hn6 := hD.1
  intro t
  induction t with
  | zero =>
    intro k a x sc hk I S L hu hc hw hb
    have hkn : k = n := by omega
    refine mt_of (by decide) [some (.ref (ad 100)), some (.int (nI k)), some (.int (nI (spp D x k))), some (.int (nI (sl D x k))), none, none, none, none, none, none] rfl (Nat.le_of_ble_eq_true rfl) ?_
    intro E hg hbs hl hN C RT9 hcells hslots hname
    have hnF := I.2.2.1
    have hnP := I.2.2.2.2
    have h94 : ¬ nI (sT (bP D x k) n) < a 100 18 → (¬ nI (sT (bP D x k) n) = a 100 18 ∨ nI (sT (bL D ll x k) n) < a 100 19) → G E 0 0 ad dm a b r 94 [some (.ref (ad 100)), some (.int (nI k)), some (.int (nI (spp D x k))), some (.int (nI (sl D x k))), some (.int (nI (sT (bP D x k) n))), some (.int (nI (sT (bL D ll x k) n))), some (.int (nI n)), none, none, none] [] := by
      intro d1 d2
      refine g_iload_1 (q := 95) C dX4_goOn_94 rfl ?_
      refine g_aload_0 (q := 96) C dX4_goOn_95 rfl ?_
      refine g_geti (q := 99) C f_X4_121 dX4_goOn_96 rfl rfl (IM.d I _ (by decide) (by decide)) ?_
      refine g_icmp_ne (tgt := 145) (q := 102) C dX4_goOn_99 rfl (by decide) (fun c_99 => absurd (by rw [S.1, hkn]) c_99) (fun c_99 => ?_)
      refine g_aload_0 (q := 103) C dX4_goOn_102 rfl ?_
      refine g_iload_2 (q := 104) C dX4_goOn_103 rfl ?_
      refine g_puti (q := 107) C p_X4_124 dX4_goOn_104 rfl rfl (IM.d I _ (by decide) (by decide)) rfl rfl ?_
      have I2 := I
      refine g_aload_0 (q := 108) C dX4_goOn_107 rfl ?_
      refine g_iload_3 (q := 109) C dX4_goOn_108 rfl ?_
      refine g_puti (q := 112) C p_X4_127 dX4_goOn_109 rfl rfl (IM.d I _ (by decide) (by decide)) rfl rfl ?_
      refine g_iconst (v := 0) (q := 113) C dX4_goOn_112 rfl (by decide) ?_
      refine g_istore_6 (q := 115) C dX4_goOn_113 rfl (by rw [hN]; decide) rfl ?_
      refine go_copy (a := u2 (u2 a 100 18 (nI (spp D x k))) 100 19 (nI (sl D x k))) C hN RT9 I (by rw [u2_k (by decide), u2_k (by decide)]; exact S.1) hn6 (fun a0 f1 f2 => ?_) n 0 _ (by omega) (fun _ _ => rfl) (fun j hj => by omega)
      have g1 : ∀ m, m ≠ 114 → m ≠ 100 → a0 m = a m := fun m m1 m2 => by rw [f1 m m1, u2_n m2, u2_n m2]
      have eb : sT (bP D x k) n = spp D x n := by rw [← hkn]; exact bP_k
      have el : sT (bL D ll x k) n = sl D x n := by rw [← hkn]; exact bL_k
      rw [eb] at d1 d2
      rw [el] at d2
      refine ⟨rfl, rfl, rfl, rfl, rfl, ⟨fun m m1 m2 m3 m4 => g1 m m4 m1, fun j => by rw [g1 112 (by decide) (by decide)], fun j j1 j2 => by rw [f1 100 (by decide), u2_k j2, u2_k j1], fun j hj => by rw [g1 113 (by decide) (by decide)]⟩, 1 + sm D x n, go_leaf hD hi hb d1 d2, Or.inr ⟨x, by rw [hkn] at hc; exact hc, fun f hf => by rw [← hkn]; exact hu f hf, rfl, by rw [f1 100 (by decide), u2_k (by decide), u2_s, hkn], by rw [f1 100 (by decide), u2_s, hkn], fun j hj => ?_, by rw [hkn]; exact Nat.le_refl _⟩, fun y _ _ hy => ?_⟩
      · rw [f2 j hj, u2_n (show (113 : Nat) ≠ 100 by decide), u2_n (show (113 : Nat) ≠ 100 by decide)]
        exact hw j (by omega)
      · rw [sm_cong (z := x) (fun j hj => hy j (by omega))]
        exact Nat.le_refl _
    refine g_iload_2 (q := 1) C dX4_goOn_0 rfl ?_
    refine g_istore_4 (q := 3) C dX4_goOn_1 rfl (by rw [hN]; decide) rfl ?_
    refine g_iload_3 (q := 4) C dX4_goOn_3 rfl ?_
    refine g_istore_5 (q := 6) C dX4_goOn_4 rfl (by rw [hN]; decide) rfl ?_
    refine g_iload_1 (q := 7) C dX4_goOn_6 rfl ?_
    refine g_istore_6 (q := 9) C dX4_goOn_7 rfl (by rw [hN]; decide) rfl ?_
    refine go_sum C hN I S hD ?_ (n - k) k _ _ (by omega) (Nat.le_refl _) (by rw [bP_k]) (by rw [bL_k])
    refine g_iload_4 (q := 68) C dX4_goOn_66 rfl ?_
    refine g_aload_0 (q := 69) C dX4_goOn_68 rfl ?_
    refine g_geti (q := 72) C f_X4_124 dX4_goOn_69 rfl rfl (IM.d I _ (by decide) (by decide)) ?_
    refine g_icmp_lt (tgt := 93) (q := 75) C dX4_goOn_72 rfl (by decide) (fun c_72 => ?_) (fun c_72 => ?_)
    · exact g_vret C RT9 dX4_goOn_93 ⟨rfl, rfl, rfl, rfl, rfl, GF.rf, sc, Nat.le_refl _, hb.fr rfl rfl (fun _ => rfl) (Nat.le_add_right _ _), fun y _ _ hy => go_cut hD hi hl1 hl2 (by omega) hb (by first | exact Or.inl c_72 | exact Or.inr ⟨c_81, c_90⟩) y hy⟩
    · refine g_iload_4 (q := 77) C dX4_goOn_75 rfl ?_
      refine g_aload_0 (q := 78) C dX4_goOn_77 rfl ?_
      refine g_geti (q := 81) C f_X4_124 dX4_goOn_78 rfl rfl (IM.d I _ (by decide) (by decide)) ?_
      refine g_icmp_ne (tgt := 94) (q := 84) C dX4_goOn_81 rfl (by decide) (fun c_81 => ?_) (fun c_81 => ?_)
      · exact h94 c_72 (by first | exact Or.inl c_81 | exact Or.inr c_90)
      · refine g_iload_5 (q := 86) C dX4_goOn_84 rfl ?_
        refine g_aload_0 (q := 87) C dX4_goOn_86 rfl ?_
        refine g_geti (q := 90) C f_X4_127 dX4_goOn_87 rfl rfl (IM.d I _ (by decide) (by decide)) ?_
        refine g_icmp_lt (tgt := 94) (q := 93) C dX4_goOn_90 rfl (by decide) (fun c_90 => ?_) (fun c_90 => ?_)
        · exact h94 c_72 (by first | exact Or.inl c_81 | exact Or.inr c_90)
        · exact g_vret C RT9 dX4_goOn_93 ⟨rfl, rfl, rfl, rfl, rfl, GF.rf, sc, Nat.le_refl _, hb.fr rfl rfl (fun _ => rfl) (Nat.le_add_right _ _), fun y _ _ hy => go_cut hD hi hl1 hl2 (by omega) hb (by first | exact Or.inl c_72 | exact Or.inr ⟨c_81, c_90⟩) y hy⟩
  | succ t ih =>
    intro k a x sc hk I S L hu hc hw hb
    have hkn : k < n := by omega
    refine mt_of (by decide) [some (.ref (ad 100)), some (.int (nI k)), some (.int (nI (spp D x k))), some (.int (nI (sl D x k))), none, none, none, none, none, none] rfl (Nat.le_of_ble_eq_true rfl) ?_
    intro E hg hbs hl hN C RT9 hcells hslots hname
    subst hg hbs hl
    have hnF := I.2.2.1
    have hnP := I.2.2.2.2
    obtain ⟨s1, s2, s3, s4, s5⟩ := S.2.1 k hkn
    obtain ⟨d1, d2, d3, d4, d5⟩ := hD.2 k hkn
    have e15 : dW D k 15 = 0 := by rw [dW, if_neg (by omega)]
    have lw : ∀ (s w : Nat) (a0 : Nat → Nat → Int32) (sc0 : Nat) (e8 e9 : Option Value), w + s = D.2.1 k → GF k a a0 → mB D nF cap n a0 sc0 (sd D x k + (16 - w) * 16 ^ (5 - k)) → sc ≤ sc0 → (∀ y, cn D n y → fe D nF cap n y → (∀ j, j < k → y j = x j) → y k < w → 1 + sm D y n ≤ sc0) → G E 0 0 ad dm a0 b r 161 [some (.ref (ad 100)), some (.int (nI k)), some (.int (nI (spp D x k))), some (.int (nI (sl D x k))), some (.int (nI (sT (bP D x k) n))), some (.int (nI (sT (bL D ll x k) n))), some (.int (nI (D.1 k))), some (.int (nI w)), e8, e9] [] := by
      intro s
      induction s with
      | zero =>
      intro w a0 sc0 e8 e9 hw9 hgf hb0 hsc hcov
      have I := hgf.IM I
      have s4b := ((hgf.MS S).2.1 k hkn).2.2.2.1
      refine g_iload_7 (q := 163) C dX4_goOn_161 rfl ?_
      refine g_aload_0 (q := 164) C dX4_goOn_163 rfl ?_
      refine g_getc (q := 167) (m := 109) C f_X4_34 dX4_goOn_164 rfl rfl (IM.d I _ (by decide) (by decide)) ?_
      refine g_iload_1 (q := 168) C dX4_goOn_167 rfl ?_
      refine g_ia (q := 169) C dX4_goOn_168 rfl rfl (IM.d I _ (by decide) (by decide)) rfl (by omega) (by decide) ?_
      refine g_icmp_ge (tgt := 340) (q := 172) C dX4_goOn_169 rfl (by decide) (fun c_169 => ?_) (fun c_169 => absurd (by rw [s4b]; exact nI_le (by omega) (by omega)) c_169)
      refine g_aload_0 (q := 341) C dX4_goOn_340 rfl ?_
      refine g_getc (q := 344) (m := 113) C f_X4_46 dX4_goOn_341 rfl rfl (IM.d I _ (by decide) (by decide)) ?_
      refine g_iload_1 (q := 345) C dX4_goOn_344 rfl ?_
      refine g_iconst (v := (-1)) (q := 346) C dX4_goOn_345 rfl (by decide) ?_
      refine g_iast (q := 347) C dX4_goOn_346 rfl rfl (IM.d I _ (by decide) (by decide)) rfl (by omega) (by decide) ?_
      have I1 := I.u (n := 113) (k := k) (x := -1) (by decide)
      have I := I1
      refine g_aload_0 (q := 348) C dX4_goOn_347 rfl ?_
      refine g_iload_1 (q := 349) C dX4_goOn_348 rfl ?_
      refine g_iconst (v := 1) (q := 350) C dX4_goOn_349 rfl (by decide) ?_
      refine g_iadd (q := 351) C dX4_goOn_350 rfl ?_
      rw [nI_1]
      refine g_iload_2 (q := 352) C dX4_goOn_351 rfl ?_
      refine g_iload_3 (q := 353) C dX4_goOn_352 rfl ?_
      refine g_cv3g (q := 356) C cv_X4_133 dX4_goOn_353 rfl rfl (IM.d I _ (by decide) (by decide)) (by
  have h9 := ih (k + 1) (u2 a0 113 k (-1)) (u1 x k 15) sc0 (by omega) I1 ((hgf.MS S).u (fun m m1 m2 m3 => u2_n m2)) (ml_u (hgf.ML L) (fun f hf => by rw [u2_n (show (112 : Nat) ≠ 113 by decide), uW_15 hD hkn, show nI 0 = (0 : Int32) from rfl, Int32.add_zero]) (u2_n (by decide))) (fun f hf => by rw [us_u, uW_15 hD hkn]; exact hu f hf) (cn_u hc (Or.inr rfl)) (en_u (fun j hj => by rw [u2_k (by omega), hgf.2.2.2 j hj]; exact hw j hj) (by rw [u2_s, enW, if_neg (by omega)])) (hb0.fr (by rw [u2_n (by decide)]) (by rw [u2_n (by decide)]) (fun j => by rw [u2_n (by decide)]) (by
    rw [sd_u, e15, show 6 - (k + 1) = 5 - k by omega]
    have : 1 * 16 ^ (5 - k) ≤ (16 - w) * 16 ^ (5 - k) := Nat.mul_le_mul_right _ (by omega)
    omega))
  rw [spp_u, sl_u, show pW D k 15 = 0 by rw [pW, if_neg (by omega)], show lW D k 15 = 0 by rw [lW, if_neg (by omega)]] at h9
  exact h9) (by omega) (Nat.le_of_ble_eq_true rfl) ⟨Nat.zero_le _, Nat.zero_le _⟩ (fun v ad' dm' a' b' r' hp => ?_)
      obtain ⟨rfl, rfl, rfl, rfl, rfl, hg2, sc2, h1, h2, h3⟩ := hp
      change G E 0 0 _ _ a' _ _ 356 _ []
      exact g_vret C RT9 dX4_goOn_356 ⟨rfl, rfl, rfl, rfl, rfl, gf_0 hgf hg2, sc2, by omega, h2.fr rfl rfl (fun _ => rfl) (by rw [sd_u, e15]; omega), fun y y1 y2 y3 => by
  rcases y1 k hkn with hy | hy
  · have := hcov y y1 y2 y3 (by omega)
    omega
  · exact h3 y y1 y2 (fun j hj => by
      by_cases e : j = k
      · subst e; rw [u1_s]; exact hy
      · rw [u1_n e]; exact y3 j (by omega))⟩
      | succ s ihw =>
      intro w a0 sc0 e8 e9 hws hgf hb0 hsc hcov
      have I := hgf.IM I
      have L0 := hgf.ML L
      have s4b := ((hgf.MS S).2.1 k hkn).2.2.2.1
      have hw9 : w < D.2.1 k := by omega
      obtain ⟨t1, t2⟩ := (hgf.MS S).2.2 k hkn w hw9
      obtain ⟨c1, c2, c3⟩ := hco k hkn w hw9
      have u1a := hu _ c1
      have l1a := (L _ c1).2.2
      have epp : spp D (u1 x k w) (k + 1) = spp D x k + D.1 k := by rw [spp_u, pW, if_pos hw9]
      have esl : sl D (u1 x k w) (k + 1) = sl D x k + D.2.2.2.1 k w * D.1 k := by rw [sl_u, lW, if_pos hw9]
      by_cases hb9 : D.2.2.1 k w % 9 = 0
      · skip
        refine g_iload_7 (q := 163) C dX4_goOn_161 rfl ?_
        refine g_aload_0 (q := 164) C dX4_goOn_163 rfl ?_
        refine g_getc (q := 167) (m := 109) C f_X4_34 dX4_goOn_164 rfl rfl (IM.d I _ (by decide) (by decide)) ?_
        refine g_iload_1 (q := 168) C dX4_goOn_167 rfl ?_
        refine g_ia (q := 169) C dX4_goOn_168 rfl rfl (IM.d I _ (by decide) (by decide)) rfl (by omega) (by decide) ?_
        refine g_icmp_ge (tgt := 340) (q := 172) C dX4_goOn_169 rfl (by decide) (fun c_169 => absurd c_169 (by rw [s4b]; exact nI_ge (by omega) (by omega))) (fun c_169 => ?_)
        refine g_aload_0 (q := 173) C dX4_goOn_172 rfl ?_
        refine g_getc (q := 176) (m := 107) C f_X4_28 dX4_goOn_173 rfl rfl (IM.d I _ (by decide) (by decide)) ?_
        refine g_bipush (v := 72) (q := 178) C dX4_goOn_176 rfl (by decide) ?_
        refine g_iload_1 (q := 179) C dX4_goOn_178 rfl ?_
        refine g_imul (q := 180) C dX4_goOn_179 rfl ?_
        refine g_iload_7 (q := 182) C dX4_goOn_180 rfl ?_
        refine g_iadd (q := 183) C dX4_goOn_182 rfl ?_
        refine g_ia (q := 184) C dX4_goOn_183 rfl rfl (IM.d I _ (by decide) (by decide)) (ix72 k w) (by omega) (by decide) ?_
        rw [t1]
        refine g_bipush (v := 9) (q := 186) C dX4_goOn_184 rfl (by decide) ?_
        refine g_idiv (q := 187) C dX4_goOn_186 rfl (by decide) ?_
        rw [show (9 : Int32) = nI 9 from rfl, pk_div (by omega) (by decide) (by decide)]
        refine g_istore_8 (q := 189) C dX4_goOn_187 rfl (by rw [hN]; decide) rfl ?_
        refine g_aload_0 (q := 190) C dX4_goOn_189 rfl ?_
        refine g_getc (q := 193) (m := 107) C f_X4_28 dX4_goOn_190 rfl rfl (IM.d I _ (by decide) (by decide)) ?_
        refine g_bipush (v := 72) (q := 195) C dX4_goOn_193 rfl (by decide) ?_
        refine g_iload_1 (q := 196) C dX4_goOn_195 rfl ?_
        refine g_imul (q := 197) C dX4_goOn_196 rfl ?_
        refine g_iload_7 (q := 199) C dX4_goOn_197 rfl ?_
        refine g_iadd (q := 200) C dX4_goOn_199 rfl ?_
        refine g_ia (q := 201) C dX4_goOn_200 rfl rfl (IM.d I _ (by decide) (by decide)) (ix72 k w) (by omega) (by decide) ?_
        rw [t1]
        refine g_bipush (v := 9) (q := 203) C dX4_goOn_201 rfl (by decide) ?_
        refine g_irem (q := 204) C dX4_goOn_203 rfl (by decide) ?_
        rw [show (9 : Int32) = nI 9 from rfl, pk_rem (by omega) (by decide) (by decide)]
        refine g_iconst (v := 1) (q := 205) C dX4_goOn_204 rfl (by decide) ?_
        refine g_isub (q := 206) C dX4_goOn_205 rfl ?_
        rw [hb9, show nI 0 - 1 = (-1 : Int32) by decide]
        refine g_istore_9 (q := 208) C dX4_goOn_206 rfl (by rw [hN]; decide) rfl ?_
        refine g_aload_0 (q := 209) C dX4_goOn_208 rfl ?_
        refine g_iload_8 (q := 211) C dX4_goOn_209 rfl ?_
        refine g_iload_6 (q := 213) C dX4_goOn_211 rfl ?_
        refine g_cv2i (q := 216) C cv_X4_130 dX4_goOn_213 rfl rfl (IM.d I _ (by decide) (by decide)) (m_X4_hasRoom_y I (f := D.2.2.1 k w / 9) (s := D.1 k) c1 (L0 _ c1).1 (L0 _ c1).2.1 (by omega) (by omega) (by omega)) (by omega) (Nat.le_of_ble_eq_true rfl) ⟨Nat.zero_le _, Nat.zero_le _⟩ ?_
        refine g_ifeqb (tgt := 334) (q := 219) C dX4_goOn_216 rfl (by decide) (fun c_216 => ?_) (fun c_216 => ?_)
        · refine g_iinc_7 (v := nI (w + 1)) (q := 337) C dX4_goOn_334 rfl (by rw [hN]; decide) (nI_1 w) ?_
          refine g_goto (tgt := 161) C dX4_goOn_337 (by decide) ?_
          first
            | (refine ihw (w + 1) a0 sc0 _ _ (by omega) hgf (hb0.fr rfl rfl (fun _ => rfl) (by
               have : (16 - (w + 1)) * 16 ^ (5 - k) ≤ (16 - w) * 16 ^ (5 - k) := Nat.mul_le_mul_right _ (by omega)
               omega)) hsc (fun y y1 y2 y3 hy => ?_)
               by_cases e : y k = w
               · exact (no_room (ld := ld) hD hkn c1 hw9 (Or.inl rfl) (of_decide_eq_false c_216) y2 y3 e).elim
               · exact hcov y y1 y2 y3 (by omega))
            | (exact ihw (w + 1) _ sc2 _ _ (by omega) (gf_1 hgf hg2) (h2.fr (by rw [u2_n (by decide)]) (by rw [u2_n (by decide)]) (fun j => by rw [u2_n (by decide)]) (by
               rw [sd_u, dW_c (Or.inl hw9), hi k hkn, show 15 - w = 16 - (w + 1) by omega]
               omega)) (by omega) (fun y y1 y2 y3 hy => by
               by_cases e : y k = w
               · exact h3 y y1 y2 (fun j hj => by
                   by_cases e2 : j = k
                   · subst e2; rw [u1_s]; exact e
                   · rw [u1_n e2]; exact y3 j (by omega))
               · have := hcov y y1 y2 y3 (by omega)
                 omega))
        · refine g_aload_0 (q := 220) C dX4_goOn_219 rfl ?_
          refine g_iload_9 (q := 222) C dX4_goOn_220 rfl ?_
          refine g_iload_6 (q := 224) C dX4_goOn_222 rfl ?_
          refine g_cv2i (q := 227) C cv_X4_130 dX4_goOn_224 rfl rfl (IM.d I _ (by decide) (by decide)) (m_X4_hasRoom_n _) (by omega) (Nat.le_of_ble_eq_true rfl) ⟨Nat.zero_le _, Nat.zero_le _⟩ ?_
          refine g_if_ne (tgt := 233) (q := 230) C dX4_goOn_227 rfl (by decide) (fun _ => ?_) (fun c_227 => absurd c_227 (by decide))
          have hroom : ∀ f, f < nF → us D f x k + uW D f k w ≤ cap f := fun f hf => by
            have h1 := of_decide_eq_true c_216
            have h2 := hu f hf
            by_cases e : f = D.2.2.1 k w / 9
            · subst e; rw [uW, if_pos ⟨hw9, Or.inl rfl⟩]; omega
            · rw [uW, if_neg (by omega)]; omega
          refine g_aload_0 (q := 234) C dX4_goOn_233 rfl ?_
          refine g_getc (q := 237) (m := 112) C f_X4_43 dX4_goOn_234 rfl rfl (IM.d I _ (by decide) (by decide)) ?_
          refine g_iload_8 (q := 239) C dX4_goOn_237 rfl ?_
          refine g_dup2 (q := 240) C dX4_goOn_239 rfl rfl rfl ?_
          refine g_ia (q := 241) C dX4_goOn_240 rfl rfl (IM.d I _ (by decide) (by decide)) rfl (by omega) (by decide) ?_
          refine g_iload_6 (q := 243) C dX4_goOn_241 rfl ?_
          refine g_iadd (q := 244) C dX4_goOn_243 rfl ?_
          refine g_iast (q := 245) C dX4_goOn_244 rfl rfl (IM.d I _ (by decide) (by decide)) rfl (by omega) (by decide) ?_
          have I := I.u (n := 112) (k := D.2.2.1 k w / 9) (x := a0 112 (D.2.2.1 k w / 9) + nI (D.1 k)) (by decide)
          refine g_iload_9 (q := 247) C dX4_goOn_245 rfl ?_
          refine g_if_lt (tgt := 262) (q := 250) C dX4_goOn_247 rfl (by decide) (fun c_247 => ?_) (fun c_247 => absurd (by decide) c_247)
          skip
          refine g_aload_0 (q := 263) C dX4_goOn_262 rfl ?_
          refine g_getc (q := 266) (m := 113) C f_X4_46 dX4_goOn_263 rfl rfl (IM.d I _ (by decide) (by decide)) ?_
          refine g_iload_1 (q := 267) C dX4_goOn_266 rfl ?_
          refine g_aload_0 (q := 268) C dX4_goOn_267 rfl ?_
          refine g_getc (q := 271) (m := 107) C f_X4_28 dX4_goOn_268 rfl rfl (IM.d I _ (by decide) (by decide)) ?_
          refine g_bipush (v := 72) (q := 273) C dX4_goOn_271 rfl (by decide) ?_
          refine g_iload_1 (q := 274) C dX4_goOn_273 rfl ?_
          refine g_imul (q := 275) C dX4_goOn_274 rfl ?_
          refine g_iload_7 (q := 277) C dX4_goOn_275 rfl ?_
          refine g_iadd (q := 278) C dX4_goOn_277 rfl ?_
          refine g_ia (q := 279) C dX4_goOn_278 rfl rfl (IM.d I _ (by decide) (by decide)) (ix72 k w) (by omega) (by decide) ?_
          rw [u2_n (show (107 : Nat) ≠ 112 by decide), t1]
          refine g_iast (q := 280) C dX4_goOn_279 rfl rfl (IM.d I _ (by decide) (by decide)) rfl (by omega) (by decide) ?_
          have I := I.u (n := 113) (k := k) (x := nI (D.2.2.1 k w)) (by decide)
          refine g_aload_0 (q := 281) C dX4_goOn_280 rfl ?_
          refine g_iload_1 (q := 282) C dX4_goOn_281 rfl ?_
          refine g_iconst (v := 1) (q := 283) C dX4_goOn_282 rfl (by decide) ?_
          refine g_iadd (q := 284) C dX4_goOn_283 rfl ?_
          rw [nI_1]
          refine g_iload_2 (q := 285) C dX4_goOn_284 rfl ?_
          refine g_iload_6 (q := 287) C dX4_goOn_285 rfl ?_
          refine g_iadd (q := 288) C dX4_goOn_287 rfl ?_
          rw [nI_add, ← epp]
          refine g_iload_3 (q := 289) C dX4_goOn_288 rfl ?_
          refine g_aload_0 (q := 290) C dX4_goOn_289 rfl ?_
          refine g_getc (q := 293) (m := 108) C f_X4_31 dX4_goOn_290 rfl rfl (IM.d I _ (by decide) (by decide)) ?_
          refine g_bipush (v := 72) (q := 295) C dX4_goOn_293 rfl (by decide) ?_
          refine g_iload_1 (q := 296) C dX4_goOn_295 rfl ?_
          refine g_imul (q := 297) C dX4_goOn_296 rfl ?_
          refine g_iload_7 (q := 299) C dX4_goOn_297 rfl ?_
          refine g_iadd (q := 300) C dX4_goOn_299 rfl ?_
          refine g_ia (q := 301) C dX4_goOn_300 rfl rfl (IM.d I _ (by decide) (by decide)) (ix72 k w) (by omega) (by decide) ?_
          refine g_iadd (q := 302) C dX4_goOn_301 rfl ?_
          rw [u2_n (show (108 : Nat) ≠ 113 by decide), u2_n (show (108 : Nat) ≠ 112 by decide), t2, nI_add, ← esl]
          refine g_cv3g (q := 305) C cv_X4_133 dX4_goOn_302 rfl rfl (IM.d I _ (by decide) (by decide)) (ih (k + 1) (u2 (u2 a0 112 (D.2.2.1 k w / 9) (a0 112 (D.2.2.1 k w / 9) + nI (D.1 k))) 113 k (nI (D.2.2.1 k w))) (u1 x k w) sc0 (by omega) I ((hgf.MS S).u (fun m m1 m2 m3 => by rw [u2_n m2, u2_n m1])) (ml_u (hgf.ML L) (fun f hf => by
      rw [u2_n (show (112 : Nat) ≠ 113 by decide)]
      by_cases e : f = D.2.2.1 k w / 9
      · subst e; rw [u2_s, uW, if_pos ⟨hw9, Or.inl rfl⟩]
      · rw [u2_k e, uW, if_neg (by omega), show nI 0 = (0 : Int32) from rfl, Int32.add_zero]) (by rw [u2_n (by decide), u2_n (by decide)])) (fun f hf => by rw [us_u]; exact hroom f hf) (cn_u hc (Or.inl hw9)) (en_u (fun j hj => by rw [u2_k (by omega), u2_n (by decide), hgf.2.2.2 j hj]; exact hw j hj) (by rw [u2_s, enW, if_pos hw9])) (hb0.fr (by rw [u2_n (by decide), u2_n (by decide)]) (by rw [u2_n (by decide), u2_n (by decide)]) (fun j => by rw [u2_n (by decide), u2_n (by decide)]) (by
    rw [sd_u, dW_c (Or.inl hw9), hi k hkn, show 6 - (k + 1) = 5 - k by omega, Nat.add_assoc, ← Nat.succ_mul]
    have : (15 - w).succ * 16 ^ (5 - k) ≤ (16 - w) * 16 ^ (5 - k) := Nat.mul_le_mul_right _ (by omega)
    omega))) (by omega) (Nat.le_of_ble_eq_true rfl) ⟨Nat.zero_le _, Nat.zero_le _⟩ (fun v ad' dm' a' b' r' hp => ?_)
          obtain ⟨rfl, rfl, rfl, rfl, rfl, hg2, sc2, h1, h2, h3⟩ := hp
          change G E 0 0 _ _ a' _ _ 305 _ []
          have I := hg2.IM I
          refine g_aload_0 (q := 306) C dX4_goOn_305 rfl ?_
          refine g_getc (q := 309) (m := 112) C f_X4_43 dX4_goOn_306 rfl rfl (IM.d I _ (by decide) (by decide)) ?_
          refine g_iload_8 (q := 311) C dX4_goOn_309 rfl ?_
          refine g_dup2 (q := 312) C dX4_goOn_311 rfl rfl rfl ?_
          refine g_ia (q := 313) C dX4_goOn_312 rfl rfl (IM.d I _ (by decide) (by decide)) rfl (by omega) (by decide) ?_
          refine g_iload_6 (q := 315) C dX4_goOn_313 rfl ?_
          refine g_isub (q := 316) C dX4_goOn_315 rfl ?_
          refine g_iast (q := 317) C dX4_goOn_316 rfl rfl (IM.d I _ (by decide) (by decide)) rfl (by omega) (by decide) ?_
          have I := I.u (n := 112) (k := D.2.2.1 k w / 9) (x := a' 112 (D.2.2.1 k w / 9) - nI (D.1 k)) (by decide)
          refine g_iload_9 (q := 319) C dX4_goOn_317 rfl ?_
          refine g_if_lt (tgt := 334) (q := 322) C dX4_goOn_319 rfl (by decide) (fun c_319 => ?_) (fun c_319 => absurd (by decide) c_319)
          refine g_iinc_7 (v := nI (w + 1)) (q := 337) C dX4_goOn_334 rfl (by rw [hN]; decide) (nI_1 w) ?_
          refine g_goto (tgt := 161) C dX4_goOn_337 (by decide) ?_
          first
            | (refine ihw (w + 1) a0 sc0 _ _ (by omega) hgf (hb0.fr rfl rfl (fun _ => rfl) (by
               have : (16 - (w + 1)) * 16 ^ (5 - k) ≤ (16 - w) * 16 ^ (5 - k) := Nat.mul_le_mul_right _ (by omega)
               omega)) hsc (fun y y1 y2 y3 hy => ?_)
               by_cases e : y k = w
               · exact (no_room (ld := ld) hD hkn c1 hw9 (Or.inl rfl) (of_decide_eq_false c_216) y2 y3 e).elim
               · exact hcov y y1 y2 y3 (by omega))
            | (exact ihw (w + 1) _ sc2 _ _ (by omega) (gf_1 hgf hg2) (h2.fr (by rw [u2_n (by decide)]) (by rw [u2_n (by decide)]) (fun j => by rw [u2_n (by decide)]) (by
               rw [sd_u, dW_c (Or.inl hw9), hi k hkn, show 15 - w = 16 - (w + 1) by omega]
               omega)) (by omega) (fun y y1 y2 y3 hy => by
               by_cases e : y k = w
               · exact h3 y y1 y2 (fun j hj => by
                   by_cases e2 : j = k
                   · subst e2; rw [u1_s]; exact e
                   · rw [u1_n e2]; exact y3 j (by omega))
               · have := hcov y y1 y2 y3 (by omega)
                 omega))
      · obtain ⟨fb, hfb⟩ : ∃ fb, D.2.2.1 k w % 9 = fb + 1 := ⟨D.2.2.1 k w % 9 - 1, by omega⟩
        have hfb2 : fb < nF := by omega
        have hab : D.2.2.1 k w / 9 ≠ fb := by omega
        have u1b := hu _ hfb2
        have l1b := (L _ hfb2).2.2
        refine g_iload_7 (q := 163) C dX4_goOn_161 rfl ?_
        refine g_aload_0 (q := 164) C dX4_goOn_163 rfl ?_
        refine g_getc (q := 167) (m := 109) C f_X4_34 dX4_goOn_164 rfl rfl (IM.d I _ (by decide) (by decide)) ?_
        refine g_iload_1 (q := 168) C dX4_goOn_167 rfl ?_
        refine g_ia (q := 169) C dX4_goOn_168 rfl rfl (IM.d I _ (by decide) (by decide)) rfl (by omega) (by decide) ?_
        refine g_icmp_ge (tgt := 340) (q := 172) C dX4_goOn_169 rfl (by decide) (fun c_169 => absurd c_169 (by rw [s4b]; exact nI_ge (by omega) (by omega))) (fun c_169 => ?_)
        refine g_aload_0 (q := 173) C dX4_goOn_172 rfl ?_
        refine g_getc (q := 176) (m := 107) C f_X4_28 dX4_goOn_173 rfl rfl (IM.d I _ (by decide) (by decide)) ?_
        refine g_bipush (v := 72) (q := 178) C dX4_goOn_176 rfl (by decide) ?_
        refine g_iload_1 (q := 179) C dX4_goOn_178 rfl ?_
        refine g_imul (q := 180) C dX4_goOn_179 rfl ?_
        refine g_iload_7 (q := 182) C dX4_goOn_180 rfl ?_
        refine g_iadd (q := 183) C dX4_goOn_182 rfl ?_
        refine g_ia (q := 184) C dX4_goOn_183 rfl rfl (IM.d I _ (by decide) (by decide)) (ix72 k w) (by omega) (by decide) ?_
        rw [t1]
        refine g_bipush (v := 9) (q := 186) C dX4_goOn_184 rfl (by decide) ?_
        refine g_idiv (q := 187) C dX4_goOn_186 rfl (by decide) ?_
        rw [show (9 : Int32) = nI 9 from rfl, pk_div (by omega) (by decide) (by decide)]
        refine g_istore_8 (q := 189) C dX4_goOn_187 rfl (by rw [hN]; decide) rfl ?_
        refine g_aload_0 (q := 190) C dX4_goOn_189 rfl ?_
        refine g_getc (q := 193) (m := 107) C f_X4_28 dX4_goOn_190 rfl rfl (IM.d I _ (by decide) (by decide)) ?_
        refine g_bipush (v := 72) (q := 195) C dX4_goOn_193 rfl (by decide) ?_
        refine g_iload_1 (q := 196) C dX4_goOn_195 rfl ?_
        refine g_imul (q := 197) C dX4_goOn_196 rfl ?_
        refine g_iload_7 (q := 199) C dX4_goOn_197 rfl ?_
        refine g_iadd (q := 200) C dX4_goOn_199 rfl ?_
        refine g_ia (q := 201) C dX4_goOn_200 rfl rfl (IM.d I _ (by decide) (by decide)) (ix72 k w) (by omega) (by decide) ?_
        rw [t1]
        refine g_bipush (v := 9) (q := 203) C dX4_goOn_201 rfl (by decide) ?_
        refine g_irem (q := 204) C dX4_goOn_203 rfl (by decide) ?_
        rw [show (9 : Int32) = nI 9 from rfl, pk_rem (by omega) (by decide) (by decide)]
        refine g_iconst (v := 1) (q := 205) C dX4_goOn_204 rfl (by decide) ?_
        refine g_isub (q := 206) C dX4_goOn_205 rfl ?_
        rw [hfb, nI_pred]
        refine g_istore_9 (q := 208) C dX4_goOn_206 rfl (by rw [hN]; decide) rfl ?_
        refine g_aload_0 (q := 209) C dX4_goOn_208 rfl ?_
        refine g_iload_8 (q := 211) C dX4_goOn_209 rfl ?_
        refine g_iload_6 (q := 213) C dX4_goOn_211 rfl ?_
        refine g_cv2i (q := 216) C cv_X4_130 dX4_goOn_213 rfl rfl (IM.d I _ (by decide) (by decide)) (m_X4_hasRoom_y I (f := D.2.2.1 k w / 9) (s := D.1 k) c1 (L0 _ c1).1 (L0 _ c1).2.1 (by omega) (by omega) (by omega)) (by omega) (Nat.le_of_ble_eq_true rfl) ⟨Nat.zero_le _, Nat.zero_le _⟩ ?_
        refine g_ifeqb (tgt := 334) (q := 219) C dX4_goOn_216 rfl (by decide) (fun c_216 => ?_) (fun c_216 => ?_)
        · refine g_iinc_7 (v := nI (w + 1)) (q := 337) C dX4_goOn_334 rfl (by rw [hN]; decide) (nI_1 w) ?_
          refine g_goto (tgt := 161) C dX4_goOn_337 (by decide) ?_
          first
            | (refine ihw (w + 1) a0 sc0 _ _ (by omega) hgf (hb0.fr rfl rfl (fun _ => rfl) (by
               have : (16 - (w + 1)) * 16 ^ (5 - k) ≤ (16 - w) * 16 ^ (5 - k) := Nat.mul_le_mul_right _ (by omega)
               omega)) hsc (fun y y1 y2 y3 hy => ?_)
               by_cases e : y k = w
               · exact (no_room (ld := ld) hD hkn c1 hw9 (Or.inl rfl) (of_decide_eq_false c_216) y2 y3 e).elim
               · exact hcov y y1 y2 y3 (by omega))
            | (refine ihw (w + 1) a0 sc0 _ _ (by omega) hgf (hb0.fr rfl rfl (fun _ => rfl) (by
               have : (16 - (w + 1)) * 16 ^ (5 - k) ≤ (16 - w) * 16 ^ (5 - k) := Nat.mul_le_mul_right _ (by omega)
               omega)) hsc (fun y y1 y2 y3 hy => ?_)
               by_cases e : y k = w
               · exact (no_room (ld := ld) hD hkn hfb2 hw9 (Or.inr hfb) (of_decide_eq_false c_227) y2 y3 e).elim
               · exact hcov y y1 y2 y3 (by omega))
            | (exact ihw (w + 1) _ sc2 _ _ (by omega) (gf_2 hab hgf hg2) (h2.fr (by rw [u2_n (by decide), u2_n (by decide)]) (by rw [u2_n (by decide), u2_n (by decide)]) (fun j => by rw [u2_n (by decide), u2_n (by decide)]) (by
               rw [sd_u, dW_c (Or.inl hw9), hi k hkn, show 15 - w = 16 - (w + 1) by omega]
               omega)) (by omega) (fun y y1 y2 y3 hy => by
               by_cases e : y k = w
               · exact h3 y y1 y2 (fun j hj => by
                   by_cases e2 : j = k
                   · subst e2; rw [u1_s]; exact e
                   · rw [u1_n e2]; exact y3 j (by omega))
               · have := hcov y y1 y2 y3 (by omega)
                 omega))
        · refine g_aload_0 (q := 220) C dX4_goOn_219 rfl ?_
          refine g_iload_9 (q := 222) C dX4_goOn_220 rfl ?_
          refine g_iload_6 (q := 224) C dX4_goOn_222 rfl ?_
          refine g_cv2i (q := 227) C cv_X4_130 dX4_goOn_224 rfl rfl (IM.d I _ (by decide) (by decide)) (m_X4_hasRoom_y I (f := fb) (s := D.1 k) hfb2 (L0 _ hfb2).1 (L0 _ hfb2).2.1 (by omega) (by omega) (by omega)) (by omega) (Nat.le_of_ble_eq_true rfl) ⟨Nat.zero_le _, Nat.zero_le _⟩ ?_
          refine g_ifneb (tgt := 233) (q := 230) C dX4_goOn_227 rfl (by decide) (fun c_227 => ?_) (fun c_227 => ?_)
          · have hroom : ∀ f, f < nF → us D f x k + uW D f k w ≤ cap f := fun f hf => by
              have h1 := of_decide_eq_true c_216
              have h2 := hu f hf
              have h3 := of_decide_eq_true c_227
              by_cases e : f = D.2.2.1 k w / 9
              · subst e; rw [uW, if_pos ⟨hw9, Or.inl rfl⟩]; omega
              · by_cases e2 : f = fb
                · subst e2; rw [uW, if_pos ⟨hw9, Or.inr hfb⟩]; omega
                · rw [uW, if_neg (by omega)]; omega
            refine g_aload_0 (q := 234) C dX4_goOn_233 rfl ?_
            refine g_getc (q := 237) (m := 112) C f_X4_43 dX4_goOn_234 rfl rfl (IM.d I _ (by decide) (by decide)) ?_
            refine g_iload_8 (q := 239) C dX4_goOn_237 rfl ?_
            refine g_dup2 (q := 240) C dX4_goOn_239 rfl rfl rfl ?_
            refine g_ia (q := 241) C dX4_goOn_240 rfl rfl (IM.d I _ (by decide) (by decide)) rfl (by omega) (by decide) ?_
            refine g_iload_6 (q := 243) C dX4_goOn_241 rfl ?_
            refine g_iadd (q := 244) C dX4_goOn_243 rfl ?_
            refine g_iast (q := 245) C dX4_goOn_244 rfl rfl (IM.d I _ (by decide) (by decide)) rfl (by omega) (by decide) ?_
            have I := I.u (n := 112) (k := D.2.2.1 k w / 9) (x := a0 112 (D.2.2.1 k w / 9) + nI (D.1 k)) (by decide)
            refine g_iload_9 (q := 247) C dX4_goOn_245 rfl ?_
            refine g_if_lt (tgt := 262) (q := 250) C dX4_goOn_247 rfl (by decide) (fun c_247 => absurd c_247 (nI_pos (by omega))) (fun c_247 => ?_)
            refine g_aload_0 (q := 251) C dX4_goOn_250 rfl ?_
            refine g_getc (q := 254) (m := 112) C f_X4_43 dX4_goOn_251 rfl rfl (IM.d I _ (by decide) (by decide)) ?_
            refine g_iload_9 (q := 256) C dX4_goOn_254 rfl ?_
            refine g_dup2 (q := 257) C dX4_goOn_256 rfl rfl rfl ?_
            refine g_ia (q := 258) C dX4_goOn_257 rfl rfl (IM.d I _ (by decide) (by decide)) rfl (by omega) (by decide) ?_
            refine g_iload_6 (q := 260) C dX4_goOn_258 rfl ?_
            refine g_iadd (q := 261) C dX4_goOn_260 rfl ?_
            refine g_iast (q := 262) C dX4_goOn_261 rfl rfl (IM.d I _ (by decide) (by decide)) rfl (by omega) (by decide) ?_
            have I := I.u (n := 112) (k := fb) (x := u2 a0 112 (D.2.2.1 k w / 9) (a0 112 (D.2.2.1 k w / 9) + nI (D.1 k)) 112 fb + nI (D.1 k)) (by decide)
            refine g_aload_0 (q := 263) C dX4_goOn_262 rfl ?_
            refine g_getc (q := 266) (m := 113) C f_X4_46 dX4_goOn_263 rfl rfl (IM.d I _ (by decide) (by decide)) ?_
            refine g_iload_1 (q := 267) C dX4_goOn_266 rfl ?_
            refine g_aload_0 (q := 268) C dX4_goOn_267 rfl ?_
            refine g_getc (q := 271) (m := 107) C f_X4_28 dX4_goOn_268 rfl rfl (IM.d I _ (by decide) (by decide)) ?_
            refine g_bipush (v := 72) (q := 273) C dX4_goOn_271 rfl (by decide) ?_
            refine g_iload_1 (q := 274) C dX4_goOn_273 rfl ?_
            refine g_imul (q := 275) C dX4_goOn_274 rfl ?_
            refine g_iload_7 (q := 277) C dX4_goOn_275 rfl ?_
            refine g_iadd (q := 278) C dX4_goOn_277 rfl ?_
            refine g_ia (q := 279) C dX4_goOn_278 rfl rfl (IM.d I _ (by decide) (by decide)) (ix72 k w) (by omega) (by decide) ?_
            rw [u2_n (show (107 : Nat) ≠ 112 by decide), u2_n (show (107 : Nat) ≠ 112 by decide), t1]
            refine g_iast (q := 280) C dX4_goOn_279 rfl rfl (IM.d I _ (by decide) (by decide)) rfl (by omega) (by decide) ?_
            have I := I.u (n := 113) (k := k) (x := nI (D.2.2.1 k w)) (by decide)
            refine g_aload_0 (q := 281) C dX4_goOn_280 rfl ?_
            refine g_iload_1 (q := 282) C dX4_goOn_281 rfl ?_
            refine g_iconst (v := 1) (q := 283) C dX4_goOn_282 rfl (by decide) ?_
            refine g_iadd (q := 284) C dX4_goOn_283 rfl ?_
            rw [nI_1]
            refine g_iload_2 (q := 285) C dX4_goOn_284 rfl ?_
            refine g_iload_6 (q := 287) C dX4_goOn_285 rfl ?_
            refine g_iadd (q := 288) C dX4_goOn_287 rfl ?_
            rw [nI_add, ← epp]
            refine g_iload_3 (q := 289) C dX4_goOn_288 rfl ?_
            refine g_aload_0 (q := 290) C dX4_goOn_289 rfl ?_
            refine g_getc (q := 293) (m := 108) C f_X4_31 dX4_goOn_290 rfl rfl (IM.d I _ (by decide) (by decide)) ?_
            refine g_bipush (v := 72) (q := 295) C dX4_goOn_293 rfl (by decide) ?_
            refine g_iload_1 (q := 296) C dX4_goOn_295 rfl ?_
            refine g_imul (q := 297) C dX4_goOn_296 rfl ?_
            refine g_iload_7 (q := 299) C dX4_goOn_297 rfl ?_
            refine g_iadd (q := 300) C dX4_goOn_299 rfl ?_
            refine g_ia (q := 301) C dX4_goOn_300 rfl rfl (IM.d I _ (by decide) (by decide)) (ix72 k w) (by omega) (by decide) ?_
            refine g_iadd (q := 302) C dX4_goOn_301 rfl ?_
            rw [u2_n (show (108 : Nat) ≠ 113 by decide), u2_n (show (108 : Nat) ≠ 112 by decide), u2_n (show (108 : Nat) ≠ 112 by decide), t2, nI_add, ← esl]
            refine g_cv3g (q := 305) C cv_X4_133 dX4_goOn_302 rfl rfl (IM.d I _ (by decide) (by decide)) (ih (k + 1) (u2 (u2 (u2 a0 112 (D.2.2.1 k w / 9) (a0 112 (D.2.2.1 k w / 9) + nI (D.1 k))) 112 fb (u2 a0 112 (D.2.2.1 k w / 9) (a0 112 (D.2.2.1 k w / 9) + nI (D.1 k)) 112 fb + nI (D.1 k))) 113 k (nI (D.2.2.1 k w))) (u1 x k w) sc0 (by omega) I ((hgf.MS S).u (fun m m1 m2 m3 => by rw [u2_n m2, u2_n m1, u2_n m1])) (ml_u (hgf.ML L) (fun f hf => by
      rw [u2_n (show (112 : Nat) ≠ 113 by decide)]
      by_cases e2 : f = fb
      · subst e2; rw [u2_s, u2_k (Ne.symm hab), uW, if_pos ⟨hw9, Or.inr hfb⟩]
      · rw [u2_k e2]
        by_cases e : f = D.2.2.1 k w / 9
        · subst e; rw [u2_s, uW, if_pos ⟨hw9, Or.inl rfl⟩]
        · rw [u2_k e, uW, if_neg (by omega), show nI 0 = (0 : Int32) from rfl, Int32.add_zero]) (by rw [u2_n (by decide), u2_n (by decide), u2_n (by decide)])) (fun f hf => by rw [us_u]; exact hroom f hf) (cn_u hc (Or.inl hw9)) (en_u (fun j hj => by rw [u2_k (by omega), u2_n (by decide), u2_n (by decide), hgf.2.2.2 j hj]; exact hw j hj) (by rw [u2_s, enW, if_pos hw9])) (hb0.fr (by rw [u2_n (by decide), u2_n (by decide), u2_n (by decide)]) (by rw [u2_n (by decide), u2_n (by decide), u2_n (by decide)]) (fun j => by rw [u2_n (by decide), u2_n (by decide), u2_n (by decide)]) (by
    rw [sd_u, dW_c (Or.inl hw9), hi k hkn, show 6 - (k + 1) = 5 - k by omega, Nat.add_assoc, ← Nat.succ_mul]
    have : (15 - w).succ * 16 ^ (5 - k) ≤ (16 - w) * 16 ^ (5 - k) := Nat.mul_le_mul_right _ (by omega)
    omega))) (by omega) (Nat.le_of_ble_eq_true rfl) ⟨Nat.zero_le _, Nat.zero_le _⟩ (fun v ad' dm' a' b' r' hp => ?_)
            obtain ⟨rfl, rfl, rfl, rfl, rfl, hg2, sc2, h1, h2, h3⟩ := hp
            change G E 0 0 _ _ a' _ _ 305 _ []
            have I := hg2.IM I
            refine g_aload_0 (q := 306) C dX4_goOn_305 rfl ?_
            refine g_getc (q := 309) (m := 112) C f_X4_43 dX4_goOn_306 rfl rfl (IM.d I _ (by decide) (by decide)) ?_
            refine g_iload_8 (q := 311) C dX4_goOn_309 rfl ?_
            refine g_dup2 (q := 312) C dX4_goOn_311 rfl rfl rfl ?_
            refine g_ia (q := 313) C dX4_goOn_312 rfl rfl (IM.d I _ (by decide) (by decide)) rfl (by omega) (by decide) ?_
            refine g_iload_6 (q := 315) C dX4_goOn_313 rfl ?_
            refine g_isub (q := 316) C dX4_goOn_315 rfl ?_
            refine g_iast (q := 317) C dX4_goOn_316 rfl rfl (IM.d I _ (by decide) (by decide)) rfl (by omega) (by decide) ?_
            have I := I.u (n := 112) (k := D.2.2.1 k w / 9) (x := a' 112 (D.2.2.1 k w / 9) - nI (D.1 k)) (by decide)
            refine g_iload_9 (q := 319) C dX4_goOn_317 rfl ?_
            refine g_if_lt (tgt := 334) (q := 322) C dX4_goOn_319 rfl (by decide) (fun c_319 => absurd c_319 (nI_pos (by omega))) (fun c_319 => ?_)
            refine g_aload_0 (q := 323) C dX4_goOn_322 rfl ?_
            refine g_getc (q := 326) (m := 112) C f_X4_43 dX4_goOn_323 rfl rfl (IM.d I _ (by decide) (by decide)) ?_
            refine g_iload_9 (q := 328) C dX4_goOn_326 rfl ?_
            refine g_dup2 (q := 329) C dX4_goOn_328 rfl rfl rfl ?_
            refine g_ia (q := 330) C dX4_goOn_329 rfl rfl (IM.d I _ (by decide) (by decide)) rfl (by omega) (by decide) ?_
            refine g_iload_6 (q := 332) C dX4_goOn_330 rfl ?_
            refine g_isub (q := 333) C dX4_goOn_332 rfl ?_
            refine g_iast (q := 334) C dX4_goOn_333 rfl rfl (IM.d I _ (by decide) (by decide)) rfl (by omega) (by decide) ?_
            refine g_iinc_7 (v := nI (w + 1)) (q := 337) C dX4_goOn_334 rfl (by rw [hN]; decide) (nI_1 w) ?_
            refine g_goto (tgt := 161) C dX4_goOn_337 (by decide) ?_
            first
              | (refine ihw (w + 1) a0 sc0 _ _ (by omega) hgf (hb0.fr rfl rfl (fun _ => rfl) (by
                 have : (16 - (w + 1)) * 16 ^ (5 - k) ≤ (16 - w) * 16 ^ (5 - k) := Nat.mul_le_mul_right _ (by omega)
                 omega)) hsc (fun y y1 y2 y3 hy => ?_)
                 by_cases e : y k = w
                 · exact (no_room (ld := ld) hD hkn c1 hw9 (Or.inl rfl) (of_decide_eq_false c_216) y2 y3 e).elim
                 · exact hcov y y1 y2 y3 (by omega))
              | (refine ihw (w + 1) a0 sc0 _ _ (by omega) hgf (hb0.fr rfl rfl (fun _ => rfl) (by
                 have : (16 - (w + 1)) * 16 ^ (5 - k) ≤ (16 - w) * 16 ^ (5 - k) := Nat.mul_le_mul_right _ (by omega)
                 omega)) hsc (fun y y1 y2 y3 hy => ?_)
                 by_cases e : y k = w
                 · exact (no_room (ld := ld) hD hkn hfb2 hw9 (Or.inr hfb) (of_decide_eq_false c_227) y2 y3 e).elim
                 · exact hcov y y1 y2 y3 (by omega))
              | (exact ihw (w + 1) _ sc2 _ _ (by omega) (gf_2 hab hgf hg2) (h2.fr (by rw [u2_n (by decide), u2_n (by decide)]) (by rw [u2_n (by decide), u2_n (by decide)]) (fun j => by rw [u2_n (by decide), u2_n (by decide)]) (by
                 rw [sd_u, dW_c (Or.inl hw9), hi k hkn, show 15 - w = 16 - (w + 1) by omega]
                 omega)) (by omega) (fun y y1 y2 y3 hy => by
                 by_cases e : y k = w
                 · exact h3 y y1 y2 (fun j hj => by
                     by_cases e2 : j = k
                     · subst e2; rw [u1_s]; exact e
                     · rw [u1_n e2]; exact y3 j (by omega))
                 · have := hcov y y1 y2 y3 (by omega)
                   omega))
          · refine g_goto (tgt := 334) C dX4_goOn_230 (by decide) ?_
            refine g_iinc_7 (v := nI (w + 1)) (q := 337) C dX4_goOn_334 rfl (by rw [hN]; decide) (nI_1 w) ?_
            refine g_goto (tgt := 161) C dX4_goOn_337 (by decide) ?_
            first
              | (refine ihw (w + 1) a0 sc0 _ _ (by omega) hgf (hb0.fr rfl rfl (fun _ => rfl) (by
                 have : (16 - (w + 1)) * 16 ^ (5 - k) ≤ (16 - w) * 16 ^ (5 - k) := Nat.mul_le_mul_right _ (by omega)
                 omega)) hsc (fun y y1 y2 y3 hy => ?_)
                 by_cases e : y k = w
                 · exact (no_room (ld := ld) hD hkn c1 hw9 (Or.inl rfl) (of_decide_eq_false c_216) y2 y3 e).elim
                 · exact hcov y y1 y2 y3 (by omega))
              | (refine ihw (w + 1) a0 sc0 _ _ (by omega) hgf (hb0.fr rfl rfl (fun _ => rfl) (by
                 have : (16 - (w + 1)) * 16 ^ (5 - k) ≤ (16 - w) * 16 ^ (5 - k) := Nat.mul_le_mul_right _ (by omega)
                 omega)) hsc (fun y y1 y2 y3 hy => ?_)
                 by_cases e : y k = w
                 · exact (no_room (ld := ld) hD hkn hfb2 hw9 (Or.inr hfb) (of_decide_eq_false c_227) y2 y3 e).elim
                 · exact hcov y y1 y2 y3 (by omega))
              | (exact ihw (w + 1) _ sc2 _ _ (by omega) (gf_2 hab hgf hg2) (h2.fr (by rw [u2_n (by decide), u2_n (by decide)]) (by rw [u2_n (by decide), u2_n (by decide)]) (fun j => by rw [u2_n (by decide), u2_n (by decide)]) (by
                 rw [sd_u, dW_c (Or.inl hw9), hi k hkn, show 15 - w = 16 - (w + 1) by omega]
                 omega)) (by omega) (fun y y1 y2 y3 hy => by
                 by_cases e : y k = w
                 · exact h3 y y1 y2 (fun j hj => by
                     by_cases e2 : j = k
                     · subst e2; rw [u1_s]; exact e
                     · rw [u1_n e2]; exact y3 j (by omega))
                 · have := hcov y y1 y2 y3 (by omega)
                   omega))
    have h94 : G E 0 0 ad dm a b r 94 [some (.ref (ad 100)), some (.int (nI k)), some (.int (nI (spp D x k))), some (.int (nI (sl D x k))), some (.int (nI (sT (bP D x k) n))), some (.int (nI (sT (bL D ll x k) n))), some (.int (nI n)), none, none, none] [] := by
      refine g_iload_1 (q := 95) C dX4_goOn_94 rfl ?_
      refine g_aload_0 (q := 96) C dX4_goOn_95 rfl ?_
      refine g_geti (q := 99) C f_X4_121 dX4_goOn_96 rfl rfl (IM.d I _ (by decide) (by decide)) ?_
      refine g_icmp_ne (tgt := 145) (q := 102) C dX4_goOn_99 rfl (by decide) (fun c_99 => ?_) (fun c_99 => absurd c_99 (by rw [S.1, nI_eq (by omega) (by omega)]; omega))
      refine g_aload_0 (q := 146) C dX4_goOn_145 rfl ?_
      refine g_aload_0 (q := 147) C dX4_goOn_146 rfl ?_
      refine g_getc (q := 150) (m := 106) C f_X4_25 dX4_goOn_147 rfl rfl (IM.d I _ (by decide) (by decide)) ?_
      refine g_iload_1 (q := 151) C dX4_goOn_150 rfl ?_
      refine g_ia (q := 152) C dX4_goOn_151 rfl rfl (IM.d I _ (by decide) (by decide)) rfl (by omega) (by decide) ?_
      refine g_iconst (v := 1) (q := 153) C dX4_goOn_152 rfl (by decide) ?_
      refine g_cv2i (q := 156) C cv_X4_70 dX4_goOn_153 rfl rfl (IM.d I _ (by decide) (by decide)) (m_X4_get I (p := lf k) (k := 1) (by omega) s1 rfl) (by omega) (Nat.le_of_ble_eq_true rfl) ⟨Nat.zero_le _, Nat.zero_le _⟩ ?_
      rw [s3]
      refine g_istore_6 (q := 158) C dX4_goOn_156 rfl (by rw [hN]; decide) rfl ?_
      refine g_iconst (v := 0) (q := 159) C dX4_goOn_158 rfl (by decide) ?_
      refine g_istore_7 (q := 161) C dX4_goOn_159 rfl (by rw [hN]; decide) rfl ?_
      refine lw (D.2.1 k) 0 a sc _ _ (by omega) GF.rf (hb.fr rfl rfl (fun _ => rfl) (by rw [show 6 - k = (5 - k) + 1 by omega, Nat.pow_succ]; omega)) (Nat.le_refl _) (fun y _ _ _ hy => by omega)
    refine g_iload_2 (q := 1) C dX4_goOn_0 rfl ?_
    refine g_istore_4 (q := 3) C dX4_goOn_1 rfl (by rw [hN]; decide) rfl ?_
    refine g_iload_3 (q := 4) C dX4_goOn_3 rfl ?_
    refine g_istore_5 (q := 6) C dX4_goOn_4 rfl (by rw [hN]; decide) rfl ?_
    refine g_iload_1 (q := 7) C dX4_goOn_6 rfl ?_
    refine g_istore_6 (q := 9) C dX4_goOn_7 rfl (by rw [hN]; decide) rfl ?_
    refine go_sum C hN I S hD ?_ (n - k) k _ _ (by omega) (Nat.le_refl _) (by rw [bP_k]) (by rw [bL_k])
    refine g_iload_4 (q := 68) C dX4_goOn_66 rfl ?_
    refine g_aload_0 (q := 69) C dX4_goOn_68 rfl ?_
    refine g_geti (q := 72) C f_X4_124 dX4_goOn_69 rfl rfl (IM.d I _ (by decide) (by decide)) ?_
    refine g_icmp_lt (tgt := 93) (q := 75) C dX4_goOn_72 rfl (by decide) (fun c_72 => ?_) (fun c_72 => ?_)
    · exact g_vret C RT9 dX4_goOn_93 ⟨rfl, rfl, rfl, rfl, rfl, GF.rf, sc, Nat.le_refl _, hb.fr rfl rfl (fun _ => rfl) (Nat.le_add_right _ _), fun y _ _ hy => go_cut hD hi hl1 hl2 (by omega) hb (by first | exact Or.inl c_72 | exact Or.inr ⟨c_81, c_90⟩) y hy⟩
    · refine g_iload_4 (q := 77) C dX4_goOn_75 rfl ?_
      refine g_aload_0 (q := 78) C dX4_goOn_77 rfl ?_
      refine g_geti (q := 81) C f_X4_124 dX4_goOn_78 rfl rfl (IM.d I _ (by decide) (by decide)) ?_
      refine g_icmp_ne (tgt := 94) (q := 84) C dX4_goOn_81 rfl (by decide) (fun c_81 => ?_) (fun c_81 => ?_)
      · exact h94
      · refine g_iload_5 (q := 86) C dX4_goOn_84 rfl ?_
        refine g_aload_0 (q := 87) C dX4_goOn_86 rfl ?_
        refine g_geti (q := 90) C f_X4_127 dX4_goOn_87 rfl rfl (IM.d I _ (by decide) (by decide)) ?_
        refine g_icmp_lt (tgt := 94) (q := 93) C dX4_goOn_90 rfl (by decide) (fun c_90 => ?_) (fun c_90 => ?_)
        · exact h94
        · exact g_vret C RT9 dX4_goOn_93 ⟨rfl, rfl, rfl, rfl, rfl, GF.rf, sc, Nat.le_refl _, hb.fr rfl rfl (fun _ => rfl) (Nat.le_add_right _ _), fun y _ _ hy => go_cut hD hi hl1 hl2 (by omega) hb (by first | exact Or.inl c_72 | exact Or.inr ⟨c_81, c_90⟩) y hy⟩
end M37
