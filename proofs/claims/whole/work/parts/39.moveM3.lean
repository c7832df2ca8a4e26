section M39
variable {g : GM} {bs : Nat} {l : Launch} {ad : Nat → Nat} {dm : Nat → Bool} {a : Nat → Nat → Int32} {b : Nat → Nat → Int64} {r : Nat → Nat → Option Nat} {nF nP : Nat} {fl pa nu : Nat → Int32}
theorem mD_co (W : WP nF nP pa) (F : WF nF fl) (hn : nF ≤ 8) : CO (mD fl pa nu nF nP) (stN pa nP) nF := fun k hk p hp => by
  obtain ⟨n1, n2, -⟩ := nth_ok (c := okW fl nu nF (owS pa nP k)) (m := 72) hp
  obtain ⟨c1, c2, c3⟩ := okW_t n2
  refine ⟨c1, c2, fun e => ?_⟩
  have e : nthS (okW fl nu nF (owS pa nP k)) 72 p % 9 = nthS (okW fl nu nF (owS pa nP k)) 72 p / 9 + 1 := e
  have hb : cB (nthS (okW fl nu nF (owS pa nP k)) 72 p) = some (nthS (okW fl nu nF (owS pa nP k)) 72 p / 9) := by
    unfold cB
    rw [if_neg (by omega), e]
    rfl
  rw [hb] at c3
  obtain ⟨g1, g2⟩ := way_s F c1 c1 c3
  simp [fFst] at g1
  simp [fSnd] at g2
  exact g2.1 g1.1.2
def llS (D : MD) (a : Nat → Nat → Int32) (k : Nat) : Nat := if D.2.1 k = 0 then 0 else cN (a 110 k)
theorem ll_ok (W : WP nF nP pa) (F : WF nF fl) (hn : nF ≤ 8) {a0 : Nat → Nat → Int32} (h : WYI fl pa nu nF nP (stN pa nP) a a0) : ∀ k, k < stN pa nP → ((mD fl pa nu nF nP).2.1 k ≠ 0 → a0 110 k = nI (llS (mD fl pa nu nF nP) a0 k)) ∧ (∀ p, p < (mD fl pa nu nF nP).2.1 k → llS (mD fl pa nu nF nP) a0 k ≤ (mD fl pa nu nF nP).2.2.2.1 k p * (mD fl pa nu nF nP).1 k) ∧ llS (mD fl pa nu nF nP) a0 k ≤ 59994 := by
  intro k hk
  obtain ⟨-, -, L, l1, l2, l3⟩ := h.2 k hk
  have e : (mD fl pa nu nF nP).2.1 k ≠ 0 → llS (mD fl pa nu nF nP) a0 k = L := fun h0 => by
    rw [llS, if_neg h0, l1, cN_nI (by omega)]
  have hp : ∀ p, p < (mD fl pa nu nF nP).2.1 k → llS (mD fl pa nu nF nP) a0 k ≤ (mD fl pa nu nF nP).2.2.2.1 k p * (mD fl pa nu nF nP).1 k := fun p hp => by
    obtain ⟨n1, n2, -⟩ := nth_ok (c := okW fl nu nF (owS pa nP k)) (m := 72) hp
    rw [e (by omega)]
    exact l3 _ n1 n2
  refine ⟨fun h0 => by rw [e h0]; exact l1, hp, ?_⟩
  by_cases h0 : (mD fl pa nu nF nP).2.1 k = 0
  · rw [llS, if_pos h0]; omega
  · have hw := hp 0 (by omega)
    obtain ⟨n1, n2, -⟩ := nth_ok (c := okW fl nu nF (owS pa nP k)) (m := 72) (show 0 < (mD fl pa nu nF nP).2.1 k by omega)
    have h1 : (mD fl pa nu nF nP).2.2.2.1 k 0 ≤ 9999 := late_le F (ow_ok W hn hk).2 n2
    have h2 : (mD fl pa nu nF nP).1 k ≤ 6 := (sz_ok W (lf_ok hk).1).2.2
    have h3 : (mD fl pa nu nF nP).2.2.2.1 k 0 * (mD fl pa nu nF nP).1 k ≤ 9999 * 6 := Nat.mul_le_mul h1 h2
    omega
theorem mD_ms (W : WP nF nP pa) (F : WF nF fl) (hn : nF ≤ 8) {a1 a2 a3 a4 : Nat → Nat → Int32} (hpa : a1 102 = pa) (h2 : LI pa nP a1 a2) (h3 : WYI fl pa nu nF nP (stN pa nP) a2 a3) (h4 : ∀ m, m ≠ 111 → m ≠ 112 → a4 m = a3 m) : MS (mD fl pa nu nF nP) (stN pa nP) nP (lfS pa nP) (llS (mD fl pa nu nF nP) a3) a4 := by
  have g : ∀ m, m ≠ 111 → m ≠ 112 → m ≠ 107 → m ≠ 108 → m ≠ 109 → m ≠ 110 → a4 m = a2 m := fun m m1 m2 m3 m4 m5 m6 => (h4 m m1 m2).trans (h3.1 m m3 m4 m5 m6)
  refine ⟨by rw [g 100 (by decide) (by decide) (by decide) (by decide) (by decide) (by decide)]; exact h2.2.2.1, fun k hk => ⟨?_, (lf_ok hk).1, ?_, ?_, ?_⟩, fun k hk p hp => ?_⟩
  · rw [g 106 (by decide) (by decide) (by decide) (by decide) (by decide) (by decide)]
    have := h2.2.2.2 _ (lf_ok hk).1 (lf_ok hk).2.1
    rw [(lf_ok hk).2.2] at this
    exact this
  · rw [g 102 (by decide) (by decide) (by decide) (by decide) (by decide) (by decide), h2.1 102 (by decide) (by decide), hpa]
    exact (sz_ok W (lf_ok hk).1).1
  · rw [h4 109 (by decide) (by decide)]
    exact (h3.2 k hk).1
  · rw [h4 110 (by decide) (by decide)]
    exact (ll_ok W F hn h3 k hk).1
  · rw [h4 107 (by decide) (by decide), h4 108 (by decide) (by decide)]
    obtain ⟨n1, n2, n3⟩ := nth_ok (c := okW fl nu nF (owS pa nP k)) (m := 72) hp
    have := (h3.2 k hk).2.1 _ n1 n2
    rw [n3] at this
    exact this
set_option maxHeartbeats 4000000 in
set_option maxRecDepth 100000 in
theorem m_X4_move (I : IM dm a nF nP) {a1 : Nat → Nat → Int32} (ha : a1 = u2 a 100 5 0) (hfl : a1 101 = fl) (hpa : a1 102 = pa) (hnu : a1 103 = nu) (W : WP nF nP pa) (F : WF nF fl) : MT g bs l yX4_move cX4_move 2 (some .int) 8 0 0 [.ref (ad 100)] ad dm a b r (fun v ad0 dm0 a0 b0 r0 => ad0 = ad ∧ dm0 = dm ∧ b0 = b ∧ r0 = r ∧ (∀ m, m < 100 ∨ 115 ≤ m ∨ m = 101 ∨ m = 103 → a0 m = a1 m) ∧ (∀ j, j < 6 → a0 100 j = a1 100 j) ∧ a0 102 = mvP fl pa nu nF nP ∧ v = some (.int (mvV fl pa nu nF nP))) := by
  refine mt_of (by decide) [some (.ref (ad 100)), none] rfl (Nat.le_of_ble_eq_true rfl) ?_
  intro E hg hbs hl hN C RT9 hcells hslots hname
  have hnF := I.2.2.1
  have hnP := I.2.2.2.2
  refine g_aload_0 (q := 1) C dX4_move_0 rfl ?_
  refine g_iconst (v := 0) (q := 2) C dX4_move_1 rfl (by decide) ?_
  refine g_puti (q := 5) C p_X4_52 dX4_move_2 rfl rfl (IM.d I _ (by decide) (by decide)) rfl rfl ?_
  rw [← ha]
  have I : IM dm a1 nF nP := by rw [ha]; exact I.th
  have I1 := I
  refine g_aload_0 (q := 6) C dX4_move_5 rfl ?_
  refine g_cv0i (q := 9) C cv_X4_136 dX4_move_6 rfl rfl (IM.d I _ (by decide) (by decide)) (m_X4_strandedMany I) (by decide) (Nat.le_of_ble_eq_true rfl) ⟨Nat.zero_le _, Nat.zero_le _⟩ ?_
  rw [hpa]
  show G E 0 0 _ _ _ _ _ 9 _ [.int (nI (stN pa nP))]
  refine g_bipush (v := 6) (q := 11) C dX4_move_9 rfl (by decide) ?_
  refine g_icmp_le (tgt := 16) (q := 14) C dX4_move_11 rfl (by decide) (fun c_11 => ?_) (fun c_11 => ?_)
  · have h6 : stN pa nP ≤ 6 := by rw [show (6 : Int32) = nI 6 from rfl, nI_leI (by have := ctS_le (stc pa) nP; unfold stN; omega) (by decide)] at c_11; exact c_11
    refine g_aload_0 (q := 17) C dX4_move_16 rfl ?_
    refine g_iconst (v := 0) (q := 18) C dX4_move_17 rfl (by decide) ?_
    refine g_puti (q := 21) C p_X4_121 dX4_move_18 rfl rfl (IM.d I _ (by decide) (by decide)) rfl rfl ?_
    refine g_iconst (v := 0) (q := 22) C dX4_move_21 rfl (by decide) ?_
    refine g_istore_1 (q := 23) C dX4_move_22 rfl (by rw [hN]; decide) rfl ?_
    refine mv_left C hN I1 hpa W h6 (fun a2 h2 => ?_) nP 0 _ (by omega) ⟨fun m m1 m2 => u2_n m1, fun j hj => u2_k hj _, u2_s, fun p hp => by omega⟩
    have I := h2.IM I1
    refine g_iconst (v := 0) (q := 81) C dX4_move_80 rfl (by decide) ?_
    refine g_istore_1 (q := 82) C dX4_move_81 rfl (by rw [hN]; decide) rfl ?_
    have e9 : a2 100 9 = nI (stN pa nP) := h2.2.2.1
    refine mv_ways C hN I W F ((h2.1 101 (by decide) (by decide)).trans hfl) ((h2.1 102 (by decide) (by decide)).trans hpa) ((h2.1 103 (by decide) (by decide)).trans hnu) h6 e9 (fun k hk => ?_) (fun a3 h3 => ?_) (stN pa nP) 0 _ (by omega) ⟨fun _ _ _ _ _ => rfl, fun j hj => by omega⟩
    · have := h2.2.2.2 _ (lf_ok hk).1 (lf_ok hk).2.1
      rw [(lf_ok hk).2.2] at this
      exact this
    have I := I.fw (h3.1 100 (by decide) (by decide) (by decide) (by decide))
    refine g_iconst (v := 0) (q := 102) C dX4_move_101 rfl (by decide) ?_
    refine g_istore_1 (q := 103) C dX4_move_102 rfl (by rw [hN]; decide) rfl ?_
    refine mv_load C hN I W F ((h3.1 101 (by decide) (by decide) (by decide) (by decide)).trans ((h2.1 101 (by decide) (by decide)).trans hfl)) ((h3.1 102 (by decide) (by decide) (by decide) (by decide)).trans ((h2.1 102 (by decide) (by decide)).trans hpa)) (fun a4 h4 => ?_) nF 0 _ (by omega) ⟨fun _ _ _ => rfl, fun j hj => by omega⟩
    have I := I.fw (h4.1 100 (by decide) (by decide))
    have hD := mD_ok (nu := nu) W F hnF h6
    have hco := mD_co (nu := nu) W F hnF
    have S := mD_ms W F hnF hpa h2 h3 h4.1
    have hA5 : GF 0 a4 (u2 (u2 a4 100 18 (-1)) 100 19 0) := ⟨fun m m1 _ _ _ => by rw [u2_n m1, u2_n m1], fun j => by rw [u2_n (by decide), u2_n (by decide)], fun j j1 j2 => by rw [u2_k j2, u2_k j1], fun j hj => by omega⟩
    have L4 : ML (mD fl pa nu nF nP) nF (capS fl pa nP) (ldN pa nP) (fun _ => 15) 0 a4 := fun f hf => by
      refine ⟨(h4.2 f hf).1, (h4.2 f hf).2, ?_⟩
      obtain ⟨se, s1, s2, es⟩ := (F f hf).2.2.2.2.1
      have := sN_le W (flyc pa (nI f)) (Nat.le_refl nP)
      unfold capS ldN
      rw [es, cN_nI (by omega)]
      omega
    refine g_aload_0 (q := 150) C dX4_move_149 rfl ?_
    refine g_iconst (v := (-1)) (q := 151) C dX4_move_150 rfl (by decide) ?_
    refine g_puti (q := 154) C p_X4_124 dX4_move_151 rfl rfl (IM.d I _ (by decide) (by decide)) rfl rfl ?_
    have I2 := I
    refine g_aload_0 (q := 155) C dX4_move_154 rfl ?_
    refine g_iconst (v := 0) (q := 156) C dX4_move_155 rfl (by decide) ?_
    refine g_puti (q := 159) C p_X4_127 dX4_move_156 rfl rfl (IM.d I _ (by decide) (by decide)) rfl rfl ?_
    have I := hA5.IM I
    refine g_aload_0 (q := 160) C dX4_move_159 rfl ?_
    refine g_iconst (v := 0) (q := 161) C dX4_move_160 rfl (by decide) ?_
    refine g_iconst (v := 0) (q := 162) C dX4_move_161 rfl (by decide) ?_
    refine g_iconst (v := 0) (q := 163) C dX4_move_162 rfl (by decide) ?_
    refine g_cv3g (q := 166) C cv_X4_133 dX4_move_163 rfl rfl (IM.d I _ (by decide) (by decide)) (m_X4_goOn hD mD_i hco (fun i hi => (ll_ok W F hnF h3 i hi).2.2) (fun i hi => (ll_ok W F hnF h3 i hi).2.1) (stN pa nP) 0 (u2 (u2 a4 100 18 (-1)) 100 19 0) (fun _ => 15) 0 (by omega) I (hA5.MS S) (hA5.ML L4) (fun f hf => Nat.zero_le _) (fun j hj => by omega) (fun j hj => by omega) (Or.inl ⟨rfl, by rw [u2_k (by decide), u2_s]⟩)) (by omega) (Nat.le_of_ble_eq_true rfl) ⟨Nat.zero_le _, Nat.zero_le _⟩ (fun v ad' dm' a' b' r' hp => ?_)
    obtain ⟨rfl, rfl, rfl, rfl, rfl, hg2, sc, h8, hB, h9⟩ := hp
    change G E 0 0 _ _ a' _ _ 166 _ []
    have I := hg2.IM I
    refine g_iconst (v := 0) (q := 167) C dX4_move_166 rfl (by decide) ?_
    refine g_istore_1 (q := 168) C dX4_move_167 rfl (by rw [hN]; decide) rfl ?_
    have hY := mvY_ok (nu := nu) W F hnF h6
    have h10 := h9 _ hY.1 hY.2.1 (fun j hj => by omega)
    obtain ⟨z, z1, z2, z3, z4, z5, z6, z7⟩ : ∃ z, cn (mD fl pa nu nF nP) (stN pa nP) z ∧ fe (mD fl pa nu nF nP) nF (capS fl pa nP) (stN pa nP) z ∧ sc = 1 + sm (mD fl pa nu nF nP) z (stN pa nP) ∧ a' 100 18 = nI (spp (mD fl pa nu nF nP) z (stN pa nP)) ∧ a' 100 19 = nI (sl (mD fl pa nu nF nP) z (stN pa nP)) ∧ (∀ j, j < (stN pa nP) → a' 114 j = enW (mD fl pa nu nF nP) j (z j)) ∧ sd (mD fl pa nu nF nP) (fun _ => 15) 0 ≤ sd (mD fl pa nu nF nP) z (stN pa nP) := by
      rcases hB with ⟨e, -⟩ | h
      · omega
      · exact h
    have hz := sm_inj hD mD_i z1 hY.1 (Nat.le_antisymm (hY.2.2 z z1 z2) (by omega))
    have gA : ∀ m, m < 100 ∨ 115 ≤ m ∨ m = 101 ∨ m = 103 → a' m = a1 m := fun m hm => by
      rw [hg2.1 m (by omega) (by omega) (by omega) (by omega), hA5.1 m (by omega) (by omega) (by omega) (by omega), h4.1 m (by omega) (by omega), h3.1 m (by omega) (by omega) (by omega) (by omega), h2.1 m (by omega) (by omega)]
    have g1 : ∀ j, j < 6 → a' 100 j = a1 100 j := fun j hj => by
      rw [hg2.2.2.1 j (by omega) (by omega), hA5.2.2.1 j (by omega) (by omega), h4.1 100 (by omega) (by omega), h3.1 100 (by omega) (by omega) (by omega) (by omega), h2.2.1 j (by omega)]
    have hS2 := hg2.MS (hA5.MS S)
    refine mv_put (fl := fl) (pa := pa) (nu := nu) (z := z) C hN RT9 I h6 hco hS2.1 (fun k hk => (hS2.2.1 k hk).1) z6 (fun k hk => ⟨rfl, rfl, rfl, rfl, fun m hm => by rw [up1_n (by omega)]; exact gA m hm, fun j hj => by rw [up1_n (by decide)]; exact g1 j hj, ?_, ?_⟩) (stN pa nP) 0 _ (by omega) ?_
    · rw [up1_s, mvP, if_neg (by omega)]
      exact mvF_cong (fun i hi => decide_eq_true (by omega)) hz
    · rw [z4, mvV, if_neg (by omega)]
      congr 3
      exact sT_cong (fun i hi => by rw [hz i hi])
    · have e102 : a' 102 = pa := by
        rw [hg2.1 102 (by decide) (by decide) (by decide) (by decide), hA5.1 102 (by decide) (by decide) (by decide) (by decide), h4.1 102 (by decide) (by decide), h3.1 102 (by decide) (by decide) (by decide) (by decide), h2.1 102 (by decide) (by decide)]
        exact hpa
      rw [show (fun i => decide (i < 0)) = (fun _ => false) from funext (fun i => decide_eq_false (by omega)), mvF_0, ← e102, up1_id]
  · refine g_iconst (v := (-1)) (q := 15) C dX4_move_14 rfl (by decide) ?_
    exact g_iret C RT9 dX4_move_15 ⟨rfl, rfl, rfl, rfl, fun _ _ => rfl, fun _ _ => rfl, by rw [mvP, if_pos (by rw [show (6 : Int32) = nI 6 from rfl, nI_leI (by have := ctS_le (stc pa) nP; unfold stN; omega) (by decide)] at c_11; omega)]; exact hpa, by rw [mvV, if_pos (by rw [show (6 : Int32) = nI 6 from rfl, nI_leI (by have := ctS_le (stc pa) nP; unfold stN; omega) (by decide)] at c_11; omega)]⟩

end M39
