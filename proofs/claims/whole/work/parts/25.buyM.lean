section D25
variable {g : GM} {bs : Nat} {l : Launch} {ad : Nat → Nat} {dm : Nat → Bool} {a : Nat → Nat → Int32} {b : Nat → Nat → Int64} {r : Nat → Nat → Option Nat} {nF nP : Nat} {fl pa nu : Nat → Int32}
theorem IM.fr {a0 : Nat → Nat → Int32} (h : IM dm a nF nP) (hf : ∀ n, n ≠ 104 → n ≠ 105 → a0 n = a n) : IM dm a0 nF nP := ⟨h.1, by rw [hf 100 (by decide) (by decide)]; exact h.2.1, h.2.2.1, by rw [hf 100 (by decide) (by decide)]; exact h.2.2.2.1, h.2.2.2.2⟩
theorem u2_fr {a0 : Nat → Nat → Int32} (hf : ∀ n, n ≠ 104 → n ≠ 105 → a0 n = a n) {w k : Nat} {v : Int32} (hw : w = 104 ∨ w = 105) : ∀ n, n ≠ 104 → n ≠ 105 → u2 a0 w k v n = a n := fun n h1 h2 => by rw [u2_n (by omega)]; exact hf n h1 h2
theorem rp_o {a0 : Nat → Nat → Int32} {s k : Nat} {x : Option (Nat × Nat)} {v w : Int32} (h : rpM (a0 104) (a0 105) k x) (hk : k ≠ s) : rpM (u2 (u2 a0 104 s v) 105 s w 104) (u2 (u2 a0 104 s v) 105 s w 105) k x := rpM_c h (by rw [u2_n (by decide), u2_k hk]) (by rw [u2_k hk, u2_n (by decide)])
theorem rp_s {a0 : Nat → Nat → Int32} {s x y : Nat} : rpM (u2 (u2 a0 104 s (nI x)) 105 s (nI y) 104) (u2 (u2 a0 104 s (nI x)) 105 s (nI y) 105) s (some (x, y)) := ⟨by rw [u2_n (by decide), u2_s], u2_s⟩
set_option maxHeartbeats 4000000 in
set_option maxRecDepth 100000 in
theorem fb_inner {E : EN} (C : CX E cX4_findBest yX4_findBest.cls 3) (hN : eN E = 7) (I0 : IM dm a nF nP) (W : WP nF nP pa) (hpa : pa = a 102) {fv : Int32} {p sz : Nat} (hp : p < nP) (hsz : szN pa p = sz) (hsz1 : 1 ≤ sz) (hsz6 : sz ≤ 6) (hmg : mgS pa fv p = true) (hk : ∀ (a0 : Nat → Nat → Int32) (sv : Int32) (e5 e6 : Option Value), (∀ n, n ≠ 104 → n ≠ 105 → a0 n = a n) → (∀ k, k < 121 → rpM (a0 104) (a0 105) k (DP pa fv (p + 1) k)) → G E 0 0 ad dm a0 b r 191 [some (.ref (ad 100)), some (.int fv), some (.int (nI p)), some (.int (nI sz)), some (.int sv), e5, e6] []) :
    ∀ (m : Nat) (a0 : Nat → Nat → Int32) (sv : Int32) (e5 e6 : Option Value), m ≤ 121 → sv = nI m - 1 → (∀ n, n ≠ 104 → n ≠ 105 → a0 n = a n) → (∀ k, k < 121 → k < m → rpM (a0 104) (a0 105) k (DP pa fv p k)) → (∀ k, k < 121 → m ≤ k → rpM (a0 104) (a0 105) k (DP pa fv (p + 1) k)) → G E 0 0 ad dm a0 b r 70 [some (.ref (ad 100)), some (.int fv), some (.int (nI p)), some (.int (nI sz)), some (.int sv), e5, e6] [] := by
  have hnF := I0.2.2.1
  have hnP := I0.2.2.2.2
  have hbd := bd_ok W hp hmg
  intro m
  induction m with
  | zero =>
    intro a0 sv e5 e6 hm hsv hfr hlo hhi
    subst hsv
    have I := I0.fr hfr
    refine g_iload_4 (q := 72) C dX4_findBest_70 rfl ?_
    refine g_iload_3 (q := 73) C dX4_findBest_72 rfl ?_
    refine g_icmp_lt (tgt := 191) (q := 76) C dX4_findBest_73 rfl (by decide) (fun c_73 => ?_) (fun c_73 => absurd (by rw [i_lt, nI_toInt (by omega), show (nI 0 - 1).toInt = -1 from rfl]; omega) c_73)
    exact hk a0 _ _ _ hfr (fun k hk9 => by
      rcases Nat.lt_or_ge k 0 with h | h
      · rw [DP_l (by rw [hsz]; omega)]; exact hlo k hk9 h
      · exact hhi k hk9 h)
  | succ m ih =>
    intro a0 sv e5 e6 hm hsv hfr hlo hhi
    rw [nI_pred] at hsv
    subst hsv
    have I := I0.fr hfr
    have ep3 : a0 102 (9 * p + 3) = nI (bdN pa p) := by rw [hfr 102 (by decide) (by decide), ← hpa]; exact hbd.1
    refine g_iload_4 (q := 72) C dX4_findBest_70 rfl ?_
    refine g_iload_3 (q := 73) C dX4_findBest_72 rfl ?_
    refine g_icmp_lt (tgt := 191) (q := 76) C dX4_findBest_73 rfl (by decide) (fun c_73 => ?_) (fun c_73 => ?_)
    · have hsm : m < sz := (nI_ltI (by omega) (by omega)).mp c_73
      exact hk a0 _ _ _ hfr (fun k hk9 => by
        rcases Nat.lt_or_ge k (m + 1) with h | h
        · rw [DP_l (by rw [hsz]; omega)]; exact hlo k hk9 h
        · exact hhi k hk9 h)
    · have hsm : sz ≤ m := by rw [nI_ltI (by omega) (by omega)] at c_73; omega
      have hl0 := hlo (m - sz) (by omega) (by omega)
      have hlm := hlo m (by omega) (by omega)
      have hDy : DP pa fv (p + 1) m = mnD (DP pa fv p m) (adD (bdN pa p * sz) p (DP pa fv p (m - sz))) := by rw [DP_y hmg (by rw [hsz]; omega), hsz]
      refine g_aload_0 (q := 77) C dX4_findBest_76 rfl ?_
      refine g_getc (q := 80) (m := 104) C f_X4_19 dX4_findBest_77 rfl rfl (IM.d I _ (by decide) (by decide)) ?_
      refine g_iload_4 (q := 82) C dX4_findBest_80 rfl ?_
      refine g_iload_3 (q := 83) C dX4_findBest_82 rfl ?_
      refine g_isub (q := 84) C dX4_findBest_83 rfl ?_
      refine g_ia (q := 85) C dX4_findBest_84 rfl rfl (IM.d I _ (by decide) (by decide)) (pk_sub (by omega)) (by omega) (by decide) ?_
      refine g_ldc (q := 87) C dX4_findBest_85 rfl k_X4_98 ?_
      refine g_icmp_ne (tgt := 93) (q := 90) C dX4_findBest_87 rfl (by decide) (fun c_87 => ?_) (fun c_87 => ?_)
      · obtain ⟨q, eq, b4, b5⟩ := dp_some hl0 c_87
        obtain ⟨b1, b2, b3⟩ := DP_bd W fv (p := p) (by omega) _ q eq
        have hpw : 2 ^ p ≤ 2 ^ 19 := Nat.pow_le_pow_right (by decide) (by omega)
        have hmul : bdN pa p * sz ≤ 999 * 6 := Nat.mul_le_mul hbd.2 hsz6
        have hw9 : (q.1 + bdN pa p * sz, q.2 + 2 ^ p).1 < 200000 ∧ (q.1 + bdN pa p * sz, q.2 + 2 ^ p).2 < 2 ^ 21 := ⟨by dsimp only; omega, by dsimp only; omega⟩
        have hok := DP_ok W hnP fv (p := p) (by omega) m
        rw [show adD (bdN pa p * sz) p (DP pa fv p (m - sz)) = some (q.1 + bdN pa p * sz, q.2 + 2 ^ p) by rw [eq]; rfl] at hDy
        refine g_aload_0 (q := 94) C dX4_findBest_93 rfl ?_
        refine g_getc (q := 97) (m := 104) C f_X4_19 dX4_findBest_94 rfl rfl (IM.d I _ (by decide) (by decide)) ?_
        refine g_iload_4 (q := 99) C dX4_findBest_97 rfl ?_
        refine g_iload_3 (q := 100) C dX4_findBest_99 rfl ?_
        refine g_isub (q := 101) C dX4_findBest_100 rfl ?_
        refine g_ia (q := 102) C dX4_findBest_101 rfl rfl (IM.d I _ (by decide) (by decide)) (pk_sub (by omega)) (by omega) (by decide) ?_
        refine g_aload_0 (q := 103) C dX4_findBest_102 rfl ?_
        refine g_iload_2 (q := 104) C dX4_findBest_103 rfl ?_
        refine g_iconst (v := 3) (q := 105) C dX4_findBest_104 rfl (by decide) ?_
        refine g_cv2i (q := 108) C cv_X4_70 dX4_findBest_105 rfl rfl (IM.d I _ (by decide) (by decide)) (m_X4_get I (k := 3) (by omega) rfl rfl) (by decide) (Nat.le_of_ble_eq_true rfl) ⟨Nat.zero_le _, Nat.zero_le _⟩ ?_
        refine g_iload_3 (q := 109) C dX4_findBest_108 rfl ?_
        refine g_imul (q := 110) C dX4_findBest_109 rfl ?_
        refine g_iadd (q := 111) C dX4_findBest_110 rfl ?_
        rw [b4, ep3, pk_mul, nI_add]
        refine g_istore_5 (q := 113) C dX4_findBest_111 rfl (by rw [hN]; decide) rfl ?_
        refine g_aload_0 (q := 114) C dX4_findBest_113 rfl ?_
        refine g_getc (q := 117) (m := 105) C f_X4_22 dX4_findBest_114 rfl rfl (IM.d I _ (by decide) (by decide)) ?_
        refine g_iload_4 (q := 119) C dX4_findBest_117 rfl ?_
        refine g_iload_3 (q := 120) C dX4_findBest_119 rfl ?_
        refine g_isub (q := 121) C dX4_findBest_120 rfl ?_
        refine g_ia (q := 122) C dX4_findBest_121 rfl rfl (IM.d I _ (by decide) (by decide)) (pk_sub (by omega)) (by omega) (by decide) ?_
        refine g_iconst (v := 1) (q := 123) C dX4_findBest_122 rfl (by decide) ?_
        refine g_iload_2 (q := 124) C dX4_findBest_123 rfl ?_
        refine g_ishl (q := 125) C dX4_findBest_124 rfl ?_
        refine g_ior (q := 126) C dX4_findBest_125 rfl ?_
        rw [b5, q_sh p (by omega), q_bit b2]
        refine g_istore_6 (q := 128) C dX4_findBest_126 rfl (by rw [hN]; decide) rfl ?_
        refine g_iload_5 (q := 130) C dX4_findBest_128 rfl ?_
        refine g_aload_0 (q := 131) C dX4_findBest_130 rfl ?_
        refine g_getc (q := 134) (m := 104) C f_X4_19 dX4_findBest_131 rfl rfl (IM.d I _ (by decide) (by decide)) ?_
        refine g_iload_4 (q := 136) C dX4_findBest_134 rfl ?_
        refine g_ia (q := 137) C dX4_findBest_136 rfl rfl (IM.d I _ (by decide) (by decide)) rfl (by omega) (by decide) ?_
        refine g_icmp_gt (tgt := 185) (q := 140) C dX4_findBest_137 rfl (by decide) (fun c_137 => ?_) (fun c_137 => ?_)
        · refine g_iinc_4 (v := (nI m - 1)) (q := 188) C dX4_findBest_185 rfl (by rw [hN]; decide) (i_dec _) ?_
          refine g_goto (tgt := 70) C dX4_findBest_188 (by decide) ?_
          first
            | (have e9 := dp_none hl0 (DP_ok W hnP fv (p := p) (by omega) _) c_87
               rw [e9] at hDy
               exact ih a0 _ _ _ (by omega) rfl hfr (fun k h1 h2 => hlo k h1 (by omega)) (fun k h1 h2 => by
                 by_cases h : k = m
                 · subst h; rw [hDy, show mnD (DP pa fv p k) (adD (bdN pa p * sz) p none) = DP pa fv p k from rfl]; exact hlm
                 · exact hhi k h1 (by omega)))
            | (have e9 := dp_sk1 hlm hok hw9 c_137
               exact ih a0 _ _ _ (by omega) rfl hfr (fun k h1 h2 => hlo k h1 (by omega)) (fun k h1 h2 => by
                 by_cases h : k = m
                 · subst h; rw [hDy, e9]; exact hlm
                 · exact hhi k h1 (by omega)))
            | (have e9 := dp_sk2 hlm hok hw9 c_149 c_161
               exact ih a0 _ _ _ (by omega) rfl hfr (fun k h1 h2 => hlo k h1 (by omega)) (fun k h1 h2 => by
                 by_cases h : k = m
                 · subst h; rw [hDy, e9]; exact hlm
                 · exact hhi k h1 (by omega)))
            | (have e9 := dp_tk hlm hok hw9 c_137 (Or.inl c_149)
               exact ih _ _ _ _ (by omega) rfl (u2_fr (u2_fr hfr (Or.inl rfl)) (Or.inr rfl)) (fun k h1 h2 => rp_o (hlo k h1 (by omega)) (by omega)) (fun k h1 h2 => by
                 by_cases h : k = m
                 · subst h; rw [hDy, e9]; exact rp_s
                 · exact rp_o (hhi k h1 (by omega)) h))
            | (have e9 := dp_tk hlm hok hw9 c_137 (Or.inr c_161)
               exact ih _ _ _ _ (by omega) rfl (u2_fr (u2_fr hfr (Or.inl rfl)) (Or.inr rfl)) (fun k h1 h2 => rp_o (hlo k h1 (by omega)) (by omega)) (fun k h1 h2 => by
                 by_cases h : k = m
                 · subst h; rw [hDy, e9]; exact rp_s
                 · exact rp_o (hhi k h1 (by omega)) h))
        · refine g_iload_5 (q := 142) C dX4_findBest_140 rfl ?_
          refine g_aload_0 (q := 143) C dX4_findBest_142 rfl ?_
          refine g_getc (q := 146) (m := 104) C f_X4_19 dX4_findBest_143 rfl rfl (IM.d I _ (by decide) (by decide)) ?_
          refine g_iload_4 (q := 148) C dX4_findBest_146 rfl ?_
          refine g_ia (q := 149) C dX4_findBest_148 rfl rfl (IM.d I _ (by decide) (by decide)) rfl (by omega) (by decide) ?_
          refine g_icmp_ne (tgt := 167) (q := 152) C dX4_findBest_149 rfl (by decide) (fun c_149 => ?_) (fun c_149 => ?_)
          · refine g_aload_0 (q := 168) C dX4_findBest_167 rfl ?_
            refine g_getc (q := 171) (m := 104) C f_X4_19 dX4_findBest_168 rfl rfl (IM.d I _ (by decide) (by decide)) ?_
            refine g_iload_4 (q := 173) C dX4_findBest_171 rfl ?_
            refine g_iload_5 (q := 175) C dX4_findBest_173 rfl ?_
            refine g_iast (q := 176) C dX4_findBest_175 rfl rfl (IM.d I _ (by decide) (by decide)) rfl (by omega) (by decide) ?_
            refine g_aload_0 (q := 177) C dX4_findBest_176 rfl ?_
            refine g_getc (q := 180) (m := 105) C f_X4_22 dX4_findBest_177 rfl rfl (IM.d I _ (by decide) (by decide)) ?_
            refine g_iload_4 (q := 182) C dX4_findBest_180 rfl ?_
            refine g_iload_6 (q := 184) C dX4_findBest_182 rfl ?_
            refine g_iast (q := 185) C dX4_findBest_184 rfl rfl (IM.d I _ (by decide) (by decide)) rfl (by omega) (by decide) ?_
            refine g_iinc_4 (v := (nI m - 1)) (q := 188) C dX4_findBest_185 rfl (by rw [hN]; decide) (i_dec _) ?_
            refine g_goto (tgt := 70) C dX4_findBest_188 (by decide) ?_
            first
              | (have e9 := dp_none hl0 (DP_ok W hnP fv (p := p) (by omega) _) c_87
                 rw [e9] at hDy
                 exact ih a0 _ _ _ (by omega) rfl hfr (fun k h1 h2 => hlo k h1 (by omega)) (fun k h1 h2 => by
                   by_cases h : k = m
                   · subst h; rw [hDy, show mnD (DP pa fv p k) (adD (bdN pa p * sz) p none) = DP pa fv p k from rfl]; exact hlm
                   · exact hhi k h1 (by omega)))
              | (have e9 := dp_sk1 hlm hok hw9 c_137
                 exact ih a0 _ _ _ (by omega) rfl hfr (fun k h1 h2 => hlo k h1 (by omega)) (fun k h1 h2 => by
                   by_cases h : k = m
                   · subst h; rw [hDy, e9]; exact hlm
                   · exact hhi k h1 (by omega)))
              | (have e9 := dp_sk2 hlm hok hw9 c_149 c_161
                 exact ih a0 _ _ _ (by omega) rfl hfr (fun k h1 h2 => hlo k h1 (by omega)) (fun k h1 h2 => by
                   by_cases h : k = m
                   · subst h; rw [hDy, e9]; exact hlm
                   · exact hhi k h1 (by omega)))
              | (have e9 := dp_tk hlm hok hw9 c_137 (Or.inl c_149)
                 exact ih _ _ _ _ (by omega) rfl (u2_fr (u2_fr hfr (Or.inl rfl)) (Or.inr rfl)) (fun k h1 h2 => rp_o (hlo k h1 (by omega)) (by omega)) (fun k h1 h2 => by
                   by_cases h : k = m
                   · subst h; rw [hDy, e9]; exact rp_s
                   · exact rp_o (hhi k h1 (by omega)) h))
              | (have e9 := dp_tk hlm hok hw9 c_137 (Or.inr c_161)
                 exact ih _ _ _ _ (by omega) rfl (u2_fr (u2_fr hfr (Or.inl rfl)) (Or.inr rfl)) (fun k h1 h2 => rp_o (hlo k h1 (by omega)) (by omega)) (fun k h1 h2 => by
                   by_cases h : k = m
                   · subst h; rw [hDy, e9]; exact rp_s
                   · exact rp_o (hhi k h1 (by omega)) h))
          · refine g_iload_6 (q := 154) C dX4_findBest_152 rfl ?_
            refine g_aload_0 (q := 155) C dX4_findBest_154 rfl ?_
            refine g_getc (q := 158) (m := 105) C f_X4_22 dX4_findBest_155 rfl rfl (IM.d I _ (by decide) (by decide)) ?_
            refine g_iload_4 (q := 160) C dX4_findBest_158 rfl ?_
            refine g_ia (q := 161) C dX4_findBest_160 rfl rfl (IM.d I _ (by decide) (by decide)) rfl (by omega) (by decide) ?_
            refine g_icmp_lt (tgt := 167) (q := 164) C dX4_findBest_161 rfl (by decide) (fun c_161 => ?_) (fun c_161 => ?_)
            · refine g_aload_0 (q := 168) C dX4_findBest_167 rfl ?_
              refine g_getc (q := 171) (m := 104) C f_X4_19 dX4_findBest_168 rfl rfl (IM.d I _ (by decide) (by decide)) ?_
              refine g_iload_4 (q := 173) C dX4_findBest_171 rfl ?_
              refine g_iload_5 (q := 175) C dX4_findBest_173 rfl ?_
              refine g_iast (q := 176) C dX4_findBest_175 rfl rfl (IM.d I _ (by decide) (by decide)) rfl (by omega) (by decide) ?_
              refine g_aload_0 (q := 177) C dX4_findBest_176 rfl ?_
              refine g_getc (q := 180) (m := 105) C f_X4_22 dX4_findBest_177 rfl rfl (IM.d I _ (by decide) (by decide)) ?_
              refine g_iload_4 (q := 182) C dX4_findBest_180 rfl ?_
              refine g_iload_6 (q := 184) C dX4_findBest_182 rfl ?_
              refine g_iast (q := 185) C dX4_findBest_184 rfl rfl (IM.d I _ (by decide) (by decide)) rfl (by omega) (by decide) ?_
              refine g_iinc_4 (v := (nI m - 1)) (q := 188) C dX4_findBest_185 rfl (by rw [hN]; decide) (i_dec _) ?_
              refine g_goto (tgt := 70) C dX4_findBest_188 (by decide) ?_
              first
                | (have e9 := dp_none hl0 (DP_ok W hnP fv (p := p) (by omega) _) c_87
                   rw [e9] at hDy
                   exact ih a0 _ _ _ (by omega) rfl hfr (fun k h1 h2 => hlo k h1 (by omega)) (fun k h1 h2 => by
                     by_cases h : k = m
                     · subst h; rw [hDy, show mnD (DP pa fv p k) (adD (bdN pa p * sz) p none) = DP pa fv p k from rfl]; exact hlm
                     · exact hhi k h1 (by omega)))
                | (have e9 := dp_sk1 hlm hok hw9 c_137
                   exact ih a0 _ _ _ (by omega) rfl hfr (fun k h1 h2 => hlo k h1 (by omega)) (fun k h1 h2 => by
                     by_cases h : k = m
                     · subst h; rw [hDy, e9]; exact hlm
                     · exact hhi k h1 (by omega)))
                | (have e9 := dp_sk2 hlm hok hw9 c_149 c_161
                   exact ih a0 _ _ _ (by omega) rfl hfr (fun k h1 h2 => hlo k h1 (by omega)) (fun k h1 h2 => by
                     by_cases h : k = m
                     · subst h; rw [hDy, e9]; exact hlm
                     · exact hhi k h1 (by omega)))
                | (have e9 := dp_tk hlm hok hw9 c_137 (Or.inl c_149)
                   exact ih _ _ _ _ (by omega) rfl (u2_fr (u2_fr hfr (Or.inl rfl)) (Or.inr rfl)) (fun k h1 h2 => rp_o (hlo k h1 (by omega)) (by omega)) (fun k h1 h2 => by
                     by_cases h : k = m
                     · subst h; rw [hDy, e9]; exact rp_s
                     · exact rp_o (hhi k h1 (by omega)) h))
                | (have e9 := dp_tk hlm hok hw9 c_137 (Or.inr c_161)
                   exact ih _ _ _ _ (by omega) rfl (u2_fr (u2_fr hfr (Or.inl rfl)) (Or.inr rfl)) (fun k h1 h2 => rp_o (hlo k h1 (by omega)) (by omega)) (fun k h1 h2 => by
                     by_cases h : k = m
                     · subst h; rw [hDy, e9]; exact rp_s
                     · exact rp_o (hhi k h1 (by omega)) h))
            · refine g_goto (tgt := 185) C dX4_findBest_164 (by decide) ?_
              refine g_iinc_4 (v := (nI m - 1)) (q := 188) C dX4_findBest_185 rfl (by rw [hN]; decide) (i_dec _) ?_
              refine g_goto (tgt := 70) C dX4_findBest_188 (by decide) ?_
              first
                | (have e9 := dp_none hl0 (DP_ok W hnP fv (p := p) (by omega) _) c_87
                   rw [e9] at hDy
                   exact ih a0 _ _ _ (by omega) rfl hfr (fun k h1 h2 => hlo k h1 (by omega)) (fun k h1 h2 => by
                     by_cases h : k = m
                     · subst h; rw [hDy, show mnD (DP pa fv p k) (adD (bdN pa p * sz) p none) = DP pa fv p k from rfl]; exact hlm
                     · exact hhi k h1 (by omega)))
                | (have e9 := dp_sk1 hlm hok hw9 c_137
                   exact ih a0 _ _ _ (by omega) rfl hfr (fun k h1 h2 => hlo k h1 (by omega)) (fun k h1 h2 => by
                     by_cases h : k = m
                     · subst h; rw [hDy, e9]; exact hlm
                     · exact hhi k h1 (by omega)))
                | (have e9 := dp_sk2 hlm hok hw9 c_149 c_161
                   exact ih a0 _ _ _ (by omega) rfl hfr (fun k h1 h2 => hlo k h1 (by omega)) (fun k h1 h2 => by
                     by_cases h : k = m
                     · subst h; rw [hDy, e9]; exact hlm
                     · exact hhi k h1 (by omega)))
                | (have e9 := dp_tk hlm hok hw9 c_137 (Or.inl c_149)
                   exact ih _ _ _ _ (by omega) rfl (u2_fr (u2_fr hfr (Or.inl rfl)) (Or.inr rfl)) (fun k h1 h2 => rp_o (hlo k h1 (by omega)) (by omega)) (fun k h1 h2 => by
                     by_cases h : k = m
                     · subst h; rw [hDy, e9]; exact rp_s
                     · exact rp_o (hhi k h1 (by omega)) h))
                | (have e9 := dp_tk hlm hok hw9 c_137 (Or.inr c_161)
                   exact ih _ _ _ _ (by omega) rfl (u2_fr (u2_fr hfr (Or.inl rfl)) (Or.inr rfl)) (fun k h1 h2 => rp_o (hlo k h1 (by omega)) (by omega)) (fun k h1 h2 => by
                     by_cases h : k = m
                     · subst h; rw [hDy, e9]; exact rp_s
                     · exact rp_o (hhi k h1 (by omega)) h))
      · refine g_goto (tgt := 185) C dX4_findBest_90 (by decide) ?_
        refine g_iinc_4 (v := (nI m - 1)) (q := 188) C dX4_findBest_185 rfl (by rw [hN]; decide) (i_dec _) ?_
        refine g_goto (tgt := 70) C dX4_findBest_188 (by decide) ?_
        first
          | (have e9 := dp_none hl0 (DP_ok W hnP fv (p := p) (by omega) _) c_87
             rw [e9] at hDy
             exact ih a0 _ _ _ (by omega) rfl hfr (fun k h1 h2 => hlo k h1 (by omega)) (fun k h1 h2 => by
               by_cases h : k = m
               · subst h; rw [hDy, show mnD (DP pa fv p k) (adD (bdN pa p * sz) p none) = DP pa fv p k from rfl]; exact hlm
               · exact hhi k h1 (by omega)))
          | (have e9 := dp_sk1 hlm hok hw9 c_137
             exact ih a0 _ _ _ (by omega) rfl hfr (fun k h1 h2 => hlo k h1 (by omega)) (fun k h1 h2 => by
               by_cases h : k = m
               · subst h; rw [hDy, e9]; exact hlm
               · exact hhi k h1 (by omega)))
          | (have e9 := dp_sk2 hlm hok hw9 c_149 c_161
             exact ih a0 _ _ _ (by omega) rfl hfr (fun k h1 h2 => hlo k h1 (by omega)) (fun k h1 h2 => by
               by_cases h : k = m
               · subst h; rw [hDy, e9]; exact hlm
               · exact hhi k h1 (by omega)))
          | (have e9 := dp_tk hlm hok hw9 c_137 (Or.inl c_149)
             exact ih _ _ _ _ (by omega) rfl (u2_fr (u2_fr hfr (Or.inl rfl)) (Or.inr rfl)) (fun k h1 h2 => rp_o (hlo k h1 (by omega)) (by omega)) (fun k h1 h2 => by
               by_cases h : k = m
               · subst h; rw [hDy, e9]; exact rp_s
               · exact rp_o (hhi k h1 (by omega)) h))
          | (have e9 := dp_tk hlm hok hw9 c_137 (Or.inr c_161)
             exact ih _ _ _ _ (by omega) rfl (u2_fr (u2_fr hfr (Or.inl rfl)) (Or.inr rfl)) (fun k h1 h2 => rp_o (hlo k h1 (by omega)) (by omega)) (fun k h1 h2 => by
               by_cases h : k = m
               · subst h; rw [hDy, e9]; exact rp_s
               · exact rp_o (hhi k h1 (by omega)) h))
def enB (x : Option (Nat × (Nat × Nat))) : Int32 := match x with
  | none => -1
  | some w => nI w.1
theorem far_le {n : Nat} (h : n < 200000) : ¬ (268435456 : Int32) ≤ nI n := by
  rw [show (268435456 : Int32) = nI 268435456 from rfl, nI_leI (by decide) (by omega)]
  omega
theorem bs_none {D : Nat → Option (Nat × Nat)} {ov k : Nat} {bv : Int32} (h : bv = enB (bsD D ov k)) (c : bv = -1) (hk : ov + k < 2 ^ 30) : bsD D ov k = none := by
  cases h9 : bsD D ov k with
  | none => rfl
  | some w =>
    obtain ⟨h1, h2, h3⟩ := bsD_in h9
    rw [h9] at h
    exact absurd (h.symm.trans c) (nI_m1 (show w.1 < 2 ^ 31 by omega))
set_option maxHeartbeats 4000000 in
set_option maxRecDepth 100000 in
theorem fb_scan {E : EN} (C : CX E cX4_findBest yX4_findBest.cls 3) (hN : eN E = 7) {P : PO} (RT9 : RT E 0 0 (some .int) P) (I : IM dm a nF nP) (W : WP nF nP pa) {fv : Int32} {ov : Nat} (hov : ov ≤ 121) (hr : ∀ k, k < 121 → rpM (a 104) (a 105) k (DP pa fv nP k)) (hP9 : P (some (.int (enB (bsD (DP pa fv nP) ov (121 - ov))))) ad dm a b r) : ∀ (n s : Nat) (bv : Int32) (e4 e5 e6 : Option Value), s + n = 121 → ov ≤ s → bv = enB (bsD (DP pa fv nP) ov (s - ov)) → G E 0 0 ad dm a b r 205 [some (.ref (ad 100)), some (.int fv), some (.int bv), some (.int (nI s)), e4, e5, e6] [] := by
  have hnF := I.2.2.1
  have hnP := I.2.2.2.2
  intro n
  induction n with
  | zero =>
    intro s bv e4 e5 e6 hn hos hbv
    refine g_iload_3 (q := 206) C dX4_findBest_205 rfl ?_
    refine g_bipush (v := 121) (q := 208) C dX4_findBest_206 rfl (by decide) ?_
    refine g_icmp_ge (tgt := 250) (q := 211) C dX4_findBest_208 rfl (by decide) (fun c_208 => ?_) (fun c_208 => absurd (nI_le (a := 121) (by omega) (by omega)) c_208)
    refine g_iload_2 (q := 251) C dX4_findBest_250 rfl ?_
    exact g_iret C RT9 dX4_findBest_251 (by rw [hbv, show s - ov = 121 - ov by omega]; exact hP9)
  | succ n ih =>
    intro s bv e4 e5 e6 hn hos hbv
    refine g_iload_3 (q := 206) C dX4_findBest_205 rfl ?_
    refine g_bipush (v := 121) (q := 208) C dX4_findBest_206 rfl (by decide) ?_
    refine g_icmp_ge (tgt := 250) (q := 211) C dX4_findBest_208 rfl (by decide) (fun c_208 => absurd c_208 (nI_ge (b := 121) (by omega) (by omega))) (fun c_208 => ?_)
    have hs := hr s (by omega)
    have hDok := DP_ok W hnP fv (Nat.le_refl nP)
    have hstep : bsD (DP pa fv nP) ov (s + 1 - ov) = bsD (DP pa fv nP) ov (s - ov + 1) := by rw [show s + 1 - ov = s - ov + 1 by omega]
    refine g_aload_0 (q := 212) C dX4_findBest_211 rfl ?_
    refine g_getc (q := 215) (m := 104) C f_X4_19 dX4_findBest_212 rfl rfl (IM.d I _ (by decide) (by decide)) ?_
    refine g_iload_3 (q := 216) C dX4_findBest_215 rfl ?_
    refine g_ia (q := 217) C dX4_findBest_216 rfl rfl (IM.d I _ (by decide) (by decide)) rfl (by omega) (by decide) ?_
    refine g_ldc (q := 219) C dX4_findBest_217 rfl k_X4_98 ?_
    refine g_icmp_ge (tgt := 244) (q := 222) C dX4_findBest_219 rfl (by decide) (fun c_219 => ?_) (fun c_219 => ?_)
    · refine g_iinc_3 (v := nI (s + 1)) (q := 247) C dX4_findBest_244 rfl (by rw [hN]; decide) (nI_1 s) ?_
      refine g_goto (tgt := 205) C dX4_findBest_247 (by decide) ?_
      cases hD : DP pa fv nP s with
      | none =>
        rw [hD] at hs
        first
          | exact absurd (by rw [hs.1]; decide) c_219
          | exact ih (s + 1) _ _ _ _ (by omega) (by omega) (by rw [hstep, bsD, show ov + (s - ov) = s by omega, hD]; exact hbv) 
      | some q =>
        rw [hD] at hs
        have hq := (hDok s q hD).1
        first
          | exact absurd c_219 (by rw [hs.1]; exact far_le hq)
          | exact ih (s + 1) _ _ _ _ (by omega) (by omega) (by rw [hstep, bsD, show ov + (s - ov) = s by omega, hD, bs_none hbv c_224 (by omega)]; rfl)
          | exact ih (s + 1) _ _ _ _ (by omega) (by omega) (by rw [hs.1, hw.1, nI_leI (by omega) (by omega)] at c_239; rw [hstep, bsD, show ov + (s - ov) = s by omega, hD, ew]; dsimp only; rw [if_neg (by omega)]; rfl)
          | exact ih (s + 1) _ _ _ _ (by omega) (by omega) (by rw [hs.1, hw.1, nI_leI (by omega) (by omega)] at c_239; rw [hstep, bsD, show ov + (s - ov) = s by omega, hD, ew]; dsimp only; rw [if_pos (by omega)]; rfl)
    · refine g_iload_2 (q := 223) C dX4_findBest_222 rfl ?_
      refine g_iconst (v := (-1)) (q := 224) C dX4_findBest_223 rfl (by decide) ?_
      refine g_icmp_eq (tgt := 242) (q := 227) C dX4_findBest_224 rfl (by decide) (fun c_224 => ?_) (fun c_224 => ?_)
      · refine g_iload_3 (q := 243) C dX4_findBest_242 rfl ?_
        refine g_istore_2 (q := 244) C dX4_findBest_243 rfl (by rw [hN]; decide) rfl ?_
        refine g_iinc_3 (v := nI (s + 1)) (q := 247) C dX4_findBest_244 rfl (by rw [hN]; decide) (nI_1 s) ?_
        refine g_goto (tgt := 205) C dX4_findBest_247 (by decide) ?_
        cases hD : DP pa fv nP s with
        | none =>
          rw [hD] at hs
          first
            | exact absurd (by rw [hs.1]; decide) c_219
            | exact ih (s + 1) _ _ _ _ (by omega) (by omega) (by rw [hstep, bsD, show ov + (s - ov) = s by omega, hD]; exact hbv) 
        | some q =>
          rw [hD] at hs
          have hq := (hDok s q hD).1
          first
            | exact absurd c_219 (by rw [hs.1]; exact far_le hq)
            | exact ih (s + 1) _ _ _ _ (by omega) (by omega) (by rw [hstep, bsD, show ov + (s - ov) = s by omega, hD, bs_none hbv c_224 (by omega)]; rfl)
            | exact ih (s + 1) _ _ _ _ (by omega) (by omega) (by rw [hs.1, hw.1, nI_leI (by omega) (by omega)] at c_239; rw [hstep, bsD, show ov + (s - ov) = s by omega, hD, ew]; dsimp only; rw [if_neg (by omega)]; rfl)
            | exact ih (s + 1) _ _ _ _ (by omega) (by omega) (by rw [hs.1, hw.1, nI_leI (by omega) (by omega)] at c_239; rw [hstep, bsD, show ov + (s - ov) = s by omega, hD, ew]; dsimp only; rw [if_pos (by omega)]; rfl)
      · obtain ⟨w, ew⟩ : ∃ w, bsD (DP pa fv nP) ov (s - ov) = some w := by
          cases h9 : bsD (DP pa fv nP) ov (s - ov) with
          | none => exact absurd (by rw [hbv, h9]; rfl) c_224
          | some w => exact ⟨w, rfl⟩
        obtain ⟨w1, w2, w3⟩ := bsD_in ew
        have hw := hr w.1 (by omega)
        rw [w1] at hw
        have hwb := (hDok w.1 w.2 w1).1
        have hbv2 : bv = nI w.1 := by rw [hbv, ew]; rfl
        subst hbv2
        refine g_aload_0 (q := 228) C dX4_findBest_227 rfl ?_
        refine g_getc (q := 231) (m := 104) C f_X4_19 dX4_findBest_228 rfl rfl (IM.d I _ (by decide) (by decide)) ?_
        refine g_iload_3 (q := 232) C dX4_findBest_231 rfl ?_
        refine g_ia (q := 233) C dX4_findBest_232 rfl rfl (IM.d I _ (by decide) (by decide)) rfl (by omega) (by decide) ?_
        refine g_aload_0 (q := 234) C dX4_findBest_233 rfl ?_
        refine g_getc (q := 237) (m := 104) C f_X4_19 dX4_findBest_234 rfl rfl (IM.d I _ (by decide) (by decide)) ?_
        refine g_iload_2 (q := 238) C dX4_findBest_237 rfl ?_
        refine g_ia (q := 239) C dX4_findBest_238 rfl rfl (IM.d I _ (by decide) (by decide)) rfl (by omega) (by decide) ?_
        refine g_icmp_ge (tgt := 244) (q := 242) C dX4_findBest_239 rfl (by decide) (fun c_239 => ?_) (fun c_239 => ?_)
        · refine g_iinc_3 (v := nI (s + 1)) (q := 247) C dX4_findBest_244 rfl (by rw [hN]; decide) (nI_1 s) ?_
          refine g_goto (tgt := 205) C dX4_findBest_247 (by decide) ?_
          cases hD : DP pa fv nP s with
          | none =>
            rw [hD] at hs
            first
              | exact absurd (by rw [hs.1]; decide) c_219
              | exact ih (s + 1) _ _ _ _ (by omega) (by omega) (by rw [hstep, bsD, show ov + (s - ov) = s by omega, hD]; exact hbv) 
          | some q =>
            rw [hD] at hs
            have hq := (hDok s q hD).1
            first
              | exact absurd c_219 (by rw [hs.1]; exact far_le hq)
              | exact ih (s + 1) _ _ _ _ (by omega) (by omega) (by rw [hstep, bsD, show ov + (s - ov) = s by omega, hD, bs_none hbv c_224 (by omega)]; rfl)
              | exact ih (s + 1) _ _ _ _ (by omega) (by omega) (by rw [hs.1, hw.1, nI_leI (by omega) (by omega)] at c_239; rw [hstep, bsD, show ov + (s - ov) = s by omega, hD, ew]; dsimp only; rw [if_neg (by omega)]; rfl)
              | exact ih (s + 1) _ _ _ _ (by omega) (by omega) (by rw [hs.1, hw.1, nI_leI (by omega) (by omega)] at c_239; rw [hstep, bsD, show ov + (s - ov) = s by omega, hD, ew]; dsimp only; rw [if_pos (by omega)]; rfl)
        · refine g_iload_3 (q := 243) C dX4_findBest_242 rfl ?_
          refine g_istore_2 (q := 244) C dX4_findBest_243 rfl (by rw [hN]; decide) rfl ?_
          refine g_iinc_3 (v := nI (s + 1)) (q := 247) C dX4_findBest_244 rfl (by rw [hN]; decide) (nI_1 s) ?_
          refine g_goto (tgt := 205) C dX4_findBest_247 (by decide) ?_
          cases hD : DP pa fv nP s with
          | none =>
            rw [hD] at hs
            first
              | exact absurd (by rw [hs.1]; decide) c_219
              | exact ih (s + 1) _ _ _ _ (by omega) (by omega) (by rw [hstep, bsD, show ov + (s - ov) = s by omega, hD]; exact hbv) 
          | some q =>
            rw [hD] at hs
            have hq := (hDok s q hD).1
            first
              | exact absurd c_219 (by rw [hs.1]; exact far_le hq)
              | exact ih (s + 1) _ _ _ _ (by omega) (by omega) (by rw [hstep, bsD, show ov + (s - ov) = s by omega, hD, bs_none hbv c_224 (by omega)]; rfl)
              | exact ih (s + 1) _ _ _ _ (by omega) (by omega) (by rw [hs.1, hw.1, nI_leI (by omega) (by omega)] at c_239; rw [hstep, bsD, show ov + (s - ov) = s by omega, hD, ew]; dsimp only; rw [if_neg (by omega)]; rfl)
              | exact ih (s + 1) _ _ _ _ (by omega) (by omega) (by rw [hs.1, hw.1, nI_leI (by omega) (by omega)] at c_239; rw [hstep, bsD, show ov + (s - ov) = s by omega, hD, ew]; dsimp only; rw [if_pos (by omega)]; rfl)
set_option maxHeartbeats 4000000 in
set_option maxRecDepth 100000 in
theorem fb_outer {E : EN} (C : CX E cX4_findBest yX4_findBest.cls 3) (hN : eN E = 7) {P : PO} (RT9 : RT E 0 0 (some .int) P) (I0 : IM dm a nF nP) (W : WP nF nP pa) (F : WF nF (a 101)) (hpa : pa = a 102) {f : Nat} (hf : f < nF) {fv : Int32} (hfv : fv = nI f) (hP : ∀ a0 : Nat → Nat → Int32, (∀ n, n ≠ 104 → n ≠ 105 → a0 n = a n) → (∀ k, k < 121 → rpM (a0 104) (a0 105) k (DP pa fv nP k)) → P (some (.int (enB (bsD (DP pa fv nP) (ovN (a 101) pa nP f) (121 - ovN (a 101) pa nP f))))) ad dm a0 b r) : ∀ (n p : Nat) (a0 : Nat → Nat → Int32) (e3 e4 e5 e6 : Option Value), p + n = nP → (∀ n, n ≠ 104 → n ≠ 105 → a0 n = a n) → (∀ k, k < 121 → rpM (a0 104) (a0 105) k (DP pa fv p k)) → G E 0 0 ad dm a0 b r 39 [some (.ref (ad 100)), some (.int fv), some (.int (nI p)), e3, e4, e5, e6] [] := by
  have hnF := I0.2.2.1
  have hnP := I0.2.2.2.2
  subst hfv
  intro n
  induction n with
  | zero =>
    intro p a0 e3 e4 e5 e6 hn hfr hr
    have I := I0.fr hfr
    refine g_iload_2 (q := 40) C dX4_findBest_39 rfl ?_
    refine g_aload_0 (q := 41) C dX4_findBest_40 rfl ?_
    refine g_geti (q := 44) C f_X4_63 dX4_findBest_41 rfl rfl (IM.d I _ (by decide) (by decide)) ?_
    refine g_icmp_ge (tgt := 197) (q := 47) C dX4_findBest_44 rfl (by decide) (fun c_44 => ?_) (fun c_44 => absurd (by rw [I.nP]; exact nI_le (by omega) (by omega)) c_44)
    refine g_iconst (v := (-1)) (q := 198) C dX4_findBest_197 rfl (by decide) ?_
    refine g_istore_2 (q := 199) C dX4_findBest_198 rfl (by rw [hN]; decide) rfl ?_
    refine g_aload_0 (q := 200) C dX4_findBest_199 rfl ?_
    refine g_iload_1 (q := 201) C dX4_findBest_200 rfl ?_
    refine g_cv1i (q := 204) C cv_X4_86 dX4_findBest_201 rfl rfl (IM.d I _ (by decide) (by decide)) (m_X4_over I (by assumption) rfl) (by decide) (Nat.le_of_ble_eq_true rfl) ⟨Nat.zero_le _, Nat.zero_le _⟩ ?_
    refine g_istore_3 (q := 205) C dX4_findBest_204 rfl (by rw [hN]; decide) rfl ?_
    have e9 : p = nP := by omega
    subst e9
    have ho9 := ovN_le (fl := a 101) W (f := f)
    rw [show ovS (a0 101) (a0 102) p f = nI (ovN (a 101) pa p f) by rw [hfr 101 (by decide) (by decide), hfr 102 (by decide) (by decide), ← hpa]; exact ovS_N W F hnP hf]
    exact fb_scan C hN RT9 I W (by omega) hr (hP a0 hfr hr) (121 - ovN (a 101) pa p f) _ _ _ _ _ (by omega) (Nat.le_refl _) (by rw [Nat.sub_self]; rfl)
  | succ n ih =>
    intro p a0 e3 e4 e5 e6 hn hfr hr
    have I := I0.fr hfr
    have hpp : p < nP := by omega
    have hz := sz_ok W hpp
    have hmg0 : mgS (a0 102) (nI f) p = mgS pa (nI f) p := by rw [hfr 102 (by decide) (by decide), hpa]
    have hsz0 : a0 102 (9 * p + 1) = nI (szN pa p) := by rw [hfr 102 (by decide) (by decide), ← hpa]; exact hz.1
    refine g_iload_2 (q := 40) C dX4_findBest_39 rfl ?_
    refine g_aload_0 (q := 41) C dX4_findBest_40 rfl ?_
    refine g_geti (q := 44) C f_X4_63 dX4_findBest_41 rfl rfl (IM.d I _ (by decide) (by decide)) ?_
    refine g_icmp_ge (tgt := 197) (q := 47) C dX4_findBest_44 rfl (by decide) (fun c_44 => absurd c_44 (by rw [I.nP]; exact nI_ge (by omega) (by omega))) (fun c_44 => ?_)
    refine g_aload_0 (q := 48) C dX4_findBest_47 rfl ?_
    refine g_iload_2 (q := 49) C dX4_findBest_48 rfl ?_
    refine g_iload_1 (q := 50) C dX4_findBest_49 rfl ?_
    refine g_cv2i (q := 53) C cv_X4_99 dX4_findBest_50 rfl rfl (IM.d I _ (by decide) (by decide)) (m_X4_mayGive I (by assumption) rfl _) (by decide) (Nat.le_of_ble_eq_true rfl) ⟨Nat.zero_le _, Nat.zero_le _⟩ ?_
    refine g_ifneb (tgt := 59) (q := 56) C dX4_findBest_53 rfl (by decide) (fun c_53 => ?_) (fun c_53 => ?_)
    · rw [hmg0] at c_53
      refine g_aload_0 (q := 60) C dX4_findBest_59 rfl ?_
      refine g_iload_2 (q := 61) C dX4_findBest_60 rfl ?_
      refine g_iconst (v := 1) (q := 62) C dX4_findBest_61 rfl (by decide) ?_
      refine g_cv2i (q := 65) C cv_X4_70 dX4_findBest_62 rfl rfl (IM.d I _ (by decide) (by decide)) (m_X4_get I (k := 1) (by omega) rfl rfl) (by decide) (Nat.le_of_ble_eq_true rfl) ⟨Nat.zero_le _, Nat.zero_le _⟩ ?_
      rw [hsz0]
      refine g_istore_3 (q := 66) C dX4_findBest_65 rfl (by rw [hN]; decide) rfl ?_
      refine g_bipush (v := 120) (q := 68) C dX4_findBest_66 rfl (by decide) ?_
      refine g_istore_4 (q := 70) C dX4_findBest_68 rfl (by rw [hN]; decide) rfl ?_
      exact fb_inner C hN I0 W hpa hpp rfl hz.2.1 hz.2.2 c_53 (fun a2 sv f5 f6 hfr2 hr2 => by
        have I := I0.fr hfr2
        refine g_iinc_2 (v := nI (p + 1)) (q := 194) C dX4_findBest_191 rfl (by rw [hN]; decide) (nI_1 p) ?_
        refine g_goto (tgt := 39) C dX4_findBest_194 (by decide) ?_
        exact ih (p + 1) a2 _ _ _ _ (by omega) hfr2 hr2) 121 a0 _ _ _ (by omega) rfl hfr (fun k h1 h2 => hr k h1) (fun k h1 h2 => by omega)
    · refine g_goto (tgt := 191) C dX4_findBest_56 (by decide) ?_
      refine g_iinc_2 (v := nI (p + 1)) (q := 194) C dX4_findBest_191 rfl (by rw [hN]; decide) (nI_1 p) ?_
      refine g_goto (tgt := 39) C dX4_findBest_194 (by decide) ?_
      exact ih (p + 1) a0 _ _ _ _ (by omega) hfr (fun k hk9 => by rw [DP_n (by rw [← hmg0]; exact c_53)]; exact hr k hk9)
end D25
