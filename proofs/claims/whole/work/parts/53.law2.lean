/-! the law: calls of two ends -/
section L53
variable {E : EN} {ad : Nat → Nat} {dm : Nat → Bool} {a : Nat → Nat → Int32} {b : Nat → Nat → Int64} {r : Nat → Nat → Option Nat} {nF nP : Nat} {fl pa nu : Nat → Int32} {bb L t : Nat} {xs : Nat → Int32}
set_option maxHeartbeats 4000000 in
set_option maxRecDepth 100000 in
theorem law_0 {e5 e6 : Option Value} (LW : LX E bb L xs) (ht : 7 * t + 7 ≤ L) (h : LV nF nP fl pa nu dm a r) (hk : ∀ (ad' : Nat → Nat) (dm' : Nat → Bool) (a' : Nat → Nat → Int32) (b' : Nat → Nat → Int64) (r' : Nat → Nat → Option Nat) (e5 e6 : Option Value), LVx dm' a' r' → G E (102 + 2 * t) (3018 + 18 * t) ad' dm' a' b' r' 753 [some (.ref bb), some (.ref (ad' 0)), some (.ref (ad' 100)), some (.ref (ad' 120)), some (.int (nI (7 * t))), e5, e6] []) : G E (100 + 2 * t) (3000 + 18 * t) ad dm a b r 120 [some (.ref bb), some (.ref (ad 0)), some (.ref (ad 100)), some (.ref (ad 120)), some (.int (nI (7 * t))), e5, e6] [] := by
  obtain ⟨X, I, ⟨e1, e2, e3⟩, ⟨W, F, N⟩, B, dF, dP, d8, d9, d0⟩ := id h
  obtain ⟨C, -, -, -, hRc, hRs, hL, hN⟩ := id LW
  have hnF := X.1.1
  have hnP := X.1.2.1
  cases hK : flK nF (xs (7 * t + 1)) (xs (7 * t + 2)) (xs (7 * t + 3)) (xs (7 * t + 4)) (xs (7 * t + 5)) (xs (7 * t + 6)) with
  | true =>
    refine g_aload_1 (q := 121) C dL_law_120 rfl ?_
    refine g_aload_0 (q := 122) C dL_law_121 rfl ?_
    refine g_iload_4 (q := 124) C dL_law_122 rfl ?_
    refine g_iconst (v := 1) (q := 125) C dL_law_124 rfl (by decide) ?_
    refine g_iadd (q := 126) C dL_law_125 rfl ?_
    refine g_sld (q := 127) (j := 7 * t + 1) LW dL_law_126 rfl (nI_add (7 * t) 1) (by omega) ?_
    refine g_aload_0 (q := 128) C dL_law_127 rfl ?_
    refine g_iload_4 (q := 130) C dL_law_128 rfl ?_
    refine g_iconst (v := 2) (q := 131) C dL_law_130 rfl (by decide) ?_
    refine g_iadd (q := 132) C dL_law_131 rfl ?_
    refine g_sld (q := 133) (j := 7 * t + 2) LW dL_law_132 rfl (nI_add (7 * t) 2) (by omega) ?_
    refine g_aload_0 (q := 134) C dL_law_133 rfl ?_
    refine g_iload_4 (q := 136) C dL_law_134 rfl ?_
    refine g_iconst (v := 3) (q := 137) C dL_law_136 rfl (by decide) ?_
    refine g_iadd (q := 138) C dL_law_137 rfl ?_
    refine g_sld (q := 139) (j := 7 * t + 3) LW dL_law_138 rfl (nI_add (7 * t) 3) (by omega) ?_
    refine g_aload_0 (q := 140) C dL_law_139 rfl ?_
    refine g_iload_4 (q := 142) C dL_law_140 rfl ?_
    refine g_iconst (v := 4) (q := 143) C dL_law_142 rfl (by decide) ?_
    refine g_iadd (q := 144) C dL_law_143 rfl ?_
    refine g_sld (q := 145) (j := 7 * t + 4) LW dL_law_144 rfl (nI_add (7 * t) 4) (by omega) ?_
    refine g_aload_0 (q := 146) C dL_law_145 rfl ?_
    refine g_iload_4 (q := 148) C dL_law_146 rfl ?_
    refine g_iconst (v := 5) (q := 149) C dL_law_148 rfl (by decide) ?_
    refine g_iadd (q := 150) C dL_law_149 rfl ?_
    refine g_sld (q := 151) (j := 7 * t + 5) LW dL_law_150 rfl (nI_add (7 * t) 5) (by omega) ?_
    refine g_aload_0 (q := 152) C dL_law_151 rfl ?_
    refine g_iload_4 (q := 154) C dL_law_152 rfl ?_
    refine g_bipush (v := 6) (q := 156) C dL_law_154 rfl (by decide) ?_
    refine g_iadd (q := 157) C dL_law_156 rfl ?_
    refine g_sld (q := 158) (j := 7 * t + 6) LW dL_law_157 rfl (nI_add (7 * t) 6) (by omega) ?_
    refine g_cv6g (q := 161) C cv_L_19 dL_law_158 rfl rfl (IX.d0 X.1 _ (by decide)) (m_X3_flight X B (dF nF (Nat.le_refl _) (by omega)) _ _ _ _ _ _) (by decide) (Nat.le_of_ble_eq_true rfl) ⟨by rw [hRc]; omega, by rw [hRs]; omega⟩ (fun v ad' dm' a' b' r' hp => ?_)
    obtain ⟨-, rfl, had, rfl, X2, B2, fr, hb1⟩ := hp.resolve_right (fun z => by rw [z.1] at hK; cases hK)
    change G E _ _ ad' _ a' b' r' 161 _ [.int (nI nF)]
    rw [← had 0 (by omega), ← had 100 (by omega), ← had 120 (by omega)]
    have I2 : IM (va_up dm (20 + nF) true) a' nF nP := ⟨fun n n1 n2 => by rw [va_up_ne _ _ (by omega)]; exact I.1 n n1 n2, by rw [fr 100 (by decide)]; exact I.2.1, I.2.2.1, by rw [fr 100 (by decide)]; exact I.2.2.2.1, I.2.2.2.2⟩
    have hF8 := X2.1.1
    refine g_aload_2 (q := 162) C dL_law_161 rfl ?_
    refine g_aload_0 (q := 163) C dL_law_162 rfl ?_
    refine g_iload_4 (q := 165) C dL_law_163 rfl ?_
    refine g_iconst (v := 1) (q := 166) C dL_law_165 rfl (by decide) ?_
    refine g_iadd (q := 167) C dL_law_166 rfl ?_
    refine g_sld (q := 168) (j := 7 * t + 1) LW dL_law_167 rfl (nI_add (7 * t) 1) (by omega) ?_
    refine g_aload_0 (q := 169) C dL_law_168 rfl ?_
    refine g_iload_4 (q := 171) C dL_law_169 rfl ?_
    refine g_iconst (v := 2) (q := 172) C dL_law_171 rfl (by decide) ?_
    refine g_iadd (q := 173) C dL_law_172 rfl ?_
    refine g_sld (q := 174) (j := 7 * t + 2) LW dL_law_173 rfl (nI_add (7 * t) 2) (by omega) ?_
    refine g_aload_0 (q := 175) C dL_law_174 rfl ?_
    refine g_iload_4 (q := 177) C dL_law_175 rfl ?_
    refine g_iconst (v := 3) (q := 178) C dL_law_177 rfl (by decide) ?_
    refine g_iadd (q := 179) C dL_law_178 rfl ?_
    refine g_sld (q := 180) (j := 7 * t + 3) LW dL_law_179 rfl (nI_add (7 * t) 3) (by omega) ?_
    refine g_aload_0 (q := 181) C dL_law_180 rfl ?_
    refine g_iload_4 (q := 183) C dL_law_181 rfl ?_
    refine g_iconst (v := 4) (q := 184) C dL_law_183 rfl (by decide) ?_
    refine g_iadd (q := 185) C dL_law_184 rfl ?_
    refine g_sld (q := 186) (j := 7 * t + 4) LW dL_law_185 rfl (nI_add (7 * t) 4) (by omega) ?_
    refine g_aload_0 (q := 187) C dL_law_186 rfl ?_
    refine g_iload_4 (q := 189) C dL_law_187 rfl ?_
    refine g_iconst (v := 5) (q := 190) C dL_law_189 rfl (by decide) ?_
    refine g_iadd (q := 191) C dL_law_190 rfl ?_
    refine g_sld (q := 192) (j := 7 * t + 5) LW dL_law_191 rfl (nI_add (7 * t) 5) (by omega) ?_
    refine g_aload_0 (q := 193) C dL_law_192 rfl ?_
    refine g_iload_4 (q := 195) C dL_law_193 rfl ?_
    refine g_bipush (v := 6) (q := 197) C dL_law_195 rfl (by decide) ?_
    refine g_iadd (q := 198) C dL_law_197 rfl ?_
    refine g_sld (q := 199) (j := 7 * t + 6) LW dL_law_198 rfl (nI_add (7 * t) 6) (by omega) ?_
    refine g_cv6g (q := 202) C cv_L_23 dL_law_199 rfl rfl (IM.d I2 _ (by decide) (by decide)) (m_X4_flight I2 rfl (by rw [va_up_ne _ _ (by omega)]; exact d8) (B2.NR hF8 hnP) _ _ _ _ _ _) (by decide) (Nat.le_of_ble_eq_true rfl) ⟨by rw [hRc]; omega, by rw [hRs]; omega⟩ (fun v ad' dm' a' b' r' hp => ?_)
    obtain ⟨q1, q2, q4, q5, hp⟩ := hp
    obtain ⟨-, rfl, rfl⟩ := hp.resolve_right (fun z => by rw [z.1] at hK; cases hK)
    have q1 := q1.symm
    have q2 := q2.symm
    have q4 := q4.symm
    have q5 := q5.symm
    subst q1 q2 q4 q5
    change G E _ _ _ _ _ _ _ 202 _ [.int (nI nF), .int (nI nF)]
    refine g_icmp_eq (tgt := 753) (q := 205) C dL_law_202 rfl (by decide) (fun c_202 => ?_) (fun c_202 => absurd rfl c_202)
    refine g_wide (cl' := 102 + 2 * t) (sl' := 3018 + 18 * t) (by omega) (by omega) ?_
    refine hk _ _ _ _ _ _ _ ⟨nF + 1, nP, _, pa, nu, XR_a X2 (fun m hm => by rw [up1_n (by omega), u2_n (by omega), u2_n (by omega)]), ⟨I2.1, by rw [up1_n (by decide), u2_s], hF8, by rw [up1_n (by decide), u2_k (by decide), u2_k (by decide)]; exact I2.2.2.2.1, I2.2.2.2.2⟩, ⟨by rw [up1_s, u2_n (by decide), fr 101 (by decide), e1], by rw [up1_n (by decide), u2_n (by decide), u2_n (by decide), fr 102 (by decide)]; exact e2, by rw [up1_n (by decide), u2_n (by decide), u2_n (by decide), fr 103 (by decide)]; exact e3⟩, ⟨WP_up W, WF_fl F hK, N⟩, B2, fun i i1 i2 => by rw [va_up_ne _ _ (by omega)]; exact dF i (by omega) i2, fun j j1 j2 => by rw [va_up_ne _ _ (by omega)]; exact dP j j1 j2, by rw [va_up_ne _ _ (by omega)]; exact d8, by rw [va_up_ne _ _ (by omega)]; exact d9, by rw [va_up_ne _ _ (by omega)]; exact d0⟩
  | false =>
    refine g_aload_1 (q := 121) C dL_law_120 rfl ?_
    refine g_aload_0 (q := 122) C dL_law_121 rfl ?_
    refine g_iload_4 (q := 124) C dL_law_122 rfl ?_
    refine g_iconst (v := 1) (q := 125) C dL_law_124 rfl (by decide) ?_
    refine g_iadd (q := 126) C dL_law_125 rfl ?_
    refine g_sld (q := 127) (j := 7 * t + 1) LW dL_law_126 rfl (nI_add (7 * t) 1) (by omega) ?_
    refine g_aload_0 (q := 128) C dL_law_127 rfl ?_
    refine g_iload_4 (q := 130) C dL_law_128 rfl ?_
    refine g_iconst (v := 2) (q := 131) C dL_law_130 rfl (by decide) ?_
    refine g_iadd (q := 132) C dL_law_131 rfl ?_
    refine g_sld (q := 133) (j := 7 * t + 2) LW dL_law_132 rfl (nI_add (7 * t) 2) (by omega) ?_
    refine g_aload_0 (q := 134) C dL_law_133 rfl ?_
    refine g_iload_4 (q := 136) C dL_law_134 rfl ?_
    refine g_iconst (v := 3) (q := 137) C dL_law_136 rfl (by decide) ?_
    refine g_iadd (q := 138) C dL_law_137 rfl ?_
    refine g_sld (q := 139) (j := 7 * t + 3) LW dL_law_138 rfl (nI_add (7 * t) 3) (by omega) ?_
    refine g_aload_0 (q := 140) C dL_law_139 rfl ?_
    refine g_iload_4 (q := 142) C dL_law_140 rfl ?_
    refine g_iconst (v := 4) (q := 143) C dL_law_142 rfl (by decide) ?_
    refine g_iadd (q := 144) C dL_law_143 rfl ?_
    refine g_sld (q := 145) (j := 7 * t + 4) LW dL_law_144 rfl (nI_add (7 * t) 4) (by omega) ?_
    refine g_aload_0 (q := 146) C dL_law_145 rfl ?_
    refine g_iload_4 (q := 148) C dL_law_146 rfl ?_
    refine g_iconst (v := 5) (q := 149) C dL_law_148 rfl (by decide) ?_
    refine g_iadd (q := 150) C dL_law_149 rfl ?_
    refine g_sld (q := 151) (j := 7 * t + 5) LW dL_law_150 rfl (nI_add (7 * t) 5) (by omega) ?_
    refine g_aload_0 (q := 152) C dL_law_151 rfl ?_
    refine g_iload_4 (q := 154) C dL_law_152 rfl ?_
    refine g_bipush (v := 6) (q := 156) C dL_law_154 rfl (by decide) ?_
    refine g_iadd (q := 157) C dL_law_156 rfl ?_
    refine g_sld (q := 158) (j := 7 * t + 6) LW dL_law_157 rfl (nI_add (7 * t) 6) (by omega) ?_
    refine g_cv6g (q := 161) C cv_L_19 dL_law_158 rfl rfl (IX.d0 X.1 _ (by decide)) (m_X3_flight X B (dF nF (Nat.le_refl _) (by omega)) _ _ _ _ _ _) (by decide) (Nat.le_of_ble_eq_true rfl) ⟨by rw [hRc]; omega, by rw [hRs]; omega⟩ (fun v ad' dm' a' b' r' hp => ?_)
    obtain ⟨-, rfl, q1, q2, q3, q4, q5⟩ := hp.resolve_left (fun z => by rw [z.1] at hK; cases hK)
    have q1 := q1.symm
    have q2 := q2.symm
    have q3 := q3.symm
    have q4 := q4.symm
    have q5 := q5.symm
    subst q1 q2 q3 q4 q5
    change G E _ _ _ _ _ _ _ 161 _ [.int (-1)]
    refine g_aload_2 (q := 162) C dL_law_161 rfl ?_
    refine g_aload_0 (q := 163) C dL_law_162 rfl ?_
    refine g_iload_4 (q := 165) C dL_law_163 rfl ?_
    refine g_iconst (v := 1) (q := 166) C dL_law_165 rfl (by decide) ?_
    refine g_iadd (q := 167) C dL_law_166 rfl ?_
    refine g_sld (q := 168) (j := 7 * t + 1) LW dL_law_167 rfl (nI_add (7 * t) 1) (by omega) ?_
    refine g_aload_0 (q := 169) C dL_law_168 rfl ?_
    refine g_iload_4 (q := 171) C dL_law_169 rfl ?_
    refine g_iconst (v := 2) (q := 172) C dL_law_171 rfl (by decide) ?_
    refine g_iadd (q := 173) C dL_law_172 rfl ?_
    refine g_sld (q := 174) (j := 7 * t + 2) LW dL_law_173 rfl (nI_add (7 * t) 2) (by omega) ?_
    refine g_aload_0 (q := 175) C dL_law_174 rfl ?_
    refine g_iload_4 (q := 177) C dL_law_175 rfl ?_
    refine g_iconst (v := 3) (q := 178) C dL_law_177 rfl (by decide) ?_
    refine g_iadd (q := 179) C dL_law_178 rfl ?_
    refine g_sld (q := 180) (j := 7 * t + 3) LW dL_law_179 rfl (nI_add (7 * t) 3) (by omega) ?_
    refine g_aload_0 (q := 181) C dL_law_180 rfl ?_
    refine g_iload_4 (q := 183) C dL_law_181 rfl ?_
    refine g_iconst (v := 4) (q := 184) C dL_law_183 rfl (by decide) ?_
    refine g_iadd (q := 185) C dL_law_184 rfl ?_
    refine g_sld (q := 186) (j := 7 * t + 4) LW dL_law_185 rfl (nI_add (7 * t) 4) (by omega) ?_
    refine g_aload_0 (q := 187) C dL_law_186 rfl ?_
    refine g_iload_4 (q := 189) C dL_law_187 rfl ?_
    refine g_iconst (v := 5) (q := 190) C dL_law_189 rfl (by decide) ?_
    refine g_iadd (q := 191) C dL_law_190 rfl ?_
    refine g_sld (q := 192) (j := 7 * t + 5) LW dL_law_191 rfl (nI_add (7 * t) 5) (by omega) ?_
    refine g_aload_0 (q := 193) C dL_law_192 rfl ?_
    refine g_iload_4 (q := 195) C dL_law_193 rfl ?_
    refine g_bipush (v := 6) (q := 197) C dL_law_195 rfl (by decide) ?_
    refine g_iadd (q := 198) C dL_law_197 rfl ?_
    refine g_sld (q := 199) (j := 7 * t + 6) LW dL_law_198 rfl (nI_add (7 * t) 6) (by omega) ?_
    refine g_cv6g (q := 202) C cv_L_23 dL_law_199 rfl rfl (IM.d I _ (by decide) (by decide)) (m_X4_flight I rfl d8 (B.NR hnF hnP) _ _ _ _ _ _) (by decide) (Nat.le_of_ble_eq_true rfl) ⟨by rw [hRc]; omega, by rw [hRs]; omega⟩ (fun v ad' dm' a' b' r' hp => ?_)
    obtain ⟨q1, q2, q4, q5, hp⟩ := hp
    obtain ⟨-, rfl, rfl⟩ := hp.resolve_left (fun z => by rw [z.1] at hK; cases hK)
    have q1 := q1.symm
    have q2 := q2.symm
    have q4 := q4.symm
    have q5 := q5.symm
    subst q1 q2 q4 q5
    change G E _ _ _ _ _ _ _ 202 _ [.int (-1), .int (-1)]
    refine g_icmp_eq (tgt := 753) (q := 205) C dL_law_202 rfl (by decide) (fun c_202 => ?_) (fun c_202 => absurd rfl c_202)
    refine g_wide (cl' := 102 + 2 * t) (sl' := 3018 + 18 * t) (by omega) (by omega) ?_
    exact hk ad dm _ b r _ _ (LV_s h X ⟨W, F, N⟩ B (fun m hm => u2_n (by omega)) ⟨u2_k (by decide) _, u2_k (by decide) _⟩ ⟨by rw [u2_n (by decide)]; exact e1, by rw [u2_n (by decide)]; exact e2, by rw [u2_n (by decide)]; exact e3⟩)
set_option maxHeartbeats 4000000 in
set_option maxRecDepth 100000 in
theorem law_1 {e5 e6 : Option Value} (LW : LX E bb L xs) (ht : 7 * t + 7 ≤ L) (h : LV nF nP fl pa nu dm a r) (hk : ∀ (ad' : Nat → Nat) (dm' : Nat → Bool) (a' : Nat → Nat → Int32) (b' : Nat → Nat → Int64) (r' : Nat → Nat → Option Nat) (e5 e6 : Option Value), LVx dm' a' r' → G E (102 + 2 * t) (3018 + 18 * t) ad' dm' a' b' r' 753 [some (.ref bb), some (.ref (ad' 0)), some (.ref (ad' 100)), some (.ref (ad' 120)), some (.int (nI (7 * t))), e5, e6] []) : G E (100 + 2 * t) (3000 + 18 * t) ad dm a b r 207 [some (.ref bb), some (.ref (ad 0)), some (.ref (ad 100)), some (.ref (ad 120)), some (.int (nI (7 * t))), e5, e6] [] := by
  obtain ⟨X, I, ⟨e1, e2, e3⟩, ⟨W, F, N⟩, B, dF, dP, d8, d9, d0⟩ := id h
  obtain ⟨C, -, -, -, hRc, hRs, hL, hN⟩ := id LW
  have hnF := X.1.1
  have hnP := X.1.2.1
  cases hK : fok nF (xs (7 * t + 1)) with
  | true =>
    obtain ⟨i, hi, ei⟩ := fok_t hK (by omega)
    have hcn : cN (xs (7 * t + 1)) = i := by rw [ei, cN_nI (by omega)]
    have hfr : ∀ (z : Int32) (m : Nat), 100 ≤ m → u2 a (20 + i) 7 z m = a m := fun z m hm => u2_n (by omega)
    refine g_aload_1 (q := 208) C dL_law_207 rfl ?_
    refine g_aload_0 (q := 209) C dL_law_208 rfl ?_
    refine g_iload_4 (q := 211) C dL_law_209 rfl ?_
    refine g_iconst (v := 1) (q := 212) C dL_law_211 rfl (by decide) ?_
    refine g_iadd (q := 213) C dL_law_212 rfl ?_
    refine g_sld (q := 214) (j := 7 * t + 1) LW dL_law_213 rfl (nI_add (7 * t) 1) (by omega) ?_
    refine g_aload_0 (q := 215) C dL_law_214 rfl ?_
    refine g_iload_4 (q := 217) C dL_law_215 rfl ?_
    refine g_iconst (v := 2) (q := 218) C dL_law_217 rfl (by decide) ?_
    refine g_iadd (q := 219) C dL_law_218 rfl ?_
    refine g_sld (q := 220) (j := 7 * t + 2) LW dL_law_219 rfl (nI_add (7 * t) 2) (by omega) ?_
    refine g_if_eq (tgt := 227) (q := 223) C dL_law_220 rfl (by decide) (fun c_220 => ?_) (fun c_220 => ?_)
    · refine g_iconst (v := 0) (q := 228) C dL_law_227 rfl (by decide) ?_
      refine g_cv2g (q := 231) C cv_L_24 dL_law_228 rfl rfl (IX.d0 X.1 _ (by decide)) (m_X3_off X _ _ (by first | exact Or.inl rfl | exact Or.inr rfl)) (by decide) (Nat.le_of_ble_eq_true rfl) ⟨by rw [hRc]; omega, by rw [hRs]; omega⟩ (fun v ad' dm' a' b' r' hp => ?_)
      obtain ⟨q1, q2, q4, q5, hp⟩ := hp
      obtain ⟨-, rfl, rfl⟩ := hp.resolve_right (fun z => by rw [z.1] at hK; cases hK)
      have q1 := q1.symm
      have q2 := q2.symm
      have q4 := q4.symm
      have q5 := q5.symm
      subst q1 q2 q4 q5
      rw [hcn]
      have Iz := fun (z : Int32) => IM_fr (a' := u2 a (20 + i) 7 z) I (hfr z 100 (by decide))
      change G E _ _ _ _ _ _ _ 231 _ [.int 1]
      refine g_aload_2 (q := 232) C dL_law_231 rfl ?_
      refine g_aload_0 (q := 233) C dL_law_232 rfl ?_
      refine g_iload_4 (q := 235) C dL_law_233 rfl ?_
      refine g_iconst (v := 1) (q := 236) C dL_law_235 rfl (by decide) ?_
      refine g_iadd (q := 237) C dL_law_236 rfl ?_
      refine g_sld (q := 238) (j := 7 * t + 1) LW dL_law_237 rfl (nI_add (7 * t) 1) (by omega) ?_
      refine g_aload_0 (q := 239) C dL_law_238 rfl ?_
      refine g_iload_4 (q := 241) C dL_law_239 rfl ?_
      refine g_iconst (v := 2) (q := 242) C dL_law_241 rfl (by decide) ?_
      refine g_iadd (q := 243) C dL_law_242 rfl ?_
      refine g_sld (q := 244) (j := 7 * t + 2) LW dL_law_243 rfl (nI_add (7 * t) 2) (by omega) ?_
      refine g_if_eq (tgt := 251) (q := 247) C dL_law_244 rfl (by decide) (fun c_244 => ?_) (fun c_244 => ?_)
      · refine g_iconst (v := 0) (q := 252) C dL_law_251 rfl (by decide) ?_
        refine g_cv2g (q := 255) C cv_L_28 dL_law_252 rfl rfl (IM.d I _ (by decide) (by decide)) (m_X4_off (Iz _) rfl _ _) (by decide) (Nat.le_of_ble_eq_true rfl) ⟨by rw [hRc]; omega, by rw [hRs]; omega⟩ (fun v ad' dm' a' b' r' hp => ?_)
        obtain ⟨q1, q2, q4, q5, hp⟩ := hp
        obtain ⟨-, rfl, rfl⟩ := hp.resolve_right (fun z => by rw [z.1] at hK; cases hK)
        have q1 := q1.symm
        have q2 := q2.symm
        have q4 := q4.symm
        have q5 := q5.symm
        subst q1 q2 q4 q5
        rw [hcn]
        change G E _ _ _ _ _ _ _ 255 _ [.int 1, .int 1]
        refine g_icmp_eq (tgt := 753) (q := 258) C dL_law_255 rfl (by decide) (fun c_255 => ?_) (fun c_255 => absurd rfl c_255)
        first
          | exact absurd c_220 c_244
          | exact absurd c_244 c_220
          | (refine g_wide (cl' := 102 + 2 * t) (sl' := 3018 + 18 * t) (by omega) (by omega) ?_
             exact hk ad dm _ b r _ _ (LV_s h (XR_off X hi (z := 0)) ⟨W, WF_off F (f := i) (z := 0) (by first | exact Or.inl rfl | exact Or.inr rfl), N⟩ B (fun m hm => by rw [u2_n (by omega), u2_n (by omega)]) ⟨by rw [u2_n (by decide), u2_k (by decide), hfr _ 100 (by decide)], by rw [u2_n (by decide), u2_k (by decide), hfr _ 100 (by decide)]⟩ ⟨by rw [u2_ud, u2_n (show (101 : Nat) ≠ 100 by decide), hfr _ 101 (by decide), e1]; rfl, by rw [u2_n (by decide), u2_n (by decide), hfr _ 102 (by decide)]; exact e2, by rw [u2_n (by decide), u2_n (by decide), hfr _ 103 (by decide)]; exact e3⟩))
          | (refine g_wide (cl' := 102 + 2 * t) (sl' := 3018 + 18 * t) (by omega) (by omega) ?_
             exact hk ad dm _ b r _ _ (LV_s h (XR_off X hi (z := 1)) ⟨W, WF_off F (f := i) (z := 1) (by first | exact Or.inl rfl | exact Or.inr rfl), N⟩ B (fun m hm => by rw [u2_n (by omega), u2_n (by omega)]) ⟨by rw [u2_n (by decide), u2_k (by decide), hfr _ 100 (by decide)], by rw [u2_n (by decide), u2_k (by decide), hfr _ 100 (by decide)]⟩ ⟨by rw [u2_ud, u2_n (show (101 : Nat) ≠ 100 by decide), hfr _ 101 (by decide), e1]; rfl, by rw [u2_n (by decide), u2_n (by decide), hfr _ 102 (by decide)]; exact e2, by rw [u2_n (by decide), u2_n (by decide), hfr _ 103 (by decide)]; exact e3⟩))
      · refine g_iconst (v := 1) (q := 248) C dL_law_247 rfl (by decide) ?_
        refine g_goto (tgt := 252) C dL_law_248 (by decide) ?_
        refine g_cv2g (q := 255) C cv_L_28 dL_law_252 rfl rfl (IM.d I _ (by decide) (by decide)) (m_X4_off (Iz _) rfl _ _) (by decide) (Nat.le_of_ble_eq_true rfl) ⟨by rw [hRc]; omega, by rw [hRs]; omega⟩ (fun v ad' dm' a' b' r' hp => ?_)
        obtain ⟨q1, q2, q4, q5, hp⟩ := hp
        obtain ⟨-, rfl, rfl⟩ := hp.resolve_right (fun z => by rw [z.1] at hK; cases hK)
        have q1 := q1.symm
        have q2 := q2.symm
        have q4 := q4.symm
        have q5 := q5.symm
        subst q1 q2 q4 q5
        rw [hcn]
        change G E _ _ _ _ _ _ _ 255 _ [.int 1, .int 1]
        refine g_icmp_eq (tgt := 753) (q := 258) C dL_law_255 rfl (by decide) (fun c_255 => ?_) (fun c_255 => absurd rfl c_255)
        first
          | exact absurd c_220 c_244
          | exact absurd c_244 c_220
          | (refine g_wide (cl' := 102 + 2 * t) (sl' := 3018 + 18 * t) (by omega) (by omega) ?_
             exact hk ad dm _ b r _ _ (LV_s h (XR_off X hi (z := 0)) ⟨W, WF_off F (f := i) (z := 0) (by first | exact Or.inl rfl | exact Or.inr rfl), N⟩ B (fun m hm => by rw [u2_n (by omega), u2_n (by omega)]) ⟨by rw [u2_n (by decide), u2_k (by decide), hfr _ 100 (by decide)], by rw [u2_n (by decide), u2_k (by decide), hfr _ 100 (by decide)]⟩ ⟨by rw [u2_ud, u2_n (show (101 : Nat) ≠ 100 by decide), hfr _ 101 (by decide), e1]; rfl, by rw [u2_n (by decide), u2_n (by decide), hfr _ 102 (by decide)]; exact e2, by rw [u2_n (by decide), u2_n (by decide), hfr _ 103 (by decide)]; exact e3⟩))
          | (refine g_wide (cl' := 102 + 2 * t) (sl' := 3018 + 18 * t) (by omega) (by omega) ?_
             exact hk ad dm _ b r _ _ (LV_s h (XR_off X hi (z := 1)) ⟨W, WF_off F (f := i) (z := 1) (by first | exact Or.inl rfl | exact Or.inr rfl), N⟩ B (fun m hm => by rw [u2_n (by omega), u2_n (by omega)]) ⟨by rw [u2_n (by decide), u2_k (by decide), hfr _ 100 (by decide)], by rw [u2_n (by decide), u2_k (by decide), hfr _ 100 (by decide)]⟩ ⟨by rw [u2_ud, u2_n (show (101 : Nat) ≠ 100 by decide), hfr _ 101 (by decide), e1]; rfl, by rw [u2_n (by decide), u2_n (by decide), hfr _ 102 (by decide)]; exact e2, by rw [u2_n (by decide), u2_n (by decide), hfr _ 103 (by decide)]; exact e3⟩))
    · refine g_iconst (v := 1) (q := 224) C dL_law_223 rfl (by decide) ?_
      refine g_goto (tgt := 228) C dL_law_224 (by decide) ?_
      refine g_cv2g (q := 231) C cv_L_24 dL_law_228 rfl rfl (IX.d0 X.1 _ (by decide)) (m_X3_off X _ _ (by first | exact Or.inl rfl | exact Or.inr rfl)) (by decide) (Nat.le_of_ble_eq_true rfl) ⟨by rw [hRc]; omega, by rw [hRs]; omega⟩ (fun v ad' dm' a' b' r' hp => ?_)
      obtain ⟨q1, q2, q4, q5, hp⟩ := hp
      obtain ⟨-, rfl, rfl⟩ := hp.resolve_right (fun z => by rw [z.1] at hK; cases hK)
      have q1 := q1.symm
      have q2 := q2.symm
      have q4 := q4.symm
      have q5 := q5.symm
      subst q1 q2 q4 q5
      rw [hcn]
      have Iz := fun (z : Int32) => IM_fr (a' := u2 a (20 + i) 7 z) I (hfr z 100 (by decide))
      change G E _ _ _ _ _ _ _ 231 _ [.int 1]
      refine g_aload_2 (q := 232) C dL_law_231 rfl ?_
      refine g_aload_0 (q := 233) C dL_law_232 rfl ?_
      refine g_iload_4 (q := 235) C dL_law_233 rfl ?_
      refine g_iconst (v := 1) (q := 236) C dL_law_235 rfl (by decide) ?_
      refine g_iadd (q := 237) C dL_law_236 rfl ?_
      refine g_sld (q := 238) (j := 7 * t + 1) LW dL_law_237 rfl (nI_add (7 * t) 1) (by omega) ?_
      refine g_aload_0 (q := 239) C dL_law_238 rfl ?_
      refine g_iload_4 (q := 241) C dL_law_239 rfl ?_
      refine g_iconst (v := 2) (q := 242) C dL_law_241 rfl (by decide) ?_
      refine g_iadd (q := 243) C dL_law_242 rfl ?_
      refine g_sld (q := 244) (j := 7 * t + 2) LW dL_law_243 rfl (nI_add (7 * t) 2) (by omega) ?_
      refine g_if_eq (tgt := 251) (q := 247) C dL_law_244 rfl (by decide) (fun c_244 => ?_) (fun c_244 => ?_)
      · refine g_iconst (v := 0) (q := 252) C dL_law_251 rfl (by decide) ?_
        refine g_cv2g (q := 255) C cv_L_28 dL_law_252 rfl rfl (IM.d I _ (by decide) (by decide)) (m_X4_off (Iz _) rfl _ _) (by decide) (Nat.le_of_ble_eq_true rfl) ⟨by rw [hRc]; omega, by rw [hRs]; omega⟩ (fun v ad' dm' a' b' r' hp => ?_)
        obtain ⟨q1, q2, q4, q5, hp⟩ := hp
        obtain ⟨-, rfl, rfl⟩ := hp.resolve_right (fun z => by rw [z.1] at hK; cases hK)
        have q1 := q1.symm
        have q2 := q2.symm
        have q4 := q4.symm
        have q5 := q5.symm
        subst q1 q2 q4 q5
        rw [hcn]
        change G E _ _ _ _ _ _ _ 255 _ [.int 1, .int 1]
        refine g_icmp_eq (tgt := 753) (q := 258) C dL_law_255 rfl (by decide) (fun c_255 => ?_) (fun c_255 => absurd rfl c_255)
        first
          | exact absurd c_220 c_244
          | exact absurd c_244 c_220
          | (refine g_wide (cl' := 102 + 2 * t) (sl' := 3018 + 18 * t) (by omega) (by omega) ?_
             exact hk ad dm _ b r _ _ (LV_s h (XR_off X hi (z := 0)) ⟨W, WF_off F (f := i) (z := 0) (by first | exact Or.inl rfl | exact Or.inr rfl), N⟩ B (fun m hm => by rw [u2_n (by omega), u2_n (by omega)]) ⟨by rw [u2_n (by decide), u2_k (by decide), hfr _ 100 (by decide)], by rw [u2_n (by decide), u2_k (by decide), hfr _ 100 (by decide)]⟩ ⟨by rw [u2_ud, u2_n (show (101 : Nat) ≠ 100 by decide), hfr _ 101 (by decide), e1]; rfl, by rw [u2_n (by decide), u2_n (by decide), hfr _ 102 (by decide)]; exact e2, by rw [u2_n (by decide), u2_n (by decide), hfr _ 103 (by decide)]; exact e3⟩))
          | (refine g_wide (cl' := 102 + 2 * t) (sl' := 3018 + 18 * t) (by omega) (by omega) ?_
             exact hk ad dm _ b r _ _ (LV_s h (XR_off X hi (z := 1)) ⟨W, WF_off F (f := i) (z := 1) (by first | exact Or.inl rfl | exact Or.inr rfl), N⟩ B (fun m hm => by rw [u2_n (by omega), u2_n (by omega)]) ⟨by rw [u2_n (by decide), u2_k (by decide), hfr _ 100 (by decide)], by rw [u2_n (by decide), u2_k (by decide), hfr _ 100 (by decide)]⟩ ⟨by rw [u2_ud, u2_n (show (101 : Nat) ≠ 100 by decide), hfr _ 101 (by decide), e1]; rfl, by rw [u2_n (by decide), u2_n (by decide), hfr _ 102 (by decide)]; exact e2, by rw [u2_n (by decide), u2_n (by decide), hfr _ 103 (by decide)]; exact e3⟩))
      · refine g_iconst (v := 1) (q := 248) C dL_law_247 rfl (by decide) ?_
        refine g_goto (tgt := 252) C dL_law_248 (by decide) ?_
        refine g_cv2g (q := 255) C cv_L_28 dL_law_252 rfl rfl (IM.d I _ (by decide) (by decide)) (m_X4_off (Iz _) rfl _ _) (by decide) (Nat.le_of_ble_eq_true rfl) ⟨by rw [hRc]; omega, by rw [hRs]; omega⟩ (fun v ad' dm' a' b' r' hp => ?_)
        obtain ⟨q1, q2, q4, q5, hp⟩ := hp
        obtain ⟨-, rfl, rfl⟩ := hp.resolve_right (fun z => by rw [z.1] at hK; cases hK)
        have q1 := q1.symm
        have q2 := q2.symm
        have q4 := q4.symm
        have q5 := q5.symm
        subst q1 q2 q4 q5
        rw [hcn]
        change G E _ _ _ _ _ _ _ 255 _ [.int 1, .int 1]
        refine g_icmp_eq (tgt := 753) (q := 258) C dL_law_255 rfl (by decide) (fun c_255 => ?_) (fun c_255 => absurd rfl c_255)
        first
          | exact absurd c_220 c_244
          | exact absurd c_244 c_220
          | (refine g_wide (cl' := 102 + 2 * t) (sl' := 3018 + 18 * t) (by omega) (by omega) ?_
             exact hk ad dm _ b r _ _ (LV_s h (XR_off X hi (z := 0)) ⟨W, WF_off F (f := i) (z := 0) (by first | exact Or.inl rfl | exact Or.inr rfl), N⟩ B (fun m hm => by rw [u2_n (by omega), u2_n (by omega)]) ⟨by rw [u2_n (by decide), u2_k (by decide), hfr _ 100 (by decide)], by rw [u2_n (by decide), u2_k (by decide), hfr _ 100 (by decide)]⟩ ⟨by rw [u2_ud, u2_n (show (101 : Nat) ≠ 100 by decide), hfr _ 101 (by decide), e1]; rfl, by rw [u2_n (by decide), u2_n (by decide), hfr _ 102 (by decide)]; exact e2, by rw [u2_n (by decide), u2_n (by decide), hfr _ 103 (by decide)]; exact e3⟩))
          | (refine g_wide (cl' := 102 + 2 * t) (sl' := 3018 + 18 * t) (by omega) (by omega) ?_
             exact hk ad dm _ b r _ _ (LV_s h (XR_off X hi (z := 1)) ⟨W, WF_off F (f := i) (z := 1) (by first | exact Or.inl rfl | exact Or.inr rfl), N⟩ B (fun m hm => by rw [u2_n (by omega), u2_n (by omega)]) ⟨by rw [u2_n (by decide), u2_k (by decide), hfr _ 100 (by decide)], by rw [u2_n (by decide), u2_k (by decide), hfr _ 100 (by decide)]⟩ ⟨by rw [u2_ud, u2_n (show (101 : Nat) ≠ 100 by decide), hfr _ 101 (by decide), e1]; rfl, by rw [u2_n (by decide), u2_n (by decide), hfr _ 102 (by decide)]; exact e2, by rw [u2_n (by decide), u2_n (by decide), hfr _ 103 (by decide)]; exact e3⟩))
  | false =>
    refine g_aload_1 (q := 208) C dL_law_207 rfl ?_
    refine g_aload_0 (q := 209) C dL_law_208 rfl ?_
    refine g_iload_4 (q := 211) C dL_law_209 rfl ?_
    refine g_iconst (v := 1) (q := 212) C dL_law_211 rfl (by decide) ?_
    refine g_iadd (q := 213) C dL_law_212 rfl ?_
    refine g_sld (q := 214) (j := 7 * t + 1) LW dL_law_213 rfl (nI_add (7 * t) 1) (by omega) ?_
    refine g_aload_0 (q := 215) C dL_law_214 rfl ?_
    refine g_iload_4 (q := 217) C dL_law_215 rfl ?_
    refine g_iconst (v := 2) (q := 218) C dL_law_217 rfl (by decide) ?_
    refine g_iadd (q := 219) C dL_law_218 rfl ?_
    refine g_sld (q := 220) (j := 7 * t + 2) LW dL_law_219 rfl (nI_add (7 * t) 2) (by omega) ?_
    refine g_if_eq (tgt := 227) (q := 223) C dL_law_220 rfl (by decide) (fun c_220 => ?_) (fun c_220 => ?_)
    · refine g_iconst (v := 0) (q := 228) C dL_law_227 rfl (by decide) ?_
      refine g_cv2g (q := 231) C cv_L_24 dL_law_228 rfl rfl (IX.d0 X.1 _ (by decide)) (m_X3_off X _ _ (by first | exact Or.inl rfl | exact Or.inr rfl)) (by decide) (Nat.le_of_ble_eq_true rfl) ⟨by rw [hRc]; omega, by rw [hRs]; omega⟩ (fun v ad' dm' a' b' r' hp => ?_)
      obtain ⟨q1, q2, q4, q5, hp⟩ := hp
      obtain ⟨-, rfl, rfl⟩ := hp.resolve_left (fun z => by rw [z.1] at hK; cases hK)
      have q1 := q1.symm
      have q2 := q2.symm
      have q4 := q4.symm
      have q5 := q5.symm
      subst q1 q2 q4 q5
      change G E _ _ _ _ _ _ _ 231 _ [.int 0]
      refine g_aload_2 (q := 232) C dL_law_231 rfl ?_
      refine g_aload_0 (q := 233) C dL_law_232 rfl ?_
      refine g_iload_4 (q := 235) C dL_law_233 rfl ?_
      refine g_iconst (v := 1) (q := 236) C dL_law_235 rfl (by decide) ?_
      refine g_iadd (q := 237) C dL_law_236 rfl ?_
      refine g_sld (q := 238) (j := 7 * t + 1) LW dL_law_237 rfl (nI_add (7 * t) 1) (by omega) ?_
      refine g_aload_0 (q := 239) C dL_law_238 rfl ?_
      refine g_iload_4 (q := 241) C dL_law_239 rfl ?_
      refine g_iconst (v := 2) (q := 242) C dL_law_241 rfl (by decide) ?_
      refine g_iadd (q := 243) C dL_law_242 rfl ?_
      refine g_sld (q := 244) (j := 7 * t + 2) LW dL_law_243 rfl (nI_add (7 * t) 2) (by omega) ?_
      refine g_if_eq (tgt := 251) (q := 247) C dL_law_244 rfl (by decide) (fun c_244 => ?_) (fun c_244 => ?_)
      · refine g_iconst (v := 0) (q := 252) C dL_law_251 rfl (by decide) ?_
        refine g_cv2g (q := 255) C cv_L_28 dL_law_252 rfl rfl (IM.d I _ (by decide) (by decide)) (m_X4_off I rfl _ _) (by decide) (Nat.le_of_ble_eq_true rfl) ⟨by rw [hRc]; omega, by rw [hRs]; omega⟩ (fun v ad' dm' a' b' r' hp => ?_)
        obtain ⟨q1, q2, q4, q5, hp⟩ := hp
        obtain ⟨-, rfl, rfl⟩ := hp.resolve_left (fun z => by rw [z.1] at hK; cases hK)
        have q1 := q1.symm
        have q2 := q2.symm
        have q4 := q4.symm
        have q5 := q5.symm
        subst q1 q2 q4 q5
        change G E _ _ _ _ _ _ _ 255 _ [.int 0, .int 0]
        refine g_icmp_eq (tgt := 753) (q := 258) C dL_law_255 rfl (by decide) (fun c_255 => ?_) (fun c_255 => absurd rfl c_255)
        refine g_wide (cl' := 102 + 2 * t) (sl' := 3018 + 18 * t) (by omega) (by omega) ?_
        exact hk ad dm _ b r _ _ (LV_s h X ⟨W, F, N⟩ B (fun m hm => u2_n (by omega)) ⟨u2_k (by decide) _, u2_k (by decide) _⟩ ⟨by rw [u2_n (by decide)]; exact e1, by rw [u2_n (by decide)]; exact e2, by rw [u2_n (by decide)]; exact e3⟩)
      · refine g_iconst (v := 1) (q := 248) C dL_law_247 rfl (by decide) ?_
        refine g_goto (tgt := 252) C dL_law_248 (by decide) ?_
        refine g_cv2g (q := 255) C cv_L_28 dL_law_252 rfl rfl (IM.d I _ (by decide) (by decide)) (m_X4_off I rfl _ _) (by decide) (Nat.le_of_ble_eq_true rfl) ⟨by rw [hRc]; omega, by rw [hRs]; omega⟩ (fun v ad' dm' a' b' r' hp => ?_)
        obtain ⟨q1, q2, q4, q5, hp⟩ := hp
        obtain ⟨-, rfl, rfl⟩ := hp.resolve_left (fun z => by rw [z.1] at hK; cases hK)
        have q1 := q1.symm
        have q2 := q2.symm
        have q4 := q4.symm
        have q5 := q5.symm
        subst q1 q2 q4 q5
        change G E _ _ _ _ _ _ _ 255 _ [.int 0, .int 0]
        refine g_icmp_eq (tgt := 753) (q := 258) C dL_law_255 rfl (by decide) (fun c_255 => ?_) (fun c_255 => absurd rfl c_255)
        refine g_wide (cl' := 102 + 2 * t) (sl' := 3018 + 18 * t) (by omega) (by omega) ?_
        exact hk ad dm _ b r _ _ (LV_s h X ⟨W, F, N⟩ B (fun m hm => u2_n (by omega)) ⟨u2_k (by decide) _, u2_k (by decide) _⟩ ⟨by rw [u2_n (by decide)]; exact e1, by rw [u2_n (by decide)]; exact e2, by rw [u2_n (by decide)]; exact e3⟩)
    · refine g_iconst (v := 1) (q := 224) C dL_law_223 rfl (by decide) ?_
      refine g_goto (tgt := 228) C dL_law_224 (by decide) ?_
      refine g_cv2g (q := 231) C cv_L_24 dL_law_228 rfl rfl (IX.d0 X.1 _ (by decide)) (m_X3_off X _ _ (by first | exact Or.inl rfl | exact Or.inr rfl)) (by decide) (Nat.le_of_ble_eq_true rfl) ⟨by rw [hRc]; omega, by rw [hRs]; omega⟩ (fun v ad' dm' a' b' r' hp => ?_)
      obtain ⟨q1, q2, q4, q5, hp⟩ := hp
      obtain ⟨-, rfl, rfl⟩ := hp.resolve_left (fun z => by rw [z.1] at hK; cases hK)
      have q1 := q1.symm
      have q2 := q2.symm
      have q4 := q4.symm
      have q5 := q5.symm
      subst q1 q2 q4 q5
      change G E _ _ _ _ _ _ _ 231 _ [.int 0]
      refine g_aload_2 (q := 232) C dL_law_231 rfl ?_
      refine g_aload_0 (q := 233) C dL_law_232 rfl ?_
      refine g_iload_4 (q := 235) C dL_law_233 rfl ?_
      refine g_iconst (v := 1) (q := 236) C dL_law_235 rfl (by decide) ?_
      refine g_iadd (q := 237) C dL_law_236 rfl ?_
      refine g_sld (q := 238) (j := 7 * t + 1) LW dL_law_237 rfl (nI_add (7 * t) 1) (by omega) ?_
      refine g_aload_0 (q := 239) C dL_law_238 rfl ?_
      refine g_iload_4 (q := 241) C dL_law_239 rfl ?_
      refine g_iconst (v := 2) (q := 242) C dL_law_241 rfl (by decide) ?_
      refine g_iadd (q := 243) C dL_law_242 rfl ?_
      refine g_sld (q := 244) (j := 7 * t + 2) LW dL_law_243 rfl (nI_add (7 * t) 2) (by omega) ?_
      refine g_if_eq (tgt := 251) (q := 247) C dL_law_244 rfl (by decide) (fun c_244 => ?_) (fun c_244 => ?_)
      · refine g_iconst (v := 0) (q := 252) C dL_law_251 rfl (by decide) ?_
        refine g_cv2g (q := 255) C cv_L_28 dL_law_252 rfl rfl (IM.d I _ (by decide) (by decide)) (m_X4_off I rfl _ _) (by decide) (Nat.le_of_ble_eq_true rfl) ⟨by rw [hRc]; omega, by rw [hRs]; omega⟩ (fun v ad' dm' a' b' r' hp => ?_)
        obtain ⟨q1, q2, q4, q5, hp⟩ := hp
        obtain ⟨-, rfl, rfl⟩ := hp.resolve_left (fun z => by rw [z.1] at hK; cases hK)
        have q1 := q1.symm
        have q2 := q2.symm
        have q4 := q4.symm
        have q5 := q5.symm
        subst q1 q2 q4 q5
        change G E _ _ _ _ _ _ _ 255 _ [.int 0, .int 0]
        refine g_icmp_eq (tgt := 753) (q := 258) C dL_law_255 rfl (by decide) (fun c_255 => ?_) (fun c_255 => absurd rfl c_255)
        refine g_wide (cl' := 102 + 2 * t) (sl' := 3018 + 18 * t) (by omega) (by omega) ?_
        exact hk ad dm _ b r _ _ (LV_s h X ⟨W, F, N⟩ B (fun m hm => u2_n (by omega)) ⟨u2_k (by decide) _, u2_k (by decide) _⟩ ⟨by rw [u2_n (by decide)]; exact e1, by rw [u2_n (by decide)]; exact e2, by rw [u2_n (by decide)]; exact e3⟩)
      · refine g_iconst (v := 1) (q := 248) C dL_law_247 rfl (by decide) ?_
        refine g_goto (tgt := 252) C dL_law_248 (by decide) ?_
        refine g_cv2g (q := 255) C cv_L_28 dL_law_252 rfl rfl (IM.d I _ (by decide) (by decide)) (m_X4_off I rfl _ _) (by decide) (Nat.le_of_ble_eq_true rfl) ⟨by rw [hRc]; omega, by rw [hRs]; omega⟩ (fun v ad' dm' a' b' r' hp => ?_)
        obtain ⟨q1, q2, q4, q5, hp⟩ := hp
        obtain ⟨-, rfl, rfl⟩ := hp.resolve_left (fun z => by rw [z.1] at hK; cases hK)
        have q1 := q1.symm
        have q2 := q2.symm
        have q4 := q4.symm
        have q5 := q5.symm
        subst q1 q2 q4 q5
        change G E _ _ _ _ _ _ _ 255 _ [.int 0, .int 0]
        refine g_icmp_eq (tgt := 753) (q := 258) C dL_law_255 rfl (by decide) (fun c_255 => ?_) (fun c_255 => absurd rfl c_255)
        refine g_wide (cl' := 102 + 2 * t) (sl' := 3018 + 18 * t) (by omega) (by omega) ?_
        exact hk ad dm _ b r _ _ (LV_s h X ⟨W, F, N⟩ B (fun m hm => u2_n (by omega)) ⟨u2_k (by decide) _, u2_k (by decide) _⟩ ⟨by rw [u2_n (by decide)]; exact e1, by rw [u2_n (by decide)]; exact e2, by rw [u2_n (by decide)]; exact e3⟩)
set_option maxHeartbeats 4000000 in
set_option maxRecDepth 100000 in
theorem law_2 {e5 e6 : Option Value} (LW : LX E bb L xs) (ht : 7 * t + 7 ≤ L) (h : LV nF nP fl pa nu dm a r) (hk : ∀ (ad' : Nat → Nat) (dm' : Nat → Bool) (a' : Nat → Nat → Int32) (b' : Nat → Nat → Int64) (r' : Nat → Nat → Option Nat) (e5 e6 : Option Value), LVx dm' a' r' → G E (102 + 2 * t) (3018 + 18 * t) ad' dm' a' b' r' 753 [some (.ref bb), some (.ref (ad' 0)), some (.ref (ad' 100)), some (.ref (ad' 120)), some (.int (nI (7 * t))), e5, e6] []) : G E (100 + 2 * t) (3000 + 18 * t) ad dm a b r 260 [some (.ref bb), some (.ref (ad 0)), some (.ref (ad 100)), some (.ref (ad 120)), some (.int (nI (7 * t))), e5, e6] [] := by
  obtain ⟨X, I, ⟨e1, e2, e3⟩, ⟨W, F, N⟩, B, dF, dP, d8, d9, d0⟩ := id h
  obtain ⟨C, -, -, -, hRc, hRs, hL, hN⟩ := id LW
  have hnF := X.1.1
  have hnP := X.1.2.1
  cases hK : pyK nF nP (xs (7 * t + 1)) (xs (7 * t + 2)) (xs (7 * t + 3)) (xs (7 * t + 4)) with
  | true =>
    refine g_aload_1 (q := 261) C dL_law_260 rfl ?_
    refine g_aload_0 (q := 262) C dL_law_261 rfl ?_
    refine g_iload_4 (q := 264) C dL_law_262 rfl ?_
    refine g_iconst (v := 1) (q := 265) C dL_law_264 rfl (by decide) ?_
    refine g_iadd (q := 266) C dL_law_265 rfl ?_
    refine g_sld (q := 267) (j := 7 * t + 1) LW dL_law_266 rfl (nI_add (7 * t) 1) (by omega) ?_
    refine g_aload_0 (q := 268) C dL_law_267 rfl ?_
    refine g_iload_4 (q := 270) C dL_law_268 rfl ?_
    refine g_iconst (v := 2) (q := 271) C dL_law_270 rfl (by decide) ?_
    refine g_iadd (q := 272) C dL_law_271 rfl ?_
    refine g_sld (q := 273) (j := 7 * t + 2) LW dL_law_272 rfl (nI_add (7 * t) 2) (by omega) ?_
    refine g_aload_0 (q := 274) C dL_law_273 rfl ?_
    refine g_iload_4 (q := 276) C dL_law_274 rfl ?_
    refine g_iconst (v := 3) (q := 277) C dL_law_276 rfl (by decide) ?_
    refine g_iadd (q := 278) C dL_law_277 rfl ?_
    refine g_sld (q := 279) (j := 7 * t + 3) LW dL_law_278 rfl (nI_add (7 * t) 3) (by omega) ?_
    refine g_aload_0 (q := 280) C dL_law_279 rfl ?_
    refine g_iload_4 (q := 282) C dL_law_280 rfl ?_
    refine g_iconst (v := 4) (q := 283) C dL_law_282 rfl (by decide) ?_
    refine g_iadd (q := 284) C dL_law_283 rfl ?_
    refine g_sld (q := 285) (j := 7 * t + 4) LW dL_law_284 rfl (nI_add (7 * t) 4) (by omega) ?_
    refine g_aload_0 (q := 286) C dL_law_285 rfl ?_
    refine g_iload_4 (q := 288) C dL_law_286 rfl ?_
    refine g_iconst (v := 5) (q := 289) C dL_law_288 rfl (by decide) ?_
    refine g_iadd (q := 290) C dL_law_289 rfl ?_
    refine g_sld (q := 291) (j := 7 * t + 5) LW dL_law_290 rfl (nI_add (7 * t) 5) (by omega) ?_
    refine g_if_eq (tgt := 298) (q := 294) C dL_law_291 rfl (by decide) (fun c_291 => ?_) (fun c_291 => ?_)
    · refine g_iconst (v := 0) (q := 299) C dL_law_298 rfl (by decide) ?_
      refine g_cv5g (q := 302) C cv_L_29 dL_law_299 rfl rfl (IX.d0 X.1 _ (by decide)) (m_X3_party X B (dP nP (Nat.le_refl _) (by omega)) _ _ _ _ _ (by first | exact Or.inl rfl | exact Or.inr rfl)) (by decide) (Nat.le_of_ble_eq_true rfl) ⟨by rw [hRc]; omega, by rw [hRs]; omega⟩ (fun v ad' dm' a' b' r' hp => ?_)
      obtain ⟨-, rfl, had, rfl, X2, B2, fr, hb1⟩ := hp.resolve_right (fun z => by rw [z.1] at hK; cases hK)
      change G E _ _ ad' _ a' b' r' 302 _ [.int (nI nP)]
      rw [← had 0 (by omega), ← had 100 (by omega), ← had 120 (by omega)]
      have I2 : IM (va_up dm (30 + nP) true) a' nF nP := ⟨fun n n1 n2 => by rw [va_up_ne _ _ (by omega)]; exact I.1 n n1 n2, by rw [fr 100 (by decide)]; exact I.2.1, I.2.2.1, by rw [fr 100 (by decide)]; exact I.2.2.2.1, I.2.2.2.2⟩
      have hP8 := X2.1.2.1
      refine g_aload_2 (q := 303) C dL_law_302 rfl ?_
      refine g_aload_0 (q := 304) C dL_law_303 rfl ?_
      refine g_iload_4 (q := 306) C dL_law_304 rfl ?_
      refine g_iconst (v := 1) (q := 307) C dL_law_306 rfl (by decide) ?_
      refine g_iadd (q := 308) C dL_law_307 rfl ?_
      refine g_sld (q := 309) (j := 7 * t + 1) LW dL_law_308 rfl (nI_add (7 * t) 1) (by omega) ?_
      refine g_aload_0 (q := 310) C dL_law_309 rfl ?_
      refine g_iload_4 (q := 312) C dL_law_310 rfl ?_
      refine g_iconst (v := 2) (q := 313) C dL_law_312 rfl (by decide) ?_
      refine g_iadd (q := 314) C dL_law_313 rfl ?_
      refine g_sld (q := 315) (j := 7 * t + 2) LW dL_law_314 rfl (nI_add (7 * t) 2) (by omega) ?_
      refine g_aload_0 (q := 316) C dL_law_315 rfl ?_
      refine g_iload_4 (q := 318) C dL_law_316 rfl ?_
      refine g_iconst (v := 3) (q := 319) C dL_law_318 rfl (by decide) ?_
      refine g_iadd (q := 320) C dL_law_319 rfl ?_
      refine g_sld (q := 321) (j := 7 * t + 3) LW dL_law_320 rfl (nI_add (7 * t) 3) (by omega) ?_
      refine g_aload_0 (q := 322) C dL_law_321 rfl ?_
      refine g_iload_4 (q := 324) C dL_law_322 rfl ?_
      refine g_iconst (v := 4) (q := 325) C dL_law_324 rfl (by decide) ?_
      refine g_iadd (q := 326) C dL_law_325 rfl ?_
      refine g_sld (q := 327) (j := 7 * t + 4) LW dL_law_326 rfl (nI_add (7 * t) 4) (by omega) ?_
      refine g_aload_0 (q := 328) C dL_law_327 rfl ?_
      refine g_iload_4 (q := 330) C dL_law_328 rfl ?_
      refine g_iconst (v := 5) (q := 331) C dL_law_330 rfl (by decide) ?_
      refine g_iadd (q := 332) C dL_law_331 rfl ?_
      refine g_sld (q := 333) (j := 7 * t + 5) LW dL_law_332 rfl (nI_add (7 * t) 5) (by omega) ?_
      refine g_if_eq (tgt := 340) (q := 336) C dL_law_333 rfl (by decide) (fun c_333 => ?_) (fun c_333 => ?_)
      · refine g_iconst (v := 0) (q := 341) C dL_law_340 rfl (by decide) ?_
        refine g_cv5g (q := 344) C cv_L_33 dL_law_341 rfl rfl (IM.d I2 _ (by decide) (by decide)) (m_X4_party I2 rfl (by rw [va_up_ne _ _ (by omega)]; exact d9) (B2.NR hnF hP8) _ _ _ _ _) (by decide) (Nat.le_of_ble_eq_true rfl) ⟨by rw [hRc]; omega, by rw [hRs]; omega⟩ (fun v ad' dm' a' b' r' hp => ?_)
        obtain ⟨q1, q2, q4, q5, hp⟩ := hp
        obtain ⟨-, rfl, rfl⟩ := hp.resolve_right (fun z => by rw [z.1] at hK; cases hK)
        have q1 := q1.symm
        have q2 := q2.symm
        have q4 := q4.symm
        have q5 := q5.symm
        subst q1 q2 q4 q5
        change G E _ _ _ _ _ _ _ 344 _ [.int (nI nP), .int (nI nP)]
        refine g_icmp_eq (tgt := 753) (q := 347) C dL_law_344 rfl (by decide) (fun c_344 => ?_) (fun c_344 => absurd rfl c_344)
        first
          | exact absurd c_291 c_333
          | exact absurd c_333 c_291
          | (refine g_wide (cl' := 102 + 2 * t) (sl' := 3018 + 18 * t) (by omega) (by omega) ?_
             refine hk _ _ _ _ _ _ _ ⟨nF, nP + 1, fl, _, nu, XR_a X2 (fun m hm => by rw [up1_n (by omega), u2_n (by omega), u2_n (by omega)]), ⟨I2.1, by rw [up1_n (by decide), u2_k (by decide), u2_k (by decide)]; exact I2.2.1, I2.2.2.1, by rw [up1_n (by decide), u2_s], hP8⟩, ⟨by rw [up1_n (by decide), u2_n (by decide), u2_n (by decide), fr 101 (by decide)]; exact e1, by rw [up1_s, u2_n (by decide), fr 102 (by decide), e2]; rfl, by rw [up1_n (by decide), u2_n (by decide), u2_n (by decide), fr 103 (by decide)]; exact e3⟩, ⟨WP_py W hnF hK (by first | exact Or.inl rfl | exact Or.inr rfl), F, N⟩, B2, fun i i1 i2 => by rw [va_up_ne _ _ (by omega)]; exact dF i i1 i2, fun j j1 j2 => by rw [va_up_ne _ _ (by omega)]; exact dP j (by omega) j2, by rw [va_up_ne _ _ (by omega)]; exact d8, by rw [va_up_ne _ _ (by omega)]; exact d9, by rw [va_up_ne _ _ (by omega)]; exact d0⟩)
      · refine g_iconst (v := 1) (q := 337) C dL_law_336 rfl (by decide) ?_
        refine g_goto (tgt := 341) C dL_law_337 (by decide) ?_
        refine g_cv5g (q := 344) C cv_L_33 dL_law_341 rfl rfl (IM.d I2 _ (by decide) (by decide)) (m_X4_party I2 rfl (by rw [va_up_ne _ _ (by omega)]; exact d9) (B2.NR hnF hP8) _ _ _ _ _) (by decide) (Nat.le_of_ble_eq_true rfl) ⟨by rw [hRc]; omega, by rw [hRs]; omega⟩ (fun v ad' dm' a' b' r' hp => ?_)
        obtain ⟨q1, q2, q4, q5, hp⟩ := hp
        obtain ⟨-, rfl, rfl⟩ := hp.resolve_right (fun z => by rw [z.1] at hK; cases hK)
        have q1 := q1.symm
        have q2 := q2.symm
        have q4 := q4.symm
        have q5 := q5.symm
        subst q1 q2 q4 q5
        change G E _ _ _ _ _ _ _ 344 _ [.int (nI nP), .int (nI nP)]
        refine g_icmp_eq (tgt := 753) (q := 347) C dL_law_344 rfl (by decide) (fun c_344 => ?_) (fun c_344 => absurd rfl c_344)
        first
          | exact absurd c_291 c_333
          | exact absurd c_333 c_291
          | (refine g_wide (cl' := 102 + 2 * t) (sl' := 3018 + 18 * t) (by omega) (by omega) ?_
             refine hk _ _ _ _ _ _ _ ⟨nF, nP + 1, fl, _, nu, XR_a X2 (fun m hm => by rw [up1_n (by omega), u2_n (by omega), u2_n (by omega)]), ⟨I2.1, by rw [up1_n (by decide), u2_k (by decide), u2_k (by decide)]; exact I2.2.1, I2.2.2.1, by rw [up1_n (by decide), u2_s], hP8⟩, ⟨by rw [up1_n (by decide), u2_n (by decide), u2_n (by decide), fr 101 (by decide)]; exact e1, by rw [up1_s, u2_n (by decide), fr 102 (by decide), e2]; rfl, by rw [up1_n (by decide), u2_n (by decide), u2_n (by decide), fr 103 (by decide)]; exact e3⟩, ⟨WP_py W hnF hK (by first | exact Or.inl rfl | exact Or.inr rfl), F, N⟩, B2, fun i i1 i2 => by rw [va_up_ne _ _ (by omega)]; exact dF i i1 i2, fun j j1 j2 => by rw [va_up_ne _ _ (by omega)]; exact dP j (by omega) j2, by rw [va_up_ne _ _ (by omega)]; exact d8, by rw [va_up_ne _ _ (by omega)]; exact d9, by rw [va_up_ne _ _ (by omega)]; exact d0⟩)
    · refine g_iconst (v := 1) (q := 295) C dL_law_294 rfl (by decide) ?_
      refine g_goto (tgt := 299) C dL_law_295 (by decide) ?_
      refine g_cv5g (q := 302) C cv_L_29 dL_law_299 rfl rfl (IX.d0 X.1 _ (by decide)) (m_X3_party X B (dP nP (Nat.le_refl _) (by omega)) _ _ _ _ _ (by first | exact Or.inl rfl | exact Or.inr rfl)) (by decide) (Nat.le_of_ble_eq_true rfl) ⟨by rw [hRc]; omega, by rw [hRs]; omega⟩ (fun v ad' dm' a' b' r' hp => ?_)
      obtain ⟨-, rfl, had, rfl, X2, B2, fr, hb1⟩ := hp.resolve_right (fun z => by rw [z.1] at hK; cases hK)
      change G E _ _ ad' _ a' b' r' 302 _ [.int (nI nP)]
      rw [← had 0 (by omega), ← had 100 (by omega), ← had 120 (by omega)]
      have I2 : IM (va_up dm (30 + nP) true) a' nF nP := ⟨fun n n1 n2 => by rw [va_up_ne _ _ (by omega)]; exact I.1 n n1 n2, by rw [fr 100 (by decide)]; exact I.2.1, I.2.2.1, by rw [fr 100 (by decide)]; exact I.2.2.2.1, I.2.2.2.2⟩
      have hP8 := X2.1.2.1
      refine g_aload_2 (q := 303) C dL_law_302 rfl ?_
      refine g_aload_0 (q := 304) C dL_law_303 rfl ?_
      refine g_iload_4 (q := 306) C dL_law_304 rfl ?_
      refine g_iconst (v := 1) (q := 307) C dL_law_306 rfl (by decide) ?_
      refine g_iadd (q := 308) C dL_law_307 rfl ?_
      refine g_sld (q := 309) (j := 7 * t + 1) LW dL_law_308 rfl (nI_add (7 * t) 1) (by omega) ?_
      refine g_aload_0 (q := 310) C dL_law_309 rfl ?_
      refine g_iload_4 (q := 312) C dL_law_310 rfl ?_
      refine g_iconst (v := 2) (q := 313) C dL_law_312 rfl (by decide) ?_
      refine g_iadd (q := 314) C dL_law_313 rfl ?_
      refine g_sld (q := 315) (j := 7 * t + 2) LW dL_law_314 rfl (nI_add (7 * t) 2) (by omega) ?_
      refine g_aload_0 (q := 316) C dL_law_315 rfl ?_
      refine g_iload_4 (q := 318) C dL_law_316 rfl ?_
      refine g_iconst (v := 3) (q := 319) C dL_law_318 rfl (by decide) ?_
      refine g_iadd (q := 320) C dL_law_319 rfl ?_
      refine g_sld (q := 321) (j := 7 * t + 3) LW dL_law_320 rfl (nI_add (7 * t) 3) (by omega) ?_
      refine g_aload_0 (q := 322) C dL_law_321 rfl ?_
      refine g_iload_4 (q := 324) C dL_law_322 rfl ?_
      refine g_iconst (v := 4) (q := 325) C dL_law_324 rfl (by decide) ?_
      refine g_iadd (q := 326) C dL_law_325 rfl ?_
      refine g_sld (q := 327) (j := 7 * t + 4) LW dL_law_326 rfl (nI_add (7 * t) 4) (by omega) ?_
      refine g_aload_0 (q := 328) C dL_law_327 rfl ?_
      refine g_iload_4 (q := 330) C dL_law_328 rfl ?_
      refine g_iconst (v := 5) (q := 331) C dL_law_330 rfl (by decide) ?_
      refine g_iadd (q := 332) C dL_law_331 rfl ?_
      refine g_sld (q := 333) (j := 7 * t + 5) LW dL_law_332 rfl (nI_add (7 * t) 5) (by omega) ?_
      refine g_if_eq (tgt := 340) (q := 336) C dL_law_333 rfl (by decide) (fun c_333 => ?_) (fun c_333 => ?_)
      · refine g_iconst (v := 0) (q := 341) C dL_law_340 rfl (by decide) ?_
        refine g_cv5g (q := 344) C cv_L_33 dL_law_341 rfl rfl (IM.d I2 _ (by decide) (by decide)) (m_X4_party I2 rfl (by rw [va_up_ne _ _ (by omega)]; exact d9) (B2.NR hnF hP8) _ _ _ _ _) (by decide) (Nat.le_of_ble_eq_true rfl) ⟨by rw [hRc]; omega, by rw [hRs]; omega⟩ (fun v ad' dm' a' b' r' hp => ?_)
        obtain ⟨q1, q2, q4, q5, hp⟩ := hp
        obtain ⟨-, rfl, rfl⟩ := hp.resolve_right (fun z => by rw [z.1] at hK; cases hK)
        have q1 := q1.symm
        have q2 := q2.symm
        have q4 := q4.symm
        have q5 := q5.symm
        subst q1 q2 q4 q5
        change G E _ _ _ _ _ _ _ 344 _ [.int (nI nP), .int (nI nP)]
        refine g_icmp_eq (tgt := 753) (q := 347) C dL_law_344 rfl (by decide) (fun c_344 => ?_) (fun c_344 => absurd rfl c_344)
        first
          | exact absurd c_291 c_333
          | exact absurd c_333 c_291
          | (refine g_wide (cl' := 102 + 2 * t) (sl' := 3018 + 18 * t) (by omega) (by omega) ?_
             refine hk _ _ _ _ _ _ _ ⟨nF, nP + 1, fl, _, nu, XR_a X2 (fun m hm => by rw [up1_n (by omega), u2_n (by omega), u2_n (by omega)]), ⟨I2.1, by rw [up1_n (by decide), u2_k (by decide), u2_k (by decide)]; exact I2.2.1, I2.2.2.1, by rw [up1_n (by decide), u2_s], hP8⟩, ⟨by rw [up1_n (by decide), u2_n (by decide), u2_n (by decide), fr 101 (by decide)]; exact e1, by rw [up1_s, u2_n (by decide), fr 102 (by decide), e2]; rfl, by rw [up1_n (by decide), u2_n (by decide), u2_n (by decide), fr 103 (by decide)]; exact e3⟩, ⟨WP_py W hnF hK (by first | exact Or.inl rfl | exact Or.inr rfl), F, N⟩, B2, fun i i1 i2 => by rw [va_up_ne _ _ (by omega)]; exact dF i i1 i2, fun j j1 j2 => by rw [va_up_ne _ _ (by omega)]; exact dP j (by omega) j2, by rw [va_up_ne _ _ (by omega)]; exact d8, by rw [va_up_ne _ _ (by omega)]; exact d9, by rw [va_up_ne _ _ (by omega)]; exact d0⟩)
      · refine g_iconst (v := 1) (q := 337) C dL_law_336 rfl (by decide) ?_
        refine g_goto (tgt := 341) C dL_law_337 (by decide) ?_
        refine g_cv5g (q := 344) C cv_L_33 dL_law_341 rfl rfl (IM.d I2 _ (by decide) (by decide)) (m_X4_party I2 rfl (by rw [va_up_ne _ _ (by omega)]; exact d9) (B2.NR hnF hP8) _ _ _ _ _) (by decide) (Nat.le_of_ble_eq_true rfl) ⟨by rw [hRc]; omega, by rw [hRs]; omega⟩ (fun v ad' dm' a' b' r' hp => ?_)
        obtain ⟨q1, q2, q4, q5, hp⟩ := hp
        obtain ⟨-, rfl, rfl⟩ := hp.resolve_right (fun z => by rw [z.1] at hK; cases hK)
        have q1 := q1.symm
        have q2 := q2.symm
        have q4 := q4.symm
        have q5 := q5.symm
        subst q1 q2 q4 q5
        change G E _ _ _ _ _ _ _ 344 _ [.int (nI nP), .int (nI nP)]
        refine g_icmp_eq (tgt := 753) (q := 347) C dL_law_344 rfl (by decide) (fun c_344 => ?_) (fun c_344 => absurd rfl c_344)
        first
          | exact absurd c_291 c_333
          | exact absurd c_333 c_291
          | (refine g_wide (cl' := 102 + 2 * t) (sl' := 3018 + 18 * t) (by omega) (by omega) ?_
             refine hk _ _ _ _ _ _ _ ⟨nF, nP + 1, fl, _, nu, XR_a X2 (fun m hm => by rw [up1_n (by omega), u2_n (by omega), u2_n (by omega)]), ⟨I2.1, by rw [up1_n (by decide), u2_k (by decide), u2_k (by decide)]; exact I2.2.1, I2.2.2.1, by rw [up1_n (by decide), u2_s], hP8⟩, ⟨by rw [up1_n (by decide), u2_n (by decide), u2_n (by decide), fr 101 (by decide)]; exact e1, by rw [up1_s, u2_n (by decide), fr 102 (by decide), e2]; rfl, by rw [up1_n (by decide), u2_n (by decide), u2_n (by decide), fr 103 (by decide)]; exact e3⟩, ⟨WP_py W hnF hK (by first | exact Or.inl rfl | exact Or.inr rfl), F, N⟩, B2, fun i i1 i2 => by rw [va_up_ne _ _ (by omega)]; exact dF i i1 i2, fun j j1 j2 => by rw [va_up_ne _ _ (by omega)]; exact dP j (by omega) j2, by rw [va_up_ne _ _ (by omega)]; exact d8, by rw [va_up_ne _ _ (by omega)]; exact d9, by rw [va_up_ne _ _ (by omega)]; exact d0⟩)
  | false =>
    refine g_aload_1 (q := 261) C dL_law_260 rfl ?_
    refine g_aload_0 (q := 262) C dL_law_261 rfl ?_
    refine g_iload_4 (q := 264) C dL_law_262 rfl ?_
    refine g_iconst (v := 1) (q := 265) C dL_law_264 rfl (by decide) ?_
    refine g_iadd (q := 266) C dL_law_265 rfl ?_
    refine g_sld (q := 267) (j := 7 * t + 1) LW dL_law_266 rfl (nI_add (7 * t) 1) (by omega) ?_
    refine g_aload_0 (q := 268) C dL_law_267 rfl ?_
    refine g_iload_4 (q := 270) C dL_law_268 rfl ?_
    refine g_iconst (v := 2) (q := 271) C dL_law_270 rfl (by decide) ?_
    refine g_iadd (q := 272) C dL_law_271 rfl ?_
    refine g_sld (q := 273) (j := 7 * t + 2) LW dL_law_272 rfl (nI_add (7 * t) 2) (by omega) ?_
    refine g_aload_0 (q := 274) C dL_law_273 rfl ?_
    refine g_iload_4 (q := 276) C dL_law_274 rfl ?_
    refine g_iconst (v := 3) (q := 277) C dL_law_276 rfl (by decide) ?_
    refine g_iadd (q := 278) C dL_law_277 rfl ?_
    refine g_sld (q := 279) (j := 7 * t + 3) LW dL_law_278 rfl (nI_add (7 * t) 3) (by omega) ?_
    refine g_aload_0 (q := 280) C dL_law_279 rfl ?_
    refine g_iload_4 (q := 282) C dL_law_280 rfl ?_
    refine g_iconst (v := 4) (q := 283) C dL_law_282 rfl (by decide) ?_
    refine g_iadd (q := 284) C dL_law_283 rfl ?_
    refine g_sld (q := 285) (j := 7 * t + 4) LW dL_law_284 rfl (nI_add (7 * t) 4) (by omega) ?_
    refine g_aload_0 (q := 286) C dL_law_285 rfl ?_
    refine g_iload_4 (q := 288) C dL_law_286 rfl ?_
    refine g_iconst (v := 5) (q := 289) C dL_law_288 rfl (by decide) ?_
    refine g_iadd (q := 290) C dL_law_289 rfl ?_
    refine g_sld (q := 291) (j := 7 * t + 5) LW dL_law_290 rfl (nI_add (7 * t) 5) (by omega) ?_
    refine g_if_eq (tgt := 298) (q := 294) C dL_law_291 rfl (by decide) (fun c_291 => ?_) (fun c_291 => ?_)
    · refine g_iconst (v := 0) (q := 299) C dL_law_298 rfl (by decide) ?_
      refine g_cv5g (q := 302) C cv_L_29 dL_law_299 rfl rfl (IX.d0 X.1 _ (by decide)) (m_X3_party X B (dP nP (Nat.le_refl _) (by omega)) _ _ _ _ _ (by first | exact Or.inl rfl | exact Or.inr rfl)) (by decide) (Nat.le_of_ble_eq_true rfl) ⟨by rw [hRc]; omega, by rw [hRs]; omega⟩ (fun v ad' dm' a' b' r' hp => ?_)
      obtain ⟨-, rfl, q1, q2, q3, q4, q5⟩ := hp.resolve_left (fun z => by rw [z.1] at hK; cases hK)
      have q1 := q1.symm
      have q2 := q2.symm
      have q3 := q3.symm
      have q4 := q4.symm
      have q5 := q5.symm
      subst q1 q2 q3 q4 q5
      change G E _ _ _ _ _ _ _ 302 _ [.int (-1)]
      refine g_aload_2 (q := 303) C dL_law_302 rfl ?_
      refine g_aload_0 (q := 304) C dL_law_303 rfl ?_
      refine g_iload_4 (q := 306) C dL_law_304 rfl ?_
      refine g_iconst (v := 1) (q := 307) C dL_law_306 rfl (by decide) ?_
      refine g_iadd (q := 308) C dL_law_307 rfl ?_
      refine g_sld (q := 309) (j := 7 * t + 1) LW dL_law_308 rfl (nI_add (7 * t) 1) (by omega) ?_
      refine g_aload_0 (q := 310) C dL_law_309 rfl ?_
      refine g_iload_4 (q := 312) C dL_law_310 rfl ?_
      refine g_iconst (v := 2) (q := 313) C dL_law_312 rfl (by decide) ?_
      refine g_iadd (q := 314) C dL_law_313 rfl ?_
      refine g_sld (q := 315) (j := 7 * t + 2) LW dL_law_314 rfl (nI_add (7 * t) 2) (by omega) ?_
      refine g_aload_0 (q := 316) C dL_law_315 rfl ?_
      refine g_iload_4 (q := 318) C dL_law_316 rfl ?_
      refine g_iconst (v := 3) (q := 319) C dL_law_318 rfl (by decide) ?_
      refine g_iadd (q := 320) C dL_law_319 rfl ?_
      refine g_sld (q := 321) (j := 7 * t + 3) LW dL_law_320 rfl (nI_add (7 * t) 3) (by omega) ?_
      refine g_aload_0 (q := 322) C dL_law_321 rfl ?_
      refine g_iload_4 (q := 324) C dL_law_322 rfl ?_
      refine g_iconst (v := 4) (q := 325) C dL_law_324 rfl (by decide) ?_
      refine g_iadd (q := 326) C dL_law_325 rfl ?_
      refine g_sld (q := 327) (j := 7 * t + 4) LW dL_law_326 rfl (nI_add (7 * t) 4) (by omega) ?_
      refine g_aload_0 (q := 328) C dL_law_327 rfl ?_
      refine g_iload_4 (q := 330) C dL_law_328 rfl ?_
      refine g_iconst (v := 5) (q := 331) C dL_law_330 rfl (by decide) ?_
      refine g_iadd (q := 332) C dL_law_331 rfl ?_
      refine g_sld (q := 333) (j := 7 * t + 5) LW dL_law_332 rfl (nI_add (7 * t) 5) (by omega) ?_
      refine g_if_eq (tgt := 340) (q := 336) C dL_law_333 rfl (by decide) (fun c_333 => ?_) (fun c_333 => ?_)
      · refine g_iconst (v := 0) (q := 341) C dL_law_340 rfl (by decide) ?_
        refine g_cv5g (q := 344) C cv_L_33 dL_law_341 rfl rfl (IM.d I _ (by decide) (by decide)) (m_X4_party I rfl d9 (B.NR hnF hnP) _ _ _ _ _) (by decide) (Nat.le_of_ble_eq_true rfl) ⟨by rw [hRc]; omega, by rw [hRs]; omega⟩ (fun v ad' dm' a' b' r' hp => ?_)
        obtain ⟨q1, q2, q4, q5, hp⟩ := hp
        obtain ⟨-, rfl, rfl⟩ := hp.resolve_left (fun z => by rw [z.1] at hK; cases hK)
        have q1 := q1.symm
        have q2 := q2.symm
        have q4 := q4.symm
        have q5 := q5.symm
        subst q1 q2 q4 q5
        change G E _ _ _ _ _ _ _ 344 _ [.int (-1), .int (-1)]
        refine g_icmp_eq (tgt := 753) (q := 347) C dL_law_344 rfl (by decide) (fun c_344 => ?_) (fun c_344 => absurd rfl c_344)
        refine g_wide (cl' := 102 + 2 * t) (sl' := 3018 + 18 * t) (by omega) (by omega) ?_
        exact hk ad dm _ b r _ _ (LV_s h X ⟨W, F, N⟩ B (fun m hm => u2_n (by omega)) ⟨u2_k (by decide) _, u2_k (by decide) _⟩ ⟨by rw [u2_n (by decide)]; exact e1, by rw [u2_n (by decide)]; exact e2, by rw [u2_n (by decide)]; exact e3⟩)
      · refine g_iconst (v := 1) (q := 337) C dL_law_336 rfl (by decide) ?_
        refine g_goto (tgt := 341) C dL_law_337 (by decide) ?_
        refine g_cv5g (q := 344) C cv_L_33 dL_law_341 rfl rfl (IM.d I _ (by decide) (by decide)) (m_X4_party I rfl d9 (B.NR hnF hnP) _ _ _ _ _) (by decide) (Nat.le_of_ble_eq_true rfl) ⟨by rw [hRc]; omega, by rw [hRs]; omega⟩ (fun v ad' dm' a' b' r' hp => ?_)
        obtain ⟨q1, q2, q4, q5, hp⟩ := hp
        obtain ⟨-, rfl, rfl⟩ := hp.resolve_left (fun z => by rw [z.1] at hK; cases hK)
        have q1 := q1.symm
        have q2 := q2.symm
        have q4 := q4.symm
        have q5 := q5.symm
        subst q1 q2 q4 q5
        change G E _ _ _ _ _ _ _ 344 _ [.int (-1), .int (-1)]
        refine g_icmp_eq (tgt := 753) (q := 347) C dL_law_344 rfl (by decide) (fun c_344 => ?_) (fun c_344 => absurd rfl c_344)
        refine g_wide (cl' := 102 + 2 * t) (sl' := 3018 + 18 * t) (by omega) (by omega) ?_
        exact hk ad dm _ b r _ _ (LV_s h X ⟨W, F, N⟩ B (fun m hm => u2_n (by omega)) ⟨u2_k (by decide) _, u2_k (by decide) _⟩ ⟨by rw [u2_n (by decide)]; exact e1, by rw [u2_n (by decide)]; exact e2, by rw [u2_n (by decide)]; exact e3⟩)
    · refine g_iconst (v := 1) (q := 295) C dL_law_294 rfl (by decide) ?_
      refine g_goto (tgt := 299) C dL_law_295 (by decide) ?_
      refine g_cv5g (q := 302) C cv_L_29 dL_law_299 rfl rfl (IX.d0 X.1 _ (by decide)) (m_X3_party X B (dP nP (Nat.le_refl _) (by omega)) _ _ _ _ _ (by first | exact Or.inl rfl | exact Or.inr rfl)) (by decide) (Nat.le_of_ble_eq_true rfl) ⟨by rw [hRc]; omega, by rw [hRs]; omega⟩ (fun v ad' dm' a' b' r' hp => ?_)
      obtain ⟨-, rfl, q1, q2, q3, q4, q5⟩ := hp.resolve_left (fun z => by rw [z.1] at hK; cases hK)
      have q1 := q1.symm
      have q2 := q2.symm
      have q3 := q3.symm
      have q4 := q4.symm
      have q5 := q5.symm
      subst q1 q2 q3 q4 q5
      change G E _ _ _ _ _ _ _ 302 _ [.int (-1)]
      refine g_aload_2 (q := 303) C dL_law_302 rfl ?_
      refine g_aload_0 (q := 304) C dL_law_303 rfl ?_
      refine g_iload_4 (q := 306) C dL_law_304 rfl ?_
      refine g_iconst (v := 1) (q := 307) C dL_law_306 rfl (by decide) ?_
      refine g_iadd (q := 308) C dL_law_307 rfl ?_
      refine g_sld (q := 309) (j := 7 * t + 1) LW dL_law_308 rfl (nI_add (7 * t) 1) (by omega) ?_
      refine g_aload_0 (q := 310) C dL_law_309 rfl ?_
      refine g_iload_4 (q := 312) C dL_law_310 rfl ?_
      refine g_iconst (v := 2) (q := 313) C dL_law_312 rfl (by decide) ?_
      refine g_iadd (q := 314) C dL_law_313 rfl ?_
      refine g_sld (q := 315) (j := 7 * t + 2) LW dL_law_314 rfl (nI_add (7 * t) 2) (by omega) ?_
      refine g_aload_0 (q := 316) C dL_law_315 rfl ?_
      refine g_iload_4 (q := 318) C dL_law_316 rfl ?_
      refine g_iconst (v := 3) (q := 319) C dL_law_318 rfl (by decide) ?_
      refine g_iadd (q := 320) C dL_law_319 rfl ?_
      refine g_sld (q := 321) (j := 7 * t + 3) LW dL_law_320 rfl (nI_add (7 * t) 3) (by omega) ?_
      refine g_aload_0 (q := 322) C dL_law_321 rfl ?_
      refine g_iload_4 (q := 324) C dL_law_322 rfl ?_
      refine g_iconst (v := 4) (q := 325) C dL_law_324 rfl (by decide) ?_
      refine g_iadd (q := 326) C dL_law_325 rfl ?_
      refine g_sld (q := 327) (j := 7 * t + 4) LW dL_law_326 rfl (nI_add (7 * t) 4) (by omega) ?_
      refine g_aload_0 (q := 328) C dL_law_327 rfl ?_
      refine g_iload_4 (q := 330) C dL_law_328 rfl ?_
      refine g_iconst (v := 5) (q := 331) C dL_law_330 rfl (by decide) ?_
      refine g_iadd (q := 332) C dL_law_331 rfl ?_
      refine g_sld (q := 333) (j := 7 * t + 5) LW dL_law_332 rfl (nI_add (7 * t) 5) (by omega) ?_
      refine g_if_eq (tgt := 340) (q := 336) C dL_law_333 rfl (by decide) (fun c_333 => ?_) (fun c_333 => ?_)
      · refine g_iconst (v := 0) (q := 341) C dL_law_340 rfl (by decide) ?_
        refine g_cv5g (q := 344) C cv_L_33 dL_law_341 rfl rfl (IM.d I _ (by decide) (by decide)) (m_X4_party I rfl d9 (B.NR hnF hnP) _ _ _ _ _) (by decide) (Nat.le_of_ble_eq_true rfl) ⟨by rw [hRc]; omega, by rw [hRs]; omega⟩ (fun v ad' dm' a' b' r' hp => ?_)
        obtain ⟨q1, q2, q4, q5, hp⟩ := hp
        obtain ⟨-, rfl, rfl⟩ := hp.resolve_left (fun z => by rw [z.1] at hK; cases hK)
        have q1 := q1.symm
        have q2 := q2.symm
        have q4 := q4.symm
        have q5 := q5.symm
        subst q1 q2 q4 q5
        change G E _ _ _ _ _ _ _ 344 _ [.int (-1), .int (-1)]
        refine g_icmp_eq (tgt := 753) (q := 347) C dL_law_344 rfl (by decide) (fun c_344 => ?_) (fun c_344 => absurd rfl c_344)
        refine g_wide (cl' := 102 + 2 * t) (sl' := 3018 + 18 * t) (by omega) (by omega) ?_
        exact hk ad dm _ b r _ _ (LV_s h X ⟨W, F, N⟩ B (fun m hm => u2_n (by omega)) ⟨u2_k (by decide) _, u2_k (by decide) _⟩ ⟨by rw [u2_n (by decide)]; exact e1, by rw [u2_n (by decide)]; exact e2, by rw [u2_n (by decide)]; exact e3⟩)
      · refine g_iconst (v := 1) (q := 337) C dL_law_336 rfl (by decide) ?_
        refine g_goto (tgt := 341) C dL_law_337 (by decide) ?_
        refine g_cv5g (q := 344) C cv_L_33 dL_law_341 rfl rfl (IM.d I _ (by decide) (by decide)) (m_X4_party I rfl d9 (B.NR hnF hnP) _ _ _ _ _) (by decide) (Nat.le_of_ble_eq_true rfl) ⟨by rw [hRc]; omega, by rw [hRs]; omega⟩ (fun v ad' dm' a' b' r' hp => ?_)
        obtain ⟨q1, q2, q4, q5, hp⟩ := hp
        obtain ⟨-, rfl, rfl⟩ := hp.resolve_left (fun z => by rw [z.1] at hK; cases hK)
        have q1 := q1.symm
        have q2 := q2.symm
        have q4 := q4.symm
        have q5 := q5.symm
        subst q1 q2 q4 q5
        change G E _ _ _ _ _ _ _ 344 _ [.int (-1), .int (-1)]
        refine g_icmp_eq (tgt := 753) (q := 347) C dL_law_344 rfl (by decide) (fun c_344 => ?_) (fun c_344 => absurd rfl c_344)
        refine g_wide (cl' := 102 + 2 * t) (sl' := 3018 + 18 * t) (by omega) (by omega) ?_
        exact hk ad dm _ b r _ _ (LV_s h X ⟨W, F, N⟩ B (fun m hm => u2_n (by omega)) ⟨u2_k (by decide) _, u2_k (by decide) _⟩ ⟨by rw [u2_n (by decide)]; exact e1, by rw [u2_n (by decide)]; exact e2, by rw [u2_n (by decide)]; exact e3⟩)
set_option maxHeartbeats 4000000 in
set_option maxRecDepth 100000 in
theorem law_3 {e5 e6 : Option Value} (LW : LX E bb L xs) (ht : 7 * t + 7 ≤ L) (h : LV nF nP fl pa nu dm a r) (hk : ∀ (ad' : Nat → Nat) (dm' : Nat → Bool) (a' : Nat → Nat → Int32) (b' : Nat → Nat → Int64) (r' : Nat → Nat → Option Nat) (e5 e6 : Option Value), LVx dm' a' r' → G E (102 + 2 * t) (3018 + 18 * t) ad' dm' a' b' r' 753 [some (.ref bb), some (.ref (ad' 0)), some (.ref (ad' 100)), some (.ref (ad' 120)), some (.int (nI (7 * t))), e5, e6] []) : G E (100 + 2 * t) (3000 + 18 * t) ad dm a b r 349 [some (.ref bb), some (.ref (ad 0)), some (.ref (ad 100)), some (.ref (ad 120)), some (.int (nI (7 * t))), e5, e6] [] := by
  obtain ⟨X, I, ⟨e1, e2, e3⟩, ⟨W, F, N⟩, B, dF, dP, d8, d9, d0⟩ := id h
  obtain ⟨C, -, -, -, hRc, hRs, hL, hN⟩ := id LW
  have hnF := X.1.1
  have hnP := X.1.2.1
  cases hK : seK (xs (7 * t + 1)) (xs (7 * t + 2)) with
  | true =>
    have hK2 := hK
    unfold seK at hK2
    rw [Bool.and_eq_true] at hK2
    obtain ⟨k, k1, ek⟩ := inN (m := 3) (by decide) hK2.1
    have hin := hK2.2
    have hcn : cN (xs (7 * t + 1)) = k := by rw [ek, cN_nI (by omega)]
    cases k with
    | zero =>
      rw [ek, if_pos (by rfl)] at hin
      refine g_aload_1 (q := 350) C dL_law_349 rfl ?_
      refine g_aload_0 (q := 351) C dL_law_350 rfl ?_
      refine g_iload_4 (q := 353) C dL_law_351 rfl ?_
      refine g_iconst (v := 1) (q := 354) C dL_law_353 rfl (by decide) ?_
      refine g_iadd (q := 355) C dL_law_354 rfl ?_
      refine g_sld (q := 356) (j := 7 * t + 1) LW dL_law_355 rfl (nI_add (7 * t) 1) (by omega) ?_
      refine g_aload_0 (q := 357) C dL_law_356 rfl ?_
      refine g_iload_4 (q := 359) C dL_law_357 rfl ?_
      refine g_iconst (v := 2) (q := 360) C dL_law_359 rfl (by decide) ?_
      refine g_iadd (q := 361) C dL_law_360 rfl ?_
      refine g_sld (q := 362) (j := 7 * t + 2) LW dL_law_361 rfl (nI_add (7 * t) 2) (by omega) ?_
      refine g_cv2g (q := 365) C cv_L_34 dL_law_362 rfl rfl (IX.d0 X.1 _ (by decide)) (m_X3_set X _ _) (by decide) (Nat.le_of_ble_eq_true rfl) ⟨by rw [hRc]; omega, by rw [hRs]; omega⟩ (fun v ad' dm' a' b' r' hp => ?_)
      obtain ⟨q1, q2, q4, q5, hp⟩ := hp
      obtain ⟨-, hp⟩ := hp.resolve_right (fun z => by rw [z.1] at hK; cases hK)
      obtain ⟨-, rfl, rfl⟩ := hp.resolve_right (fun z => by obtain ⟨k, k1, k2, -⟩ := z; rw [ek, nI_eq (by decide) (by omega)] at k2; omega)
      have q1 := q1.symm
      have q2 := q2.symm
      have q4 := q4.symm
      have q5 := q5.symm
      subst q1 q2 q4 q5
      have hfr : ∀ m, 100 ≤ m → u2 a 0 7 (xs (7 * t + 2)) m = a m := fun m hm => u2_n (by omega)
      have I := IM_fr I (hfr 100 (by decide))
      change G E _ _ _ _ _ _ _ 365 _ [.int (nu 0)]
      refine g_aload_2 (q := 366) C dL_law_365 rfl ?_
      refine g_aload_0 (q := 367) C dL_law_366 rfl ?_
      refine g_iload_4 (q := 369) C dL_law_367 rfl ?_
      refine g_iconst (v := 1) (q := 370) C dL_law_369 rfl (by decide) ?_
      refine g_iadd (q := 371) C dL_law_370 rfl ?_
      refine g_sld (q := 372) (j := 7 * t + 1) LW dL_law_371 rfl (nI_add (7 * t) 1) (by omega) ?_
      refine g_aload_0 (q := 373) C dL_law_372 rfl ?_
      refine g_iload_4 (q := 375) C dL_law_373 rfl ?_
      refine g_iconst (v := 2) (q := 376) C dL_law_375 rfl (by decide) ?_
      refine g_iadd (q := 377) C dL_law_376 rfl ?_
      refine g_sld (q := 378) (j := 7 * t + 2) LW dL_law_377 rfl (nI_add (7 * t) 2) (by omega) ?_
      refine g_cv2g (q := 381) C cv_L_37 dL_law_378 rfl rfl (IM.d I _ (by decide) (by decide)) (m_X4_set I rfl _ _) (by decide) (Nat.le_of_ble_eq_true rfl) ⟨by rw [hRc]; omega, by rw [hRs]; omega⟩ (fun v ad' dm' a' b' r' hp => ?_)
      obtain ⟨q1, q2, q4, q5, hp⟩ := hp
      obtain ⟨-, rfl, rfl⟩ := hp.resolve_right (fun z => by rw [z.1] at hK; cases hK)
      have q1 := q1.symm
      have q2 := q2.symm
      have q4 := q4.symm
      have q5 := q5.symm
      subst q1 q2 q4 q5
      rw [hcn, u2_n (show (103 : Nat) ≠ 100 by decide), hfr 103 (by decide), e3]
      change G E _ _ _ _ _ _ _ 381 _ [.int (nu 0), .int (nu 0)]
      refine g_icmp_eq (tgt := 753) (q := 384) C dL_law_381 rfl (by decide) (fun c_381 => ?_) (fun c_381 => absurd rfl c_381)
      refine g_wide (cl' := 102 + 2 * t) (sl' := 3018 + 18 * t) (by omega) (by omega) ?_
      exact hk ad dm _ b r _ _ (LV_s h (XR_s0 X) ⟨W, F, WN_s0 N hin⟩ B (fun m hm => by rw [u2_n (by omega), u2_n (by omega)]) ⟨by rw [u2_n (by decide), u2_k (by decide), hfr 100 (by decide)], by rw [u2_n (by decide), u2_k (by decide), hfr 100 (by decide)]⟩ ⟨by rw [u2_n (by decide), u2_n (by decide), hfr 101 (by decide)]; exact e1, by rw [u2_n (by decide), u2_n (by decide), hfr 102 (by decide)]; exact e2, by rw [u2_ud, u2_n (show (103 : Nat) ≠ 100 by decide), hfr 103 (by decide), e3]⟩)
    | succ k =>
      rw [ek, if_neg (fun z => by rw [show (0 : Int32) = nI 0 from rfl, nI_eq (by omega) (by decide)] at z; omega)] at hin
      refine g_aload_1 (q := 350) C dL_law_349 rfl ?_
      refine g_aload_0 (q := 351) C dL_law_350 rfl ?_
      refine g_iload_4 (q := 353) C dL_law_351 rfl ?_
      refine g_iconst (v := 1) (q := 354) C dL_law_353 rfl (by decide) ?_
      refine g_iadd (q := 355) C dL_law_354 rfl ?_
      refine g_sld (q := 356) (j := 7 * t + 1) LW dL_law_355 rfl (nI_add (7 * t) 1) (by omega) ?_
      refine g_aload_0 (q := 357) C dL_law_356 rfl ?_
      refine g_iload_4 (q := 359) C dL_law_357 rfl ?_
      refine g_iconst (v := 2) (q := 360) C dL_law_359 rfl (by decide) ?_
      refine g_iadd (q := 361) C dL_law_360 rfl ?_
      refine g_sld (q := 362) (j := 7 * t + 2) LW dL_law_361 rfl (nI_add (7 * t) 2) (by omega) ?_
      refine g_cv2g (q := 365) C cv_L_34 dL_law_362 rfl rfl (IX.d0 X.1 _ (by decide)) (m_X3_set X _ _) (by decide) (Nat.le_of_ble_eq_true rfl) ⟨by rw [hRc]; omega, by rw [hRs]; omega⟩ (fun v ad' dm' a' b' r' hp => ?_)
      obtain ⟨q1, q2, q4, q5, hp⟩ := hp
      obtain ⟨-, hp⟩ := hp.resolve_right (fun z => by rw [z.1] at hK; cases hK)
      obtain ⟨k9, k1, k2, rfl, rfl⟩ := hp.resolve_left (fun z => by rw [ek, show (0 : Int32) = nI 0 from rfl, nI_eq (by omega) (by decide)] at z; omega)
      have ek9 : k9 = k := by rw [ek, nI_eq (by omega) (by omega)] at k2; omega
      subst ek9
      have q1 := q1.symm
      have q2 := q2.symm
      have q4 := q4.symm
      have q5 := q5.symm
      subst q1 q2 q4 q5
      have hfr : ∀ m, 100 ≤ m → u2 a 3 k9 (xs (7 * t + 2)) m = a m := fun m hm => u2_n (by omega)
      have I := IM_fr I (hfr 100 (by decide))
      change G E _ _ _ _ _ _ _ 365 _ [.int (nu (k9 + 1))]
      refine g_aload_2 (q := 366) C dL_law_365 rfl ?_
      refine g_aload_0 (q := 367) C dL_law_366 rfl ?_
      refine g_iload_4 (q := 369) C dL_law_367 rfl ?_
      refine g_iconst (v := 1) (q := 370) C dL_law_369 rfl (by decide) ?_
      refine g_iadd (q := 371) C dL_law_370 rfl ?_
      refine g_sld (q := 372) (j := 7 * t + 1) LW dL_law_371 rfl (nI_add (7 * t) 1) (by omega) ?_
      refine g_aload_0 (q := 373) C dL_law_372 rfl ?_
      refine g_iload_4 (q := 375) C dL_law_373 rfl ?_
      refine g_iconst (v := 2) (q := 376) C dL_law_375 rfl (by decide) ?_
      refine g_iadd (q := 377) C dL_law_376 rfl ?_
      refine g_sld (q := 378) (j := 7 * t + 2) LW dL_law_377 rfl (nI_add (7 * t) 2) (by omega) ?_
      refine g_cv2g (q := 381) C cv_L_37 dL_law_378 rfl rfl (IM.d I _ (by decide) (by decide)) (m_X4_set I rfl _ _) (by decide) (Nat.le_of_ble_eq_true rfl) ⟨by rw [hRc]; omega, by rw [hRs]; omega⟩ (fun v ad' dm' a' b' r' hp => ?_)
      obtain ⟨q1, q2, q4, q5, hp⟩ := hp
      obtain ⟨-, rfl, rfl⟩ := hp.resolve_right (fun z => by rw [z.1] at hK; cases hK)
      have q1 := q1.symm
      have q2 := q2.symm
      have q4 := q4.symm
      have q5 := q5.symm
      subst q1 q2 q4 q5
      rw [hcn, u2_n (show (103 : Nat) ≠ 100 by decide), hfr 103 (by decide), e3]
      change G E _ _ _ _ _ _ _ 381 _ [.int (nu (k9 + 1)), .int (nu (k9 + 1))]
      refine g_icmp_eq (tgt := 753) (q := 384) C dL_law_381 rfl (by decide) (fun c_381 => ?_) (fun c_381 => absurd rfl c_381)
      refine g_wide (cl' := 102 + 2 * t) (sl' := 3018 + 18 * t) (by omega) (by omega) ?_
      exact hk ad dm _ b r _ _ (LV_s h (XR_s3 X (by omega)) ⟨W, F, WN_s3 N hin⟩ B (fun m hm => by rw [u2_n (by omega), u2_n (by omega)]) ⟨by rw [u2_n (by decide), u2_k (by decide), hfr 100 (by decide)], by rw [u2_n (by decide), u2_k (by decide), hfr 100 (by decide)]⟩ ⟨by rw [u2_n (by decide), u2_n (by decide), hfr 101 (by decide)]; exact e1, by rw [u2_n (by decide), u2_n (by decide), hfr 102 (by decide)]; exact e2, by rw [u2_ud, u2_n (show (103 : Nat) ≠ 100 by decide), hfr 103 (by decide), e3]⟩)
  | false =>
    refine g_aload_1 (q := 350) C dL_law_349 rfl ?_
    refine g_aload_0 (q := 351) C dL_law_350 rfl ?_
    refine g_iload_4 (q := 353) C dL_law_351 rfl ?_
    refine g_iconst (v := 1) (q := 354) C dL_law_353 rfl (by decide) ?_
    refine g_iadd (q := 355) C dL_law_354 rfl ?_
    refine g_sld (q := 356) (j := 7 * t + 1) LW dL_law_355 rfl (nI_add (7 * t) 1) (by omega) ?_
    refine g_aload_0 (q := 357) C dL_law_356 rfl ?_
    refine g_iload_4 (q := 359) C dL_law_357 rfl ?_
    refine g_iconst (v := 2) (q := 360) C dL_law_359 rfl (by decide) ?_
    refine g_iadd (q := 361) C dL_law_360 rfl ?_
    refine g_sld (q := 362) (j := 7 * t + 2) LW dL_law_361 rfl (nI_add (7 * t) 2) (by omega) ?_
    refine g_cv2g (q := 365) C cv_L_34 dL_law_362 rfl rfl (IX.d0 X.1 _ (by decide)) (m_X3_set X _ _) (by decide) (Nat.le_of_ble_eq_true rfl) ⟨by rw [hRc]; omega, by rw [hRs]; omega⟩ (fun v ad' dm' a' b' r' hp => ?_)
    obtain ⟨q1, q2, q4, q5, hp⟩ := hp
    obtain ⟨-, rfl, rfl⟩ := hp.resolve_left (fun z => by rw [z.1] at hK; cases hK)
    have q1 := q1.symm
    have q2 := q2.symm
    have q4 := q4.symm
    have q5 := q5.symm
    subst q1 q2 q4 q5
    change G E _ _ _ _ _ _ _ 365 _ [.int (-1)]
    refine g_aload_2 (q := 366) C dL_law_365 rfl ?_
    refine g_aload_0 (q := 367) C dL_law_366 rfl ?_
    refine g_iload_4 (q := 369) C dL_law_367 rfl ?_
    refine g_iconst (v := 1) (q := 370) C dL_law_369 rfl (by decide) ?_
    refine g_iadd (q := 371) C dL_law_370 rfl ?_
    refine g_sld (q := 372) (j := 7 * t + 1) LW dL_law_371 rfl (nI_add (7 * t) 1) (by omega) ?_
    refine g_aload_0 (q := 373) C dL_law_372 rfl ?_
    refine g_iload_4 (q := 375) C dL_law_373 rfl ?_
    refine g_iconst (v := 2) (q := 376) C dL_law_375 rfl (by decide) ?_
    refine g_iadd (q := 377) C dL_law_376 rfl ?_
    refine g_sld (q := 378) (j := 7 * t + 2) LW dL_law_377 rfl (nI_add (7 * t) 2) (by omega) ?_
    refine g_cv2g (q := 381) C cv_L_37 dL_law_378 rfl rfl (IM.d I _ (by decide) (by decide)) (m_X4_set I rfl _ _) (by decide) (Nat.le_of_ble_eq_true rfl) ⟨by rw [hRc]; omega, by rw [hRs]; omega⟩ (fun v ad' dm' a' b' r' hp => ?_)
    obtain ⟨q1, q2, q4, q5, hp⟩ := hp
    obtain ⟨-, rfl, rfl⟩ := hp.resolve_left (fun z => by rw [z.1] at hK; cases hK)
    have q1 := q1.symm
    have q2 := q2.symm
    have q4 := q4.symm
    have q5 := q5.symm
    subst q1 q2 q4 q5
    change G E _ _ _ _ _ _ _ 381 _ [.int (-1), .int (-1)]
    refine g_icmp_eq (tgt := 753) (q := 384) C dL_law_381 rfl (by decide) (fun c_381 => ?_) (fun c_381 => absurd rfl c_381)
    refine g_wide (cl' := 102 + 2 * t) (sl' := 3018 + 18 * t) (by omega) (by omega) ?_
    exact hk ad dm _ b r _ _ (LV_s h X ⟨W, F, N⟩ B (fun m hm => u2_n (by omega)) ⟨u2_k (by decide) _, u2_k (by decide) _⟩ ⟨by rw [u2_n (by decide)]; exact e1, by rw [u2_n (by decide)]; exact e2, by rw [u2_n (by decide)]; exact e3⟩)
set_option maxHeartbeats 4000000 in
set_option maxRecDepth 100000 in
theorem law_11 {e5 e6 : Option Value} (LW : LX E bb L xs) (ht : 7 * t + 7 ≤ L) (h : LV nF nP fl pa nu dm a r) (hk : ∀ (ad' : Nat → Nat) (dm' : Nat → Bool) (a' : Nat → Nat → Int32) (b' : Nat → Nat → Int64) (r' : Nat → Nat → Option Nat) (e5 e6 : Option Value), LVx dm' a' r' → G E (102 + 2 * t) (3018 + 18 * t) ad' dm' a' b' r' 753 [some (.ref bb), some (.ref (ad' 0)), some (.ref (ad' 100)), some (.ref (ad' 120)), some (.int (nI (7 * t))), e5, e6] []) : G E (100 + 2 * t) (3000 + 18 * t) ad dm a b r 640 [some (.ref bb), some (.ref (ad 0)), some (.ref (ad 100)), some (.ref (ad 120)), some (.int (nI (7 * t))), e5, e6] [] := by
  obtain ⟨X, I, ⟨e1, e2, e3⟩, ⟨W, F, N⟩, B, dF, dP, d8, d9, d0⟩ := id h
  obtain ⟨C, -, -, -, hRc, hRs, hL, hN⟩ := id LW
  have hnF := X.1.1
  have hnP := X.1.2.1
  cases hK : bkX fl pa nP (xs (7 * t + 1)) with
  | true =>
    have hKM : bkM fl pa nP (xs (7 * t + 1)) = true := (bk_eq W F hnF hnP (xs (7 * t + 1))).trans hK
    have hq : cN (xs (7 * t + 1)) < nP := by
      have hK2 := hK
      unfold bkX at hK2
      simp only [Bool.and_eq_true] at hK2
      obtain ⟨i, hi, ei⟩ := fok_t hK2.1.1.1 (by omega)
      rw [ei, cN_nI (by omega)]
      exact hi
    refine g_aload_1 (q := 641) C dL_law_640 rfl ?_
    refine g_aload_0 (q := 642) C dL_law_641 rfl ?_
    refine g_iload_4 (q := 644) C dL_law_642 rfl ?_
    refine g_iconst (v := 1) (q := 645) C dL_law_644 rfl (by decide) ?_
    refine g_iadd (q := 646) C dL_law_645 rfl ?_
    refine g_sld (q := 647) (j := 7 * t + 1) LW dL_law_646 rfl (nI_add (7 * t) 1) (by omega) ?_
    refine g_cv1g (q := 650) C cv_L_74 dL_law_647 rfl rfl (IX.d0 X.1 _ (by decide)) (m_X3_back X W F B _) (by decide) (Nat.le_of_ble_eq_true rfl) ⟨by rw [hRc]; omega, by rw [hRs]; omega⟩ (fun v ad' dm' a' b' r' hp => ?_)
    obtain ⟨-, rfl, q1, q2, q4, X2, B2, fr⟩ := hp.resolve_right (fun z => by rw [z.1] at hK; cases hK)
    have q1 := q1.symm
    have q2 := q2.symm
    have q4 := q4.symm
    subst q1 q2 q4
    have I := IM_fr I (fr 100 (by decide))
    change G E _ _ _ _ a' _ r' 650 _ [.int 1]
    refine g_aload_2 (q := 651) C dL_law_650 rfl ?_
    refine g_aload_0 (q := 652) C dL_law_651 rfl ?_
    refine g_iload_4 (q := 654) C dL_law_652 rfl ?_
    refine g_iconst (v := 1) (q := 655) C dL_law_654 rfl (by decide) ?_
    refine g_iadd (q := 656) C dL_law_655 rfl ?_
    refine g_sld (q := 657) (j := 7 * t + 1) LW dL_law_656 rfl (nI_add (7 * t) 1) (by omega) ?_
    refine g_cv1g (q := 660) C cv_L_78 dL_law_657 rfl rfl (IM.d I _ (by decide) (by decide)) (m_X4_back I rfl (by rw [u2_n (show (102 : Nat) ≠ 100 by decide), fr 102 (by decide), e2]; exact W) _) (by decide) (Nat.le_of_ble_eq_true rfl) ⟨by rw [hRc]; omega, by rw [hRs]; omega⟩ (fun v ad' dm' a' b' r' hp => ?_)
    obtain ⟨q1, q2, q4, q5, hp⟩ := hp
    rw [u2_n (show (101 : Nat) ≠ 100 by decide), u2_n (show (102 : Nat) ≠ 100 by decide), fr 101 (by decide), fr 102 (by decide), e1, e2] at hp
    obtain ⟨-, rfl, rfl⟩ := hp.resolve_right (fun z => by rw [z.1] at hKM; cases hKM)
    have q1 := q1.symm
    have q2 := q2.symm
    have q4 := q4.symm
    have q5 := q5.symm
    subst q1 q2 q4 q5
    change G E _ _ _ _ _ _ _ 660 _ [.int 1, .int 1]
    refine g_icmp_eq (tgt := 753) (q := 663) C dL_law_660 rfl (by decide) (fun c_660 => ?_) (fun c_660 => absurd rfl c_660)
    refine g_wide (cl' := 102 + 2 * t) (sl' := 3018 + 18 * t) (by omega) (by omega) ?_
    exact hk ad dm _ _ _ _ _ (LV_s h X2 ⟨gv_WP0 W hnF hq, F, N⟩ B2 (fun m hm => by rw [up1_n (by omega), u2_n (by omega)]) ⟨by rw [up1_n (by decide), u2_k (by decide), fr 100 (by decide)], by rw [up1_n (by decide), u2_k (by decide), fr 100 (by decide)]⟩ ⟨by rw [up1_n (by decide), u2_n (by decide), fr 101 (by decide)]; exact e1, up1_s, by rw [up1_n (by decide), u2_n (by decide), fr 103 (by decide)]; exact e3⟩)
  | false =>
    have hKM : bkM fl pa nP (xs (7 * t + 1)) = false := (bk_eq W F hnF hnP (xs (7 * t + 1))).trans hK
    refine g_aload_1 (q := 641) C dL_law_640 rfl ?_
    refine g_aload_0 (q := 642) C dL_law_641 rfl ?_
    refine g_iload_4 (q := 644) C dL_law_642 rfl ?_
    refine g_iconst (v := 1) (q := 645) C dL_law_644 rfl (by decide) ?_
    refine g_iadd (q := 646) C dL_law_645 rfl ?_
    refine g_sld (q := 647) (j := 7 * t + 1) LW dL_law_646 rfl (nI_add (7 * t) 1) (by omega) ?_
    refine g_cv1g (q := 650) C cv_L_74 dL_law_647 rfl rfl (IX.d0 X.1 _ (by decide)) (m_X3_back X W F B _) (by decide) (Nat.le_of_ble_eq_true rfl) ⟨by rw [hRc]; omega, by rw [hRs]; omega⟩ (fun v ad' dm' a' b' r' hp => ?_)
    obtain ⟨-, rfl, q1, q2, q3, q4, q5⟩ := hp.resolve_left (fun z => by rw [z.1] at hK; cases hK)
    have q1 := q1.symm
    have q2 := q2.symm
    have q3 := q3.symm
    have q4 := q4.symm
    have q5 := q5.symm
    subst q1 q2 q3 q4 q5
    change G E _ _ _ _ _ _ _ 650 _ [.int 0]
    refine g_aload_2 (q := 651) C dL_law_650 rfl ?_
    refine g_aload_0 (q := 652) C dL_law_651 rfl ?_
    refine g_iload_4 (q := 654) C dL_law_652 rfl ?_
    refine g_iconst (v := 1) (q := 655) C dL_law_654 rfl (by decide) ?_
    refine g_iadd (q := 656) C dL_law_655 rfl ?_
    refine g_sld (q := 657) (j := 7 * t + 1) LW dL_law_656 rfl (nI_add (7 * t) 1) (by omega) ?_
    refine g_cv1g (q := 660) C cv_L_78 dL_law_657 rfl rfl (IM.d I _ (by decide) (by decide)) (m_X4_back I rfl (by rw [u2_n (show (102 : Nat) ≠ 100 by decide), e2]; exact W) _) (by decide) (Nat.le_of_ble_eq_true rfl) ⟨by rw [hRc]; omega, by rw [hRs]; omega⟩ (fun v ad' dm' a' b' r' hp => ?_)
    obtain ⟨q1, q2, q4, q5, hp⟩ := hp
    rw [u2_n (show (101 : Nat) ≠ 100 by decide), u2_n (show (102 : Nat) ≠ 100 by decide),  e1, e2] at hp
    obtain ⟨-, rfl, rfl⟩ := hp.resolve_left (fun z => by rw [z.1] at hKM; cases hKM)
    have q1 := q1.symm
    have q2 := q2.symm
    have q4 := q4.symm
    have q5 := q5.symm
    subst q1 q2 q4 q5
    change G E _ _ _ _ _ _ _ 660 _ [.int 0, .int 0]
    refine g_icmp_eq (tgt := 753) (q := 663) C dL_law_660 rfl (by decide) (fun c_660 => ?_) (fun c_660 => absurd rfl c_660)
    refine g_wide (cl' := 102 + 2 * t) (sl' := 3018 + 18 * t) (by omega) (by omega) ?_
    exact hk ad dm _ b r _ _ (LV_s h X ⟨W, F, N⟩ B (fun m hm => u2_n (by omega)) ⟨u2_k (by decide) _, u2_k (by decide) _⟩ ⟨by rw [u2_n (by decide)]; exact e1, by rw [u2_n (by decide)]; exact e2, by rw [u2_n (by decide)]; exact e3⟩)
end L53
