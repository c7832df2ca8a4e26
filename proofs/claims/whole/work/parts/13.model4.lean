section M13
variable {g : GM} {bs : Nat} {l : Launch} {ad : Nat → Nat} {dm : Nat → Bool} {a : Nat → Nat → Int32} {b : Nat → Nat → Int64} {r : Nat → Nat → Option Nat} {nF nP : Nat}
def flK (nF : Nat) (x1 x2 x3 x4 x5 x6 : Int32) : Bool := inR x1 0 7 && inR x2 0 7 && decide (x1 ≠ x2) && inR x3 0 9999 && inR x4 0 9999 && decide (x3 < x4) && inR x5 1 40 && inR x6 1 9999 && decide (nF < 8)
def pyK (nF nP : Nat) (x1 x2 x3 x4 : Int32) : Bool := fok nF x1 && inR x2 1 6 && inR x3 0 9 && inR x4 (-1) 999 && decide (nP < 20)
/-- a row with k places from w on written anew -/
def rwN (f : Nat → Int32) (w : Nat) (v : Nat → Int32) (k : Nat) : Nat → Int32 := fun j => if w ≤ j ∧ j < w + k then v (j - w) else f j
def v7 (x1 x2 x3 x4 x5 x6 : Int32) : Nat → Int32 := fun j => if j = 6 then 0 else if j = 5 then x6 else if j = 4 then x5 else if j = 3 then x4 else if j = 2 then x3 else if j = 1 then x2 else if j = 0 then x1 else 0
def v9 (x1 x2 x3 x4 z : Int32) : Nat → Int32 := fun j => if j = 8 then -1 else if j = 7 then -1 else if j = 6 then 0 else if j = 5 then 0 else if j = 4 then z else if j = 3 then x4 else if j = 2 then x3 else if j = 1 then x2 else if j = 0 then x1 else 0
theorem rwN_0 {f : Nat → Int32} {w : Nat} {v : Nat → Int32} : rwN f w v 0 = f := by
  funext j
  unfold rwN
  rw [if_neg (by omega)]
theorem rwN_s {f : Nat → Int32} {w k : Nat} {v : Nat → Int32} : (fun j => if j = w + k then v k else rwN f w v k j) = rwN f w v (k + 1) := by
  funext j
  by_cases h : j = w + k
  · subst h
    rw [if_pos rfl, rwN, if_pos (by omega), show w + k - w = k by omega]
  · rw [if_neg h]
    unfold rwN
    by_cases h2 : w ≤ j ∧ j < w + k
    · rw [if_pos h2, if_pos (by omega)]
    · rw [if_neg h2, if_neg (by omega)]
theorem upz_up {a : Nat → Nat → Int32} {n : Nat} : upz a n 0 = up1 a n (fun _ => 0) := by
  funext i j
  by_cases h : i = n <;> simp [upz, up1, h]
theorem IM.dmN {n : Nat} (h : IM dm a nF nP) (hn : 115 ≤ n) : IM (va_up dm n true) a nF nP := ⟨fun i h1 h2 => by rw [va_up_ne _ _ (by omega)]; exact h.1 i h1 h2, h.2⟩
theorem n_eq {x : Int32} {n m : Nat} (h : x = nI n) (h2 : x = nI m) (hn : n < 100) (hm : m < 100) : n = m := (nI_eq (by omega) (by omega)).mp (h.symm.trans h2)
theorem fin_eq {V F : Nat → Int32} {x : Int32} {n w k j : Nat} (hj : j ≠ n) (hw : w ≠ 100) : u2 (up1 (up1 a n V) w F) 100 k x j = up1 (u2 a 100 k x) w F j := by
  funext i
  by_cases h1 : j = 100
  · subst h1
    simp [u2, up1, hj, Ne.symm hw]
  · by_cases h2 : j = w <;> simp [u2, up1, h1, h2, hj, hw]
theorem dm_up {n j : Nat} (hn : dm n = false) (hj : dm j = true) : va_up dm n true j = true := by
  rw [va_up_ne _ _ (fun e => by rw [e, hn] at hj; cases hj)]
  exact hj
theorem up1_id' {V : Nat → Int32} {n w : Nat} (h : w ≠ n) : up1 (up1 a n V) w (a w) = up1 a n V := by
  rw [show a w = up1 a n V w by simp [up1, h], up1_id]
set_option maxHeartbeats 4000000 in
set_option maxRecDepth 100000 in
theorem m_X4_flight (I : IM dm a nF nP) {a1 : Nat → Nat → Int32} (ha : a1 = u2 a 100 5 0) (hn : dm 118 = false) (hR : NR r) (x1 x2 x3 x4 x5 x6 : Int32) : MT g bs l yX4_flight cX4_flight 9 (some .int) 3 1 7 [.ref (ad 100), .int x1, .int x2, .int x3, .int x4, .int x5, .int x6] ad dm a b r (fun v ad0 dm0 a0 b0 r0 => ad0 = ad ∧ dm0 = dm ∧ b0 = b ∧ r0 = r ∧ ((flK nF x1 x2 x3 x4 x5 x6 = true ∧ a0 = (up1 (u2 a1 100 1 (nI (nF + 1))) 101 (rwN (a1 101) (7 * nF) (v7 x1 x2 x3 x4 x5 x6) 7)) ∧ v = some (.int (nI nF))) ∨ (flK nF x1 x2 x3 x4 x5 x6 = false ∧ a0 = a1 ∧ v = some (.int (-1))))) := by
  refine mt_of (by decide) [some (.ref (ad 100)), some (.int x1), some (.int x2), some (.int x3), some (.int x4), some (.int x5), some (.int x6), none, none] rfl (Nat.le_of_ble_eq_true rfl) ?_
  intro E hg hbs hl hN C RT9 hcells hslots hname
  have hnF := I.2.2.1
  have hnP := I.2.2.2.2
  have lq : IM dm a1 nF nP → flK nF x1 x2 x3 x4 x5 x6 = true → nF < 8 → ∀ ad1 : Nat → Nat, (∀ m, m ≠ 118 → ad1 m = ad m) → ∀ (k i : Nat) (a0 : Nat → Nat → Int32), i + k = 7 → a0 = up1 (up1 a1 118 (v7 x1 x2 x3 x4 x5 x6)) 101 (rwN (a1 101) (7 * nF) (v7 x1 x2 x3 x4 x5 x6) i) → G E 1 7 ad1 (va_up dm 118 true) a0 b r 134 [some (.ref (ad1 100)), some (.int x1), some (.int x2), some (.int x3), some (.int x4), some (.int x5), some (.int x6), some (.ref (ad1 118)), some (.int (nI i))] [] := by
    intro I hok hlt ad1 had k
    induction k with
    | zero =>
      intro i a0 hi h0
      have I := ((I.dmN (n := 118) (by decide)).up (n := 118) (f := (v7 x1 x2 x3 x4 x5 x6)) (by decide)).up (n := 101) (f := rwN (a1 101) (7 * nF) (v7 x1 x2 x3 x4 x5 x6) i) (by decide)
      rw [← h0] at I
      refine g_iload_8 (q := 136) C dX4_flight_134 rfl ?_
      refine g_bipush (v := 7) (q := 138) C dX4_flight_136 rfl (by decide) ?_
      refine g_icmp_ge (tgt := 167) (q := 141) C dX4_flight_138 rfl (by decide) (fun c_138 => ?_) (fun c_138 => absurd (nI_le (a := 7) (by omega) (by omega)) c_138)
      refine g_aload_0 (q := 168) C dX4_flight_167 rfl ?_
      refine g_dup (q := 169) C dX4_flight_168 rfl rfl ?_
      refine g_geti (q := 172) C f_X4_56 dX4_flight_169 rfl rfl (IM.d I _ (by decide) (by decide)) ?_
      refine g_iconst (v := 1) (q := 173) C dX4_flight_172 rfl (by decide) ?_
      refine g_iadd (q := 174) C dX4_flight_173 rfl ?_
      refine g_puti (q := 177) C p_X4_56 dX4_flight_174 rfl rfl (IM.d I _ (by decide) (by decide)) rfl rfl ?_
      refine g_aload_0 (q := 178) C dX4_flight_177 rfl ?_
      refine g_geti (q := 181) C f_X4_56 dX4_flight_178 rfl rfl (IM.d I _ (by decide) (by decide)) ?_
      refine g_iconst (v := 1) (q := 182) C dX4_flight_181 rfl (by decide) ?_
      refine g_isub (q := 183) C dX4_flight_182 rfl ?_
      rw [u2_s, I.nF, nI_1, show nI (nF + 1) - 1 = nI nF from nI_pred nF]
      refine g_fin (n := 118) (ad0 := ad) (dm0 := dm) (a0 := (up1 (u2 a1 100 1 (nI (nF + 1))) 101 (rwN (a1 101) (7 * nF) (v7 x1 x2 x3 x4 x5 x6) 7))) (b0 := b) (r0 := r) hn (fun j hj => ⟨dm_up hn hj, ?_, rfl, rfl⟩) had (kds_far (by decide)) (hR.no (by decide)) ?_
      · rw [h0, show i = 7 by omega]
        exact fin_eq (fun e => by rw [e, hn] at hj; cases hj) (by decide)
      exact g_iret C RT9 dX4_flight_183 ⟨rfl, rfl, rfl, rfl, Or.inl ⟨hok, rfl, rfl⟩⟩
    | succ k ih =>
      intro i a0 hi h0
      have I := ((I.dmN (n := 118) (by decide)).up (n := 118) (f := (v7 x1 x2 x3 x4 x5 x6)) (by decide)).up (n := 101) (f := rwN (a1 101) (7 * nF) (v7 x1 x2 x3 x4 x5 x6) i) (by decide)
      rw [← h0] at I
      refine g_iload_8 (q := 136) C dX4_flight_134 rfl ?_
      refine g_bipush (v := 7) (q := 138) C dX4_flight_136 rfl (by decide) ?_
      refine g_icmp_ge (tgt := 167) (q := 141) C dX4_flight_138 rfl (by decide) (fun c_138 => absurd c_138 (nI_ge (b := 7) (by omega) (by omega))) (fun c_138 => ?_)
      refine g_aload_0 (q := 142) C dX4_flight_141 rfl ?_
      refine g_getc (q := 145) (m := 101) C f_X4_9 dX4_flight_142 rfl rfl (IM.d I _ (by decide) (by decide)) ?_
      refine g_bipush (v := 7) (q := 147) C dX4_flight_145 rfl (by decide) ?_
      refine g_aload_0 (q := 148) C dX4_flight_147 rfl ?_
      refine g_geti (q := 151) C f_X4_56 dX4_flight_148 rfl rfl (IM.d I _ (by decide) (by decide)) ?_
      refine g_imul (q := 152) C dX4_flight_151 rfl ?_
      refine g_iload_8 (q := 154) C dX4_flight_152 rfl ?_
      refine g_iadd (q := 155) C dX4_flight_154 rfl ?_
      refine g_aload_7 (q := 157) C dX4_flight_155 rfl ?_
      refine g_iload_8 (q := 159) C dX4_flight_157 rfl ?_
      refine g_ia (q := 160) C dX4_flight_159 rfl rfl (by rw [va_up_self]) rfl (by omega) (by decide) ?_
      refine g_iast (q := 161) C dX4_flight_160 rfl rfl (IM.d I _ (by decide) (by decide)) (by rw [I.nF]; exact ix7 nF i) (by omega) (by decide) ?_
      refine g_iinc_8 (v := nI (i + 1)) (q := 164) C dX4_flight_161 rfl (by rw [hN]; decide) (nI_1 i) ?_
      refine g_goto (tgt := 134) C dX4_flight_164 (by decide) ?_
      exact ih (i + 1) _ (by omega) (by rw [h0, u2_up, show up1 (up1 a1 118 (v7 x1 x2 x3 x4 x5 x6)) 101 (rwN (a1 101) (7 * nF) (v7 x1 x2 x3 x4 x5 x6) i) 118 i = (v7 x1 x2 x3 x4 x5 x6) i from rfl, rwN_s])
  refine g_aload_0 (q := 1) C dX4_flight_0 rfl ?_
  refine g_iconst (v := 0) (q := 2) C dX4_flight_1 rfl (by decide) ?_
  refine g_puti (q := 5) C p_X4_52 dX4_flight_2 rfl rfl (IM.d I _ (by decide) (by decide)) rfl rfl ?_
  rw [← ha]
  have I : IM dm a1 nF nP := by rw [ha]; exact I.th
  refine g_iload_1 (q := 6) C dX4_flight_5 rfl ?_
  refine g_iconst (v := 0) (q := 7) C dX4_flight_6 rfl (by decide) ?_
  refine g_bipush (v := 7) (q := 9) C dX4_flight_7 rfl (by decide) ?_
  refine g_cs3i (q := 12) C cs_X4_59 dX4_flight_9 rfl (m_X4_in _ _ _) (by decide) (Nat.le_of_ble_eq_true rfl) ⟨Nat.zero_le _, Nat.zero_le _⟩ ?_
  refine g_ifeqb (tgt := 91) (q := 15) C dX4_flight_12 rfl (by decide) (fun c_12 => ?_) (fun c_12 => ?_)
  · refine g_iconst (v := (-1)) (q := 92) C dX4_flight_91 rfl (by decide) ?_
    refine g_wide (cl' := 1) (sl' := 7) (by decide) (by decide) ?_
    exact g_iret C RT9 dX4_flight_92 ⟨rfl, rfl, rfl, rfl, Or.inr ⟨by first | (simp [flK, c_12, c_22, c_27, c_38, c_50, Int32.not_le.mp c_56, c_67, c_79, n_eq I.nF c_88 (by omega) (by decide)]; done) | (simp [flK, c_12, c_22, c_27, c_38, c_50, Int32.not_le.mp c_56, c_67, c_79]; done) | (simp [flK, c_12, c_22, c_27, c_38, c_50, Int32.not_le.mp c_56, c_67]; done) | (simp [flK, c_12, c_22, c_27, c_38, c_50, Int32.not_lt.mpr c_56]; done) | (simp [flK, c_12, c_22, c_27, c_38, c_50]; done) | (simp [flK, c_12, c_22, c_27, c_38]; done) | (simp [flK, c_12, c_22, c_27]; done) | (simp [flK, c_12, c_22]; done) | (simp [flK, c_12]; done), rfl, rfl⟩⟩
  · refine g_iload_2 (q := 16) C dX4_flight_15 rfl ?_
    refine g_iconst (v := 0) (q := 17) C dX4_flight_16 rfl (by decide) ?_
    refine g_bipush (v := 7) (q := 19) C dX4_flight_17 rfl (by decide) ?_
    refine g_cs3i (q := 22) C cs_X4_59 dX4_flight_19 rfl (m_X4_in _ _ _) (by decide) (Nat.le_of_ble_eq_true rfl) ⟨Nat.zero_le _, Nat.zero_le _⟩ ?_
    refine g_ifeqb (tgt := 91) (q := 25) C dX4_flight_22 rfl (by decide) (fun c_22 => ?_) (fun c_22 => ?_)
    · refine g_iconst (v := (-1)) (q := 92) C dX4_flight_91 rfl (by decide) ?_
      refine g_wide (cl' := 1) (sl' := 7) (by decide) (by decide) ?_
      exact g_iret C RT9 dX4_flight_92 ⟨rfl, rfl, rfl, rfl, Or.inr ⟨by first | (simp [flK, c_12, c_22, c_27, c_38, c_50, Int32.not_le.mp c_56, c_67, c_79, n_eq I.nF c_88 (by omega) (by decide)]; done) | (simp [flK, c_12, c_22, c_27, c_38, c_50, Int32.not_le.mp c_56, c_67, c_79]; done) | (simp [flK, c_12, c_22, c_27, c_38, c_50, Int32.not_le.mp c_56, c_67]; done) | (simp [flK, c_12, c_22, c_27, c_38, c_50, Int32.not_lt.mpr c_56]; done) | (simp [flK, c_12, c_22, c_27, c_38, c_50]; done) | (simp [flK, c_12, c_22, c_27, c_38]; done) | (simp [flK, c_12, c_22, c_27]; done) | (simp [flK, c_12, c_22]; done) | (simp [flK, c_12]; done), rfl, rfl⟩⟩
    · refine g_iload_1 (q := 26) C dX4_flight_25 rfl ?_
      refine g_iload_2 (q := 27) C dX4_flight_26 rfl ?_
      refine g_icmp_eq (tgt := 91) (q := 30) C dX4_flight_27 rfl (by decide) (fun c_27 => ?_) (fun c_27 => ?_)
      · refine g_iconst (v := (-1)) (q := 92) C dX4_flight_91 rfl (by decide) ?_
        refine g_wide (cl' := 1) (sl' := 7) (by decide) (by decide) ?_
        exact g_iret C RT9 dX4_flight_92 ⟨rfl, rfl, rfl, rfl, Or.inr ⟨by first | (simp [flK, c_12, c_22, c_27, c_38, c_50, Int32.not_le.mp c_56, c_67, c_79, n_eq I.nF c_88 (by omega) (by decide)]; done) | (simp [flK, c_12, c_22, c_27, c_38, c_50, Int32.not_le.mp c_56, c_67, c_79]; done) | (simp [flK, c_12, c_22, c_27, c_38, c_50, Int32.not_le.mp c_56, c_67]; done) | (simp [flK, c_12, c_22, c_27, c_38, c_50, Int32.not_lt.mpr c_56]; done) | (simp [flK, c_12, c_22, c_27, c_38, c_50]; done) | (simp [flK, c_12, c_22, c_27, c_38]; done) | (simp [flK, c_12, c_22, c_27]; done) | (simp [flK, c_12, c_22]; done) | (simp [flK, c_12]; done), rfl, rfl⟩⟩
      · refine g_iload_3 (q := 31) C dX4_flight_30 rfl ?_
        refine g_iconst (v := 0) (q := 32) C dX4_flight_31 rfl (by decide) ?_
        refine g_sipush (v := 9999) (q := 35) C dX4_flight_32 rfl (by decide) ?_
        refine g_cs3i (q := 38) C cs_X4_59 dX4_flight_35 rfl (m_X4_in _ _ _) (by decide) (Nat.le_of_ble_eq_true rfl) ⟨Nat.zero_le _, Nat.zero_le _⟩ ?_
        refine g_ifeqb (tgt := 91) (q := 41) C dX4_flight_38 rfl (by decide) (fun c_38 => ?_) (fun c_38 => ?_)
        · refine g_iconst (v := (-1)) (q := 92) C dX4_flight_91 rfl (by decide) ?_
          refine g_wide (cl' := 1) (sl' := 7) (by decide) (by decide) ?_
          exact g_iret C RT9 dX4_flight_92 ⟨rfl, rfl, rfl, rfl, Or.inr ⟨by first | (simp [flK, c_12, c_22, c_27, c_38, c_50, Int32.not_le.mp c_56, c_67, c_79, n_eq I.nF c_88 (by omega) (by decide)]; done) | (simp [flK, c_12, c_22, c_27, c_38, c_50, Int32.not_le.mp c_56, c_67, c_79]; done) | (simp [flK, c_12, c_22, c_27, c_38, c_50, Int32.not_le.mp c_56, c_67]; done) | (simp [flK, c_12, c_22, c_27, c_38, c_50, Int32.not_lt.mpr c_56]; done) | (simp [flK, c_12, c_22, c_27, c_38, c_50]; done) | (simp [flK, c_12, c_22, c_27, c_38]; done) | (simp [flK, c_12, c_22, c_27]; done) | (simp [flK, c_12, c_22]; done) | (simp [flK, c_12]; done), rfl, rfl⟩⟩
        · refine g_iload_4 (q := 43) C dX4_flight_41 rfl ?_
          refine g_iconst (v := 0) (q := 44) C dX4_flight_43 rfl (by decide) ?_
          refine g_sipush (v := 9999) (q := 47) C dX4_flight_44 rfl (by decide) ?_
          refine g_cs3i (q := 50) C cs_X4_59 dX4_flight_47 rfl (m_X4_in _ _ _) (by decide) (Nat.le_of_ble_eq_true rfl) ⟨Nat.zero_le _, Nat.zero_le _⟩ ?_
          refine g_ifeqb (tgt := 91) (q := 53) C dX4_flight_50 rfl (by decide) (fun c_50 => ?_) (fun c_50 => ?_)
          · refine g_iconst (v := (-1)) (q := 92) C dX4_flight_91 rfl (by decide) ?_
            refine g_wide (cl' := 1) (sl' := 7) (by decide) (by decide) ?_
            exact g_iret C RT9 dX4_flight_92 ⟨rfl, rfl, rfl, rfl, Or.inr ⟨by first | (simp [flK, c_12, c_22, c_27, c_38, c_50, Int32.not_le.mp c_56, c_67, c_79, n_eq I.nF c_88 (by omega) (by decide)]; done) | (simp [flK, c_12, c_22, c_27, c_38, c_50, Int32.not_le.mp c_56, c_67, c_79]; done) | (simp [flK, c_12, c_22, c_27, c_38, c_50, Int32.not_le.mp c_56, c_67]; done) | (simp [flK, c_12, c_22, c_27, c_38, c_50, Int32.not_lt.mpr c_56]; done) | (simp [flK, c_12, c_22, c_27, c_38, c_50]; done) | (simp [flK, c_12, c_22, c_27, c_38]; done) | (simp [flK, c_12, c_22, c_27]; done) | (simp [flK, c_12, c_22]; done) | (simp [flK, c_12]; done), rfl, rfl⟩⟩
          · refine g_iload_3 (q := 54) C dX4_flight_53 rfl ?_
            refine g_iload_4 (q := 56) C dX4_flight_54 rfl ?_
            refine g_icmp_ge (tgt := 91) (q := 59) C dX4_flight_56 rfl (by decide) (fun c_56 => ?_) (fun c_56 => ?_)
            · refine g_iconst (v := (-1)) (q := 92) C dX4_flight_91 rfl (by decide) ?_
              refine g_wide (cl' := 1) (sl' := 7) (by decide) (by decide) ?_
              exact g_iret C RT9 dX4_flight_92 ⟨rfl, rfl, rfl, rfl, Or.inr ⟨by first | (simp [flK, c_12, c_22, c_27, c_38, c_50, Int32.not_le.mp c_56, c_67, c_79, n_eq I.nF c_88 (by omega) (by decide)]; done) | (simp [flK, c_12, c_22, c_27, c_38, c_50, Int32.not_le.mp c_56, c_67, c_79]; done) | (simp [flK, c_12, c_22, c_27, c_38, c_50, Int32.not_le.mp c_56, c_67]; done) | (simp [flK, c_12, c_22, c_27, c_38, c_50, Int32.not_lt.mpr c_56]; done) | (simp [flK, c_12, c_22, c_27, c_38, c_50]; done) | (simp [flK, c_12, c_22, c_27, c_38]; done) | (simp [flK, c_12, c_22, c_27]; done) | (simp [flK, c_12, c_22]; done) | (simp [flK, c_12]; done), rfl, rfl⟩⟩
            · refine g_iload_5 (q := 61) C dX4_flight_59 rfl ?_
              refine g_iconst (v := 1) (q := 62) C dX4_flight_61 rfl (by decide) ?_
              refine g_bipush (v := 40) (q := 64) C dX4_flight_62 rfl (by decide) ?_
              refine g_cs3i (q := 67) C cs_X4_59 dX4_flight_64 rfl (m_X4_in _ _ _) (by decide) (Nat.le_of_ble_eq_true rfl) ⟨Nat.zero_le _, Nat.zero_le _⟩ ?_
              refine g_ifeqb (tgt := 91) (q := 70) C dX4_flight_67 rfl (by decide) (fun c_67 => ?_) (fun c_67 => ?_)
              · refine g_iconst (v := (-1)) (q := 92) C dX4_flight_91 rfl (by decide) ?_
                refine g_wide (cl' := 1) (sl' := 7) (by decide) (by decide) ?_
                exact g_iret C RT9 dX4_flight_92 ⟨rfl, rfl, rfl, rfl, Or.inr ⟨by first | (simp [flK, c_12, c_22, c_27, c_38, c_50, Int32.not_le.mp c_56, c_67, c_79, n_eq I.nF c_88 (by omega) (by decide)]; done) | (simp [flK, c_12, c_22, c_27, c_38, c_50, Int32.not_le.mp c_56, c_67, c_79]; done) | (simp [flK, c_12, c_22, c_27, c_38, c_50, Int32.not_le.mp c_56, c_67]; done) | (simp [flK, c_12, c_22, c_27, c_38, c_50, Int32.not_lt.mpr c_56]; done) | (simp [flK, c_12, c_22, c_27, c_38, c_50]; done) | (simp [flK, c_12, c_22, c_27, c_38]; done) | (simp [flK, c_12, c_22, c_27]; done) | (simp [flK, c_12, c_22]; done) | (simp [flK, c_12]; done), rfl, rfl⟩⟩
              · refine g_iload_6 (q := 72) C dX4_flight_70 rfl ?_
                refine g_iconst (v := 1) (q := 73) C dX4_flight_72 rfl (by decide) ?_
                refine g_sipush (v := 9999) (q := 76) C dX4_flight_73 rfl (by decide) ?_
                refine g_cs3i (q := 79) C cs_X4_59 dX4_flight_76 rfl (m_X4_in _ _ _) (by decide) (Nat.le_of_ble_eq_true rfl) ⟨Nat.zero_le _, Nat.zero_le _⟩ ?_
                refine g_ifeqb (tgt := 91) (q := 82) C dX4_flight_79 rfl (by decide) (fun c_79 => ?_) (fun c_79 => ?_)
                · refine g_iconst (v := (-1)) (q := 92) C dX4_flight_91 rfl (by decide) ?_
                  refine g_wide (cl' := 1) (sl' := 7) (by decide) (by decide) ?_
                  exact g_iret C RT9 dX4_flight_92 ⟨rfl, rfl, rfl, rfl, Or.inr ⟨by first | (simp [flK, c_12, c_22, c_27, c_38, c_50, Int32.not_le.mp c_56, c_67, c_79, n_eq I.nF c_88 (by omega) (by decide)]; done) | (simp [flK, c_12, c_22, c_27, c_38, c_50, Int32.not_le.mp c_56, c_67, c_79]; done) | (simp [flK, c_12, c_22, c_27, c_38, c_50, Int32.not_le.mp c_56, c_67]; done) | (simp [flK, c_12, c_22, c_27, c_38, c_50, Int32.not_lt.mpr c_56]; done) | (simp [flK, c_12, c_22, c_27, c_38, c_50]; done) | (simp [flK, c_12, c_22, c_27, c_38]; done) | (simp [flK, c_12, c_22, c_27]; done) | (simp [flK, c_12, c_22]; done) | (simp [flK, c_12]; done), rfl, rfl⟩⟩
                · refine g_aload_0 (q := 83) C dX4_flight_82 rfl ?_
                  refine g_geti (q := 86) C f_X4_56 dX4_flight_83 rfl rfl (IM.d I _ (by decide) (by decide)) ?_
                  refine g_bipush (v := 8) (q := 88) C dX4_flight_86 rfl (by decide) ?_
                  refine g_icmp_ne (tgt := 93) (q := 91) C dX4_flight_88 rfl (by decide) (fun c_88 => ?_) (fun c_88 => ?_)
                  · have h88 : nF < 8 := by
                      rcases Nat.lt_or_ge nF 8 with h | h
                      · exact h
                      · exact absurd (by rw [I.nF, show nF = 8 by omega]; rfl) c_88
                    refine g_bipush (v := 7) (q := 95) C dX4_flight_93 rfl (by decide) ?_
                    refine g_newi (n := 118) (N := 7) (q := 97) C dX4_flight_95 rfl ac_I rfl hn (kds_far (by decide)) (hR.no (by decide)) rfl (by decide) ⟨by rw [hcells]; decide, by rw [hslots]; decide⟩ (fun ad1 had => ?_)
                    rw [← had 100 (by decide)]
                    refine g_dup (q := 98) C dX4_flight_97 rfl rfl ?_
                    refine g_iconst (v := 0) (q := 99) C dX4_flight_98 rfl (by decide) ?_
                    refine g_iload_1 (q := 100) C dX4_flight_99 rfl ?_
                    refine g_iast (q := 101) C dX4_flight_100 rfl rfl (by rw [va_up_self]) (show _ = nI 0 from rfl) (by decide) (by decide) ?_
                    refine g_dup (q := 102) C dX4_flight_101 rfl rfl ?_
                    refine g_iconst (v := 1) (q := 103) C dX4_flight_102 rfl (by decide) ?_
                    refine g_iload_2 (q := 104) C dX4_flight_103 rfl ?_
                    refine g_iast (q := 105) C dX4_flight_104 rfl rfl (by rw [va_up_self]) (show _ = nI 1 from rfl) (by decide) (by decide) ?_
                    refine g_dup (q := 106) C dX4_flight_105 rfl rfl ?_
                    refine g_iconst (v := 2) (q := 107) C dX4_flight_106 rfl (by decide) ?_
                    refine g_iload_3 (q := 108) C dX4_flight_107 rfl ?_
                    refine g_iast (q := 109) C dX4_flight_108 rfl rfl (by rw [va_up_self]) (show _ = nI 2 from rfl) (by decide) (by decide) ?_
                    refine g_dup (q := 110) C dX4_flight_109 rfl rfl ?_
                    refine g_iconst (v := 3) (q := 111) C dX4_flight_110 rfl (by decide) ?_
                    refine g_iload_4 (q := 113) C dX4_flight_111 rfl ?_
                    refine g_iast (q := 114) C dX4_flight_113 rfl rfl (by rw [va_up_self]) (show _ = nI 3 from rfl) (by decide) (by decide) ?_
                    refine g_dup (q := 115) C dX4_flight_114 rfl rfl ?_
                    refine g_iconst (v := 4) (q := 116) C dX4_flight_115 rfl (by decide) ?_
                    refine g_iload_5 (q := 118) C dX4_flight_116 rfl ?_
                    refine g_iast (q := 119) C dX4_flight_118 rfl rfl (by rw [va_up_self]) (show _ = nI 4 from rfl) (by decide) (by decide) ?_
                    refine g_dup (q := 120) C dX4_flight_119 rfl rfl ?_
                    refine g_iconst (v := 5) (q := 121) C dX4_flight_120 rfl (by decide) ?_
                    refine g_iload_6 (q := 123) C dX4_flight_121 rfl ?_
                    refine g_iast (q := 124) C dX4_flight_123 rfl rfl (by rw [va_up_self]) (show _ = nI 5 from rfl) (by decide) (by decide) ?_
                    refine g_dup (q := 125) C dX4_flight_124 rfl rfl ?_
                    refine g_bipush (v := 6) (q := 127) C dX4_flight_125 rfl (by decide) ?_
                    refine g_iconst (v := 0) (q := 128) C dX4_flight_127 rfl (by decide) ?_
                    refine g_iast (q := 129) C dX4_flight_128 rfl rfl (by rw [va_up_self]) (show _ = nI 6 from rfl) (by decide) (by decide) ?_
                    refine g_astore_7 (q := 131) C dX4_flight_129 rfl (by rw [hN]; decide) rfl ?_
                    refine g_iconst (v := 0) (q := 132) C dX4_flight_131 rfl (by decide) ?_
                    refine g_istore_8 (q := 134) C dX4_flight_132 rfl (by rw [hN]; decide) rfl ?_
                    exact lq I (by simp [flK, c_12, c_22, c_27, c_38, c_50, Int32.not_le.mp c_56, c_67, c_79, h88]) h88 ad1 had 7 0 _ (by omega) (by rw [upz_up, u2_up, u2_up, u2_up, u2_up, u2_up, u2_up, u2_up, rwN_0, up1_id' (by decide)]; rfl)
                  · refine g_iconst (v := (-1)) (q := 92) C dX4_flight_91 rfl (by decide) ?_
                    refine g_wide (cl' := 1) (sl' := 7) (by decide) (by decide) ?_
                    exact g_iret C RT9 dX4_flight_92 ⟨rfl, rfl, rfl, rfl, Or.inr ⟨by first | (simp [flK, c_12, c_22, c_27, c_38, c_50, Int32.not_le.mp c_56, c_67, c_79, n_eq I.nF c_88 (by omega) (by decide)]; done) | (simp [flK, c_12, c_22, c_27, c_38, c_50, Int32.not_le.mp c_56, c_67, c_79]; done) | (simp [flK, c_12, c_22, c_27, c_38, c_50, Int32.not_le.mp c_56, c_67]; done) | (simp [flK, c_12, c_22, c_27, c_38, c_50, Int32.not_lt.mpr c_56]; done) | (simp [flK, c_12, c_22, c_27, c_38, c_50]; done) | (simp [flK, c_12, c_22, c_27, c_38]; done) | (simp [flK, c_12, c_22, c_27]; done) | (simp [flK, c_12, c_22]; done) | (simp [flK, c_12]; done), rfl, rfl⟩⟩

set_option maxHeartbeats 4000000 in
set_option maxRecDepth 100000 in
theorem m_X4_party (I : IM dm a nF nP) {a1 : Nat → Nat → Int32} (ha : a1 = u2 a 100 5 0) (hn : dm 119 = false) (hR : NR r) (x1 x2 x3 x4 z : Int32) : MT g bs l yX4_party cX4_party 8 (some .int) 3 1 9 [.ref (ad 100), .int x1, .int x2, .int x3, .int x4, .int z] ad dm a b r (fun v ad0 dm0 a0 b0 r0 => ad0 = ad ∧ dm0 = dm ∧ b0 = b ∧ r0 = r ∧ ((pyK nF nP x1 x2 x3 x4 = true ∧ a0 = (up1 (u2 a1 100 3 (nI (nP + 1))) 102 (rwN (a1 102) (9 * nP) (v9 x1 x2 x3 x4 (if z = 0 then 0 else 1)) 9)) ∧ v = some (.int (nI nP))) ∨ (pyK nF nP x1 x2 x3 x4 = false ∧ a0 = a1 ∧ v = some (.int (-1))))) := by
  refine mt_of (by decide) [some (.ref (ad 100)), some (.int x1), some (.int x2), some (.int x3), some (.int x4), some (.int z), none, none] rfl (Nat.le_of_ble_eq_true rfl) ?_
  intro E hg hbs hl hN C RT9 hcells hslots hname
  have hnF := I.2.2.1
  have hnP := I.2.2.2.2
  have lq : IM dm a1 nF nP → pyK nF nP x1 x2 x3 x4 = true → nP < 20 → ∀ ad1 : Nat → Nat, (∀ m, m ≠ 119 → ad1 m = ad m) → ∀ (k i : Nat) (a0 : Nat → Nat → Int32), i + k = 9 → a0 = up1 (up1 a1 119 (v9 x1 x2 x3 x4 (if z = 0 then 0 else 1))) 102 (rwN (a1 102) (9 * nP) (v9 x1 x2 x3 x4 (if z = 0 then 0 else 1)) i) → G E 1 9 ad1 (va_up dm 119 true) a0 b r 114 [some (.ref (ad1 100)), some (.int x1), some (.int x2), some (.int x3), some (.int x4), some (.int z), some (.ref (ad1 119)), some (.int (nI i))] [] := by
    intro I hok hlt ad1 had k
    induction k with
    | zero =>
      intro i a0 hi h0
      have I := ((I.dmN (n := 119) (by decide)).up (n := 119) (f := (v9 x1 x2 x3 x4 (if z = 0 then 0 else 1))) (by decide)).up (n := 102) (f := rwN (a1 102) (9 * nP) (v9 x1 x2 x3 x4 (if z = 0 then 0 else 1)) i) (by decide)
      rw [← h0] at I
      refine g_iload_7 (q := 116) C dX4_party_114 rfl ?_
      refine g_bipush (v := 9) (q := 118) C dX4_party_116 rfl (by decide) ?_
      refine g_icmp_ge (tgt := 147) (q := 121) C dX4_party_118 rfl (by decide) (fun c_118 => ?_) (fun c_118 => absurd (nI_le (a := 9) (by omega) (by omega)) c_118)
      refine g_aload_0 (q := 148) C dX4_party_147 rfl ?_
      refine g_dup (q := 149) C dX4_party_148 rfl rfl ?_
      refine g_geti (q := 152) C f_X4_63 dX4_party_149 rfl rfl (IM.d I _ (by decide) (by decide)) ?_
      refine g_iconst (v := 1) (q := 153) C dX4_party_152 rfl (by decide) ?_
      refine g_iadd (q := 154) C dX4_party_153 rfl ?_
      refine g_puti (q := 157) C p_X4_63 dX4_party_154 rfl rfl (IM.d I _ (by decide) (by decide)) rfl rfl ?_
      refine g_aload_0 (q := 158) C dX4_party_157 rfl ?_
      refine g_geti (q := 161) C f_X4_63 dX4_party_158 rfl rfl (IM.d I _ (by decide) (by decide)) ?_
      refine g_iconst (v := 1) (q := 162) C dX4_party_161 rfl (by decide) ?_
      refine g_isub (q := 163) C dX4_party_162 rfl ?_
      rw [u2_s, I.nP, nI_1, show nI (nP + 1) - 1 = nI nP from nI_pred nP]
      refine g_fin (n := 119) (ad0 := ad) (dm0 := dm) (a0 := (up1 (u2 a1 100 3 (nI (nP + 1))) 102 (rwN (a1 102) (9 * nP) (v9 x1 x2 x3 x4 (if z = 0 then 0 else 1)) 9))) (b0 := b) (r0 := r) hn (fun j hj => ⟨dm_up hn hj, ?_, rfl, rfl⟩) had (kds_far (by decide)) (hR.no (by decide)) ?_
      · rw [h0, show i = 9 by omega]
        exact fin_eq (fun e => by rw [e, hn] at hj; cases hj) (by decide)
      exact g_iret C RT9 dX4_party_163 ⟨rfl, rfl, rfl, rfl, Or.inl ⟨hok, rfl, rfl⟩⟩
    | succ k ih =>
      intro i a0 hi h0
      have I := ((I.dmN (n := 119) (by decide)).up (n := 119) (f := (v9 x1 x2 x3 x4 (if z = 0 then 0 else 1))) (by decide)).up (n := 102) (f := rwN (a1 102) (9 * nP) (v9 x1 x2 x3 x4 (if z = 0 then 0 else 1)) i) (by decide)
      rw [← h0] at I
      refine g_iload_7 (q := 116) C dX4_party_114 rfl ?_
      refine g_bipush (v := 9) (q := 118) C dX4_party_116 rfl (by decide) ?_
      refine g_icmp_ge (tgt := 147) (q := 121) C dX4_party_118 rfl (by decide) (fun c_118 => absurd c_118 (nI_ge (b := 9) (by omega) (by omega))) (fun c_118 => ?_)
      refine g_aload_0 (q := 122) C dX4_party_121 rfl ?_
      refine g_getc (q := 125) (m := 102) C f_X4_13 dX4_party_122 rfl rfl (IM.d I _ (by decide) (by decide)) ?_
      refine g_bipush (v := 9) (q := 127) C dX4_party_125 rfl (by decide) ?_
      refine g_aload_0 (q := 128) C dX4_party_127 rfl ?_
      refine g_geti (q := 131) C f_X4_63 dX4_party_128 rfl rfl (IM.d I _ (by decide) (by decide)) ?_
      refine g_imul (q := 132) C dX4_party_131 rfl ?_
      refine g_iload_7 (q := 134) C dX4_party_132 rfl ?_
      refine g_iadd (q := 135) C dX4_party_134 rfl ?_
      refine g_aload_6 (q := 137) C dX4_party_135 rfl ?_
      refine g_iload_7 (q := 139) C dX4_party_137 rfl ?_
      refine g_ia (q := 140) C dX4_party_139 rfl rfl (by rw [va_up_self]) rfl (by omega) (by decide) ?_
      refine g_iast (q := 141) C dX4_party_140 rfl rfl (IM.d I _ (by decide) (by decide)) (by rw [I.nP]; exact ix9 nP i) (by omega) (by decide) ?_
      refine g_iinc_7 (v := nI (i + 1)) (q := 144) C dX4_party_141 rfl (by rw [hN]; decide) (nI_1 i) ?_
      refine g_goto (tgt := 114) C dX4_party_144 (by decide) ?_
      exact ih (i + 1) _ (by omega) (by rw [h0, u2_up, show up1 (up1 a1 119 (v9 x1 x2 x3 x4 (if z = 0 then 0 else 1))) 102 (rwN (a1 102) (9 * nP) (v9 x1 x2 x3 x4 (if z = 0 then 0 else 1)) i) 119 i = (v9 x1 x2 x3 x4 (if z = 0 then 0 else 1)) i from rfl, rwN_s])
  refine g_aload_0 (q := 1) C dX4_party_0 rfl ?_
  refine g_iconst (v := 0) (q := 2) C dX4_party_1 rfl (by decide) ?_
  refine g_puti (q := 5) C p_X4_52 dX4_party_2 rfl rfl (IM.d I _ (by decide) (by decide)) rfl rfl ?_
  rw [← ha]
  have I : IM dm a1 nF nP := by rw [ha]; exact I.th
  refine g_aload_0 (q := 6) C dX4_party_5 rfl ?_
  refine g_iload_1 (q := 7) C dX4_party_6 rfl ?_
  refine g_cv1i (q := 10) C cv_X4_66 dX4_party_7 rfl rfl (IM.d I _ (by decide) (by decide)) (m_X4_isFlight I _) (by decide) (Nat.le_of_ble_eq_true rfl) ⟨Nat.zero_le _, Nat.zero_le _⟩ ?_
  refine g_ifeqb (tgt := 54) (q := 13) C dX4_party_10 rfl (by decide) (fun c_10 => ?_) (fun c_10 => ?_)
  · refine g_iconst (v := (-1)) (q := 55) C dX4_party_54 rfl (by decide) ?_
    refine g_wide (cl' := 1) (sl' := 9) (by decide) (by decide) ?_
    exact g_iret C RT9 dX4_party_55 ⟨rfl, rfl, rfl, rfl, Or.inr ⟨by first | (simp [pyK, c_10, c_20, c_30, c_42, n_eq I.nP c_51 (by omega) (by decide)]; done) | (simp [pyK, c_10, c_20, c_30, c_42]; done) | (simp [pyK, c_10, c_20, c_30]; done) | (simp [pyK, c_10, c_20]; done) | (simp [pyK, c_10]; done), rfl, rfl⟩⟩
  · refine g_iload_2 (q := 14) C dX4_party_13 rfl ?_
    refine g_iconst (v := 1) (q := 15) C dX4_party_14 rfl (by decide) ?_
    refine g_bipush (v := 6) (q := 17) C dX4_party_15 rfl (by decide) ?_
    refine g_cs3i (q := 20) C cs_X4_59 dX4_party_17 rfl (m_X4_in _ _ _) (by decide) (Nat.le_of_ble_eq_true rfl) ⟨Nat.zero_le _, Nat.zero_le _⟩ ?_
    refine g_ifeqb (tgt := 54) (q := 23) C dX4_party_20 rfl (by decide) (fun c_20 => ?_) (fun c_20 => ?_)
    · refine g_iconst (v := (-1)) (q := 55) C dX4_party_54 rfl (by decide) ?_
      refine g_wide (cl' := 1) (sl' := 9) (by decide) (by decide) ?_
      exact g_iret C RT9 dX4_party_55 ⟨rfl, rfl, rfl, rfl, Or.inr ⟨by first | (simp [pyK, c_10, c_20, c_30, c_42, n_eq I.nP c_51 (by omega) (by decide)]; done) | (simp [pyK, c_10, c_20, c_30, c_42]; done) | (simp [pyK, c_10, c_20, c_30]; done) | (simp [pyK, c_10, c_20]; done) | (simp [pyK, c_10]; done), rfl, rfl⟩⟩
    · refine g_iload_3 (q := 24) C dX4_party_23 rfl ?_
      refine g_iconst (v := 0) (q := 25) C dX4_party_24 rfl (by decide) ?_
      refine g_bipush (v := 9) (q := 27) C dX4_party_25 rfl (by decide) ?_
      refine g_cs3i (q := 30) C cs_X4_59 dX4_party_27 rfl (m_X4_in _ _ _) (by decide) (Nat.le_of_ble_eq_true rfl) ⟨Nat.zero_le _, Nat.zero_le _⟩ ?_
      refine g_ifeqb (tgt := 54) (q := 33) C dX4_party_30 rfl (by decide) (fun c_30 => ?_) (fun c_30 => ?_)
      · refine g_iconst (v := (-1)) (q := 55) C dX4_party_54 rfl (by decide) ?_
        refine g_wide (cl' := 1) (sl' := 9) (by decide) (by decide) ?_
        exact g_iret C RT9 dX4_party_55 ⟨rfl, rfl, rfl, rfl, Or.inr ⟨by first | (simp [pyK, c_10, c_20, c_30, c_42, n_eq I.nP c_51 (by omega) (by decide)]; done) | (simp [pyK, c_10, c_20, c_30, c_42]; done) | (simp [pyK, c_10, c_20, c_30]; done) | (simp [pyK, c_10, c_20]; done) | (simp [pyK, c_10]; done), rfl, rfl⟩⟩
      · refine g_iload_4 (q := 35) C dX4_party_33 rfl ?_
        refine g_iconst (v := (-1)) (q := 36) C dX4_party_35 rfl (by decide) ?_
        refine g_sipush (v := 999) (q := 39) C dX4_party_36 rfl (by decide) ?_
        refine g_cs3i (q := 42) C cs_X4_59 dX4_party_39 rfl (m_X4_in _ _ _) (by decide) (Nat.le_of_ble_eq_true rfl) ⟨Nat.zero_le _, Nat.zero_le _⟩ ?_
        refine g_ifeqb (tgt := 54) (q := 45) C dX4_party_42 rfl (by decide) (fun c_42 => ?_) (fun c_42 => ?_)
        · refine g_iconst (v := (-1)) (q := 55) C dX4_party_54 rfl (by decide) ?_
          refine g_wide (cl' := 1) (sl' := 9) (by decide) (by decide) ?_
          exact g_iret C RT9 dX4_party_55 ⟨rfl, rfl, rfl, rfl, Or.inr ⟨by first | (simp [pyK, c_10, c_20, c_30, c_42, n_eq I.nP c_51 (by omega) (by decide)]; done) | (simp [pyK, c_10, c_20, c_30, c_42]; done) | (simp [pyK, c_10, c_20, c_30]; done) | (simp [pyK, c_10, c_20]; done) | (simp [pyK, c_10]; done), rfl, rfl⟩⟩
        · refine g_aload_0 (q := 46) C dX4_party_45 rfl ?_
          refine g_geti (q := 49) C f_X4_63 dX4_party_46 rfl rfl (IM.d I _ (by decide) (by decide)) ?_
          refine g_bipush (v := 20) (q := 51) C dX4_party_49 rfl (by decide) ?_
          refine g_icmp_ne (tgt := 56) (q := 54) C dX4_party_51 rfl (by decide) (fun c_51 => ?_) (fun c_51 => ?_)
          · have h51 : nP < 20 := by
              rcases Nat.lt_or_ge nP 20 with h | h
              · exact h
              · exact absurd (by rw [I.nP, show nP = 20 by omega]; rfl) c_51
            refine g_bipush (v := 9) (q := 58) C dX4_party_56 rfl (by decide) ?_
            refine g_newi (n := 119) (N := 9) (q := 60) C dX4_party_58 rfl ac_I rfl hn (kds_far (by decide)) (hR.no (by decide)) rfl (by decide) ⟨by rw [hcells]; decide, by rw [hslots]; decide⟩ (fun ad1 had => ?_)
            rw [← had 100 (by decide)]
            refine g_dup (q := 61) C dX4_party_60 rfl rfl ?_
            refine g_iconst (v := 0) (q := 62) C dX4_party_61 rfl (by decide) ?_
            refine g_iload_1 (q := 63) C dX4_party_62 rfl ?_
            refine g_iast (q := 64) C dX4_party_63 rfl rfl (by rw [va_up_self]) (show _ = nI 0 from rfl) (by decide) (by decide) ?_
            refine g_dup (q := 65) C dX4_party_64 rfl rfl ?_
            refine g_iconst (v := 1) (q := 66) C dX4_party_65 rfl (by decide) ?_
            refine g_iload_2 (q := 67) C dX4_party_66 rfl ?_
            refine g_iast (q := 68) C dX4_party_67 rfl rfl (by rw [va_up_self]) (show _ = nI 1 from rfl) (by decide) (by decide) ?_
            refine g_dup (q := 69) C dX4_party_68 rfl rfl ?_
            refine g_iconst (v := 2) (q := 70) C dX4_party_69 rfl (by decide) ?_
            refine g_iload_3 (q := 71) C dX4_party_70 rfl ?_
            refine g_iast (q := 72) C dX4_party_71 rfl rfl (by rw [va_up_self]) (show _ = nI 2 from rfl) (by decide) (by decide) ?_
            refine g_dup (q := 73) C dX4_party_72 rfl rfl ?_
            refine g_iconst (v := 3) (q := 74) C dX4_party_73 rfl (by decide) ?_
            refine g_iload_4 (q := 76) C dX4_party_74 rfl ?_
            refine g_iast (q := 77) C dX4_party_76 rfl rfl (by rw [va_up_self]) (show _ = nI 3 from rfl) (by decide) (by decide) ?_
            refine g_dup (q := 78) C dX4_party_77 rfl rfl ?_
            refine g_iconst (v := 4) (q := 79) C dX4_party_78 rfl (by decide) ?_
            refine g_iload_5 (q := 81) C dX4_party_79 rfl ?_
            refine g_if_eq (tgt := 88) (q := 84) C dX4_party_81 rfl (by decide) (fun c_81 => ?_) (fun c_81 => ?_)
            · refine g_iconst (v := 0) (q := 89) C dX4_party_88 rfl (by decide) ?_
              refine g_iast (q := 90) C dX4_party_89 rfl rfl (by rw [va_up_self]) (show _ = nI 4 from rfl) (by decide) (by decide) ?_
              refine g_dup (q := 91) C dX4_party_90 rfl rfl ?_
              refine g_iconst (v := 5) (q := 92) C dX4_party_91 rfl (by decide) ?_
              refine g_iconst (v := 0) (q := 93) C dX4_party_92 rfl (by decide) ?_
              refine g_iast (q := 94) C dX4_party_93 rfl rfl (by rw [va_up_self]) (show _ = nI 5 from rfl) (by decide) (by decide) ?_
              refine g_dup (q := 95) C dX4_party_94 rfl rfl ?_
              refine g_bipush (v := 6) (q := 97) C dX4_party_95 rfl (by decide) ?_
              refine g_iconst (v := 0) (q := 98) C dX4_party_97 rfl (by decide) ?_
              refine g_iast (q := 99) C dX4_party_98 rfl rfl (by rw [va_up_self]) (show _ = nI 6 from rfl) (by decide) (by decide) ?_
              refine g_dup (q := 100) C dX4_party_99 rfl rfl ?_
              refine g_bipush (v := 7) (q := 102) C dX4_party_100 rfl (by decide) ?_
              refine g_iconst (v := (-1)) (q := 103) C dX4_party_102 rfl (by decide) ?_
              refine g_iast (q := 104) C dX4_party_103 rfl rfl (by rw [va_up_self]) (show _ = nI 7 from rfl) (by decide) (by decide) ?_
              refine g_dup (q := 105) C dX4_party_104 rfl rfl ?_
              refine g_bipush (v := 8) (q := 107) C dX4_party_105 rfl (by decide) ?_
              refine g_iconst (v := (-1)) (q := 108) C dX4_party_107 rfl (by decide) ?_
              refine g_iast (q := 109) C dX4_party_108 rfl rfl (by rw [va_up_self]) (show _ = nI 8 from rfl) (by decide) (by decide) ?_
              refine g_astore_6 (q := 111) C dX4_party_109 rfl (by rw [hN]; decide) rfl ?_
              refine g_iconst (v := 0) (q := 112) C dX4_party_111 rfl (by decide) ?_
              refine g_istore_7 (q := 114) C dX4_party_112 rfl (by rw [hN]; decide) rfl ?_
              exact lq I (by simp [pyK, c_10, c_20, c_30, c_42, h51]) h51 ad1 had 9 0 _ (by omega) (by rw [upz_up, u2_up, u2_up, u2_up, u2_up, u2_up, u2_up, u2_up, u2_up, u2_up]; (first | rw [if_pos c_81] | rw [if_neg c_81]); rw [rwN_0, up1_id' (by decide)]; rfl)
            · refine g_iconst (v := 1) (q := 85) C dX4_party_84 rfl (by decide) ?_
              refine g_goto (tgt := 89) C dX4_party_85 (by decide) ?_
              refine g_iast (q := 90) C dX4_party_89 rfl rfl (by rw [va_up_self]) (show _ = nI 4 from rfl) (by decide) (by decide) ?_
              refine g_dup (q := 91) C dX4_party_90 rfl rfl ?_
              refine g_iconst (v := 5) (q := 92) C dX4_party_91 rfl (by decide) ?_
              refine g_iconst (v := 0) (q := 93) C dX4_party_92 rfl (by decide) ?_
              refine g_iast (q := 94) C dX4_party_93 rfl rfl (by rw [va_up_self]) (show _ = nI 5 from rfl) (by decide) (by decide) ?_
              refine g_dup (q := 95) C dX4_party_94 rfl rfl ?_
              refine g_bipush (v := 6) (q := 97) C dX4_party_95 rfl (by decide) ?_
              refine g_iconst (v := 0) (q := 98) C dX4_party_97 rfl (by decide) ?_
              refine g_iast (q := 99) C dX4_party_98 rfl rfl (by rw [va_up_self]) (show _ = nI 6 from rfl) (by decide) (by decide) ?_
              refine g_dup (q := 100) C dX4_party_99 rfl rfl ?_
              refine g_bipush (v := 7) (q := 102) C dX4_party_100 rfl (by decide) ?_
              refine g_iconst (v := (-1)) (q := 103) C dX4_party_102 rfl (by decide) ?_
              refine g_iast (q := 104) C dX4_party_103 rfl rfl (by rw [va_up_self]) (show _ = nI 7 from rfl) (by decide) (by decide) ?_
              refine g_dup (q := 105) C dX4_party_104 rfl rfl ?_
              refine g_bipush (v := 8) (q := 107) C dX4_party_105 rfl (by decide) ?_
              refine g_iconst (v := (-1)) (q := 108) C dX4_party_107 rfl (by decide) ?_
              refine g_iast (q := 109) C dX4_party_108 rfl rfl (by rw [va_up_self]) (show _ = nI 8 from rfl) (by decide) (by decide) ?_
              refine g_astore_6 (q := 111) C dX4_party_109 rfl (by rw [hN]; decide) rfl ?_
              refine g_iconst (v := 0) (q := 112) C dX4_party_111 rfl (by decide) ?_
              refine g_istore_7 (q := 114) C dX4_party_112 rfl (by rw [hN]; decide) rfl ?_
              exact lq I (by simp [pyK, c_10, c_20, c_30, c_42, h51]) h51 ad1 had 9 0 _ (by omega) (by rw [upz_up, u2_up, u2_up, u2_up, u2_up, u2_up, u2_up, u2_up, u2_up, u2_up]; (first | rw [if_pos c_81] | rw [if_neg c_81]); rw [rwN_0, up1_id' (by decide)]; rfl)
          · refine g_iconst (v := (-1)) (q := 55) C dX4_party_54 rfl (by decide) ?_
            refine g_wide (cl' := 1) (sl' := 9) (by decide) (by decide) ?_
            exact g_iret C RT9 dX4_party_55 ⟨rfl, rfl, rfl, rfl, Or.inr ⟨by first | (simp [pyK, c_10, c_20, c_30, c_42, n_eq I.nP c_51 (by omega) (by decide)]; done) | (simp [pyK, c_10, c_20, c_30, c_42]; done) | (simp [pyK, c_10, c_20, c_30]; done) | (simp [pyK, c_10, c_20]; done) | (simp [pyK, c_10]; done), rfl, rfl⟩⟩

end M13
