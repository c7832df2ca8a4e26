section X20
variable {g : GM} {bs : Nat} {l : Launch} {ad : Nat → Nat} {dm : Nat → Bool} {a : Nat → Nat → Int32} {b : Nat → Nat → Int64} {r : Nat → Nat → Option Nat} {nF nP : Nat} {fl pa nu : Nat → Int32}
theorem g_ci5v {E : EN} {cc : ByteArray} {own : String} {lev cl sl pc q : Nat} {lo : List (Option Value)} {rest : List Value} {idx nLy nm lev' : Nat} {y : MethodName} {cy : ByteArray} {x1 x2 x3 x4 x5 : Value} {a' : Nat → Nat → Int32} {b' : Nat → Nat → Int64} {r' : Nat → Nat → Option Nat} (C : CX E cc own lev) (w : WI own idx y cy nLy 5) (d : decode cc pc = .ok (.invokespecial idx, 3)) (hq : pc + 3 = q) (hM : MT (eG E) (eB E) (eL E) y cy nLy none lev' 0 0 [.ref (ad nm), x1, x2, x3, x4, x5] ad dm a b r (PX none ad dm a' b' r')) (hlev : lev' < lev) (hr : (rest.map fun v => v.category).sum ≤ 8) (hcs : cl ≤ (eR E).cells ∧ sl ≤ (eR E).slots) (kk : G E cl sl ad dm a' b' r' q lo rest) : G E cl sl ad dm a b r pc lo (x5 :: x4 :: x3 :: x2 :: x1 :: .ref (ad nm) :: rest) :=
  g_callI C w hM hlev d hq rfl rfl hr hcs (fun v0 ad0 dm0 a0 b0 r0 h => by obtain ⟨rfl, rfl, rfl, rfl, rfl, rfl⟩ := h; exact kk)
theorem g_ci7v {E : EN} {cc : ByteArray} {own : String} {lev cl sl pc q : Nat} {lo : List (Option Value)} {rest : List Value} {idx nLy nm lev' : Nat} {y : MethodName} {cy : ByteArray} {x1 x2 x3 x4 x5 x6 x7 : Value} {a' : Nat → Nat → Int32} {b' : Nat → Nat → Int64} {r' : Nat → Nat → Option Nat} (C : CX E cc own lev) (w : WI own idx y cy nLy 7) (d : decode cc pc = .ok (.invokespecial idx, 3)) (hq : pc + 3 = q) (hM : MT (eG E) (eB E) (eL E) y cy nLy none lev' 0 0 [.ref (ad nm), x1, x2, x3, x4, x5, x6, x7] ad dm a b r (PX none ad dm a' b' r')) (hlev : lev' < lev) (hr : (rest.map fun v => v.category).sum ≤ 8) (hcs : cl ≤ (eR E).cells ∧ sl ≤ (eR E).slots) (kk : G E cl sl ad dm a' b' r' q lo rest) : G E cl sl ad dm a b r pc lo (x7 :: x6 :: x5 :: x4 :: x3 :: x2 :: x1 :: .ref (ad nm) :: rest) :=
  g_callI C w hM hlev d hq rfl rfl hr hcs (fun v0 ad0 dm0 a0 b0 r0 h => by obtain ⟨rfl, rfl, rfl, rfl, rfl, rfl⟩ := h; exact kk)
theorem oi_X0 : Cond.methodLink RX0 1 Lib.objectInit ∈ gd ∧ Cond.instanceMethod Lib.objectInit ∈ gd ∧ Cond.code Lib.objectInit ⟨#[0xb1]⟩ 1 none ∈ gd := ⟨gd_1 109 (by decide +kernel) rfl, gd_1 17 (by decide +kernel) rfl, gd_1 18 rfl rfl⟩
theorem nw_X0 : Cond.classLink RX3 9 RX0 ∈ gd ∧ Cond.instantiable RX0 9 ∈ gd ∧ Cond.initialized RX0 ∈ gd := ⟨gd_1 19 (by decide +kernel) rfl, gd_1 105 (by decide +kernel) rfl, gd_1 4 (by decide +kernel) rfl⟩
theorem dz_X0 : ∀ j, j < 9 → defaultValue (tyX0 j) = vp_V (vls (fun _ => 0) (fun _ => 0) (fun _ => 0) (fun _ => none) 0 (kds 0)) j := by
  intro j hj
  have h : j = 0 ∨ j = 1 ∨ j = 2 ∨ j = 3 ∨ j = 4 ∨ j = 5 ∨ j = 6 ∨ j = 7 ∨ j = 8 := by omega
  rcases h with rfl | rfl | rfl | rfl | rfl | rfl | rfl | rfl | rfl <;> rfl
theorem oi_X2 : Cond.methodLink RX2 3 Lib.objectInit ∈ gd ∧ Cond.instanceMethod Lib.objectInit ∈ gd ∧ Cond.code Lib.objectInit ⟨#[0xb1]⟩ 1 none ∈ gd := ⟨gd_1 165 (by decide +kernel) rfl, gd_1 17 (by decide +kernel) rfl, gd_1 18 rfl rfl⟩
theorem nw_X2 : Cond.classLink RX3 15 RX2 ∈ gd ∧ Cond.instantiable RX2 9 ∈ gd ∧ Cond.initialized RX2 ∈ gd := ⟨gd_1 21 (by decide +kernel) rfl, gd_1 161 (by decide +kernel) rfl, gd_1 5 (by decide +kernel) rfl⟩
theorem dz_X2 : ∀ j, j < 9 → defaultValue (tyX2 j) = vp_V (vls (fun _ => 0) (fun _ => 0) (fun _ => 0) (fun _ => none) 0 (kds 2)) j := by
  intro j hj
  have h : j = 0 ∨ j = 1 ∨ j = 2 ∨ j = 3 ∨ j = 4 ∨ j = 5 ∨ j = 6 ∨ j = 7 ∨ j = 8 := by omega
  rcases h with rfl | rfl | rfl | rfl | rfl | rfl | rfl | rfl | rfl <;> rfl
def iF (x0 x1 x2 x3 x4 x5 x6 : Int32) (f : Nat → Int32) : Nat → Int32 := fun k => if k = 6 then x6 else if k = 5 then x5 else if k = 4 then x4 else if k = 3 then x3 else if k = 2 then x2 else if k = 1 then x1 else if k = 0 then x0 else if k = 8 then 0 else if k = 7 then 0 else f k
def iP (x1 x2 x3 x4 : Int32) (f : Nat → Int32) : Nat → Int32 := fun k => if k = 4 then x4 else if k = 3 then x3 else if k = 2 then x2 else if k = 1 then x1 else if k = 6 then 0 else if k = 5 then 0 else f k
set_option maxHeartbeats 4000000 in
set_option maxRecDepth 100000 in
theorem m_X0_init {n : Nat} (hl0 : ly n = .inl 0) (hd : dm n = true) (x0 x1 x2 x3 x4 x5 x6 : Int32) : MT g bs l yX0_init cX0_init 8 none 1 0 0 [.ref (ad n), .int x0, .int x1, .int x2, .int x3, .int x4, .int x5, .int x6] ad dm a b r (PX none ad dm (up1 a n (iF x0 x1 x2 x3 x4 x5 x6 (a n))) b r) := by
  refine mt_of (by decide) [some (.ref (ad n)), some (.int x0), some (.int x1), some (.int x2), some (.int x3), some (.int x4), some (.int x5), some (.int x6)] rfl (Nat.le_of_ble_eq_true rfl) ?_
  intro E hg hbs hl hN C RT9 hcells hslots hname
  have hin : (eH E).name = "<init>" ∧ (vwCl[0]?).map (·.1) = some RX0 := ⟨hname, rfl⟩
  refine g_aload_0 (q := 1) C dX0_init_0 rfl ?_
  refine g_oinit (q := 4) C oi_X0 dX0_init_1 rfl (by decide) (Nat.le_of_ble_eq_true rfl) ?_
  refine g_aload_0 (q := 5) C dX0_init_4 rfl ?_
  refine g_iconst (v := 0) (q := 6) C dX0_init_5 rfl (by decide) ?_
  refine g_puti (q := 9) C p_X0_7 dX0_init_6 rfl hl0 hd rfl rfl ?_
  refine g_aload_0 (q := 10) C dX0_init_9 rfl ?_
  refine g_iconst (v := 0) (q := 11) C dX0_init_10 rfl (by decide) ?_
  refine g_puti (q := 14) C p_X0_13 dX0_init_11 rfl hl0 hd rfl rfl ?_
  refine g_aload_0 (q := 15) C dX0_init_14 rfl ?_
  refine g_iload_1 (q := 16) C dX0_init_15 rfl ?_
  refine g_putFi (q := 19) C p_X0_17 dX0_init_16 rfl hl0 hd rfl rfl hin ?_
  refine g_aload_0 (q := 20) C dX0_init_19 rfl ?_
  refine g_iload_2 (q := 21) C dX0_init_20 rfl ?_
  refine g_putFi (q := 24) C p_X0_20 dX0_init_21 rfl hl0 hd rfl rfl hin ?_
  refine g_aload_0 (q := 25) C dX0_init_24 rfl ?_
  refine g_iload_3 (q := 26) C dX0_init_25 rfl ?_
  refine g_putFi (q := 29) C p_X0_23 dX0_init_26 rfl hl0 hd rfl rfl hin ?_
  refine g_aload_0 (q := 30) C dX0_init_29 rfl ?_
  refine g_iload_4 (q := 32) C dX0_init_30 rfl ?_
  refine g_putFi (q := 35) C p_X0_26 dX0_init_32 rfl hl0 hd rfl rfl hin ?_
  refine g_aload_0 (q := 36) C dX0_init_35 rfl ?_
  refine g_iload_5 (q := 38) C dX0_init_36 rfl ?_
  refine g_putFi (q := 41) C p_X0_29 dX0_init_38 rfl hl0 hd rfl rfl hin ?_
  refine g_aload_0 (q := 42) C dX0_init_41 rfl ?_
  refine g_iload_6 (q := 44) C dX0_init_42 rfl ?_
  refine g_putFi (q := 47) C p_X0_32 dX0_init_44 rfl hl0 hd rfl rfl hin ?_
  refine g_aload_0 (q := 48) C dX0_init_47 rfl ?_
  refine g_iload_7 (q := 50) C dX0_init_48 rfl ?_
  refine g_putFi (q := 53) C p_X0_35 dX0_init_50 rfl hl0 hd rfl rfl hin ?_
  exact g_vret C RT9 dX0_init_53 ⟨rfl, rfl, rfl, by rw [show u2 a n 7 0 = up1 a n _ from u2_up', u2_up, u2_up, u2_up, u2_up, u2_up, u2_up, u2_up, u2_up]; rfl, rfl, rfl⟩

set_option maxHeartbeats 4000000 in
set_option maxRecDepth 100000 in
theorem m_X2_init {n m : Nat} (hl0 : ly n = .inl 2) (hd : dm n = true) (x1 x2 x3 z : Int32) (hz : z = 0 ∨ z = 1) : MT g bs l yX2_init cX2_init 6 none 1 0 0 [.ref (ad n), .ref (ad m), .int x1, .int x2, .int x3, .int z] ad dm a b r (PX none ad dm (up1 a n (iP x1 x2 x3 z (a n))) b (u2 (u2 (u2 r n 7 none) n 8 none) n 0 (some m))) := by
  refine mt_of (by decide) [some (.ref (ad n)), some (.ref (ad m)), some (.int x1), some (.int x2), some (.int x3), some (.int z)] rfl (Nat.le_of_ble_eq_true rfl) ?_
  intro E hg hbs hl hN C RT9 hcells hslots hname
  have hin : (eH E).name = "<init>" ∧ (vwCl[2]?).map (·.1) = some RX2 := ⟨hname, rfl⟩
  refine g_aload_0 (q := 1) C dX2_init_0 rfl ?_
  refine g_oinit (q := 4) C oi_X2 dX2_init_1 rfl (by decide) (Nat.le_of_ble_eq_true rfl) ?_
  refine g_aload_0 (q := 5) C dX2_init_4 rfl ?_
  refine g_iconst (v := 0) (q := 6) C dX2_init_5 rfl (by decide) ?_
  refine g_puti (q := 9) C p_X2_9 dX2_init_6 rfl hl0 hd rfl rfl ?_
  refine g_aload_0 (q := 10) C dX2_init_9 rfl ?_
  refine g_iconst (v := 0) (q := 11) C dX2_init_10 rfl (by decide) ?_
  refine g_puti (q := 14) C p_X2_15 dX2_init_11 rfl hl0 hd rfl rfl ?_
  refine g_aload_0 (q := 15) C dX2_init_14 rfl ?_
  refine g_null (q := 16) C dX2_init_15 rfl ?_
  refine g_putrN (q := 19) C p_X2_18 dX2_init_16 rfl hl0 hd rfl rfl ?_
  refine g_aload_0 (q := 20) C dX2_init_19 rfl ?_
  refine g_null (q := 21) C dX2_init_20 rfl ?_
  refine g_putrN (q := 24) C p_X2_22 dX2_init_21 rfl hl0 hd rfl rfl ?_
  refine g_aload_0 (q := 25) C dX2_init_24 rfl ?_
  refine g_aload_1 (q := 26) C dX2_init_25 rfl ?_
  refine g_putFr (q := 29) C p_X2_25 dX2_init_26 rfl hl0 hd rfl rfl hin ?_
  refine g_aload_0 (q := 30) C dX2_init_29 rfl ?_
  refine g_iload_2 (q := 31) C dX2_init_30 rfl ?_
  refine g_putFi (q := 34) C p_X2_28 dX2_init_31 rfl hl0 hd rfl rfl hin ?_
  refine g_aload_0 (q := 35) C dX2_init_34 rfl ?_
  refine g_iload_3 (q := 36) C dX2_init_35 rfl ?_
  refine g_putFi (q := 39) C p_X2_31 dX2_init_36 rfl hl0 hd rfl rfl hin ?_
  refine g_aload_0 (q := 40) C dX2_init_39 rfl ?_
  refine g_iload_4 (q := 42) C dX2_init_40 rfl ?_
  refine g_putFi (q := 45) C p_X2_34 dX2_init_42 rfl hl0 hd rfl rfl hin ?_
  refine g_aload_0 (q := 46) C dX2_init_45 rfl ?_
  refine g_iload_5 (q := 48) C dX2_init_46 rfl ?_
  refine g_putFi (q := 51) C p_X2_37 dX2_init_48 rfl hl0 hd (by rcases hz with h | h <;> subst h <;> rfl) (by rcases hz with h | h <;> subst h <;> rfl) hin ?_
  exact g_vret C RT9 dX2_init_51 ⟨rfl, rfl, rfl, by rw [show u2 a n 5 0 = up1 a n _ from u2_up', u2_up, u2_up, u2_up, u2_up, u2_up]; rfl, rfl, rfl⟩

theorem IX.up (h : IX dm nF nP) (n : Nat) : IX (va_up dm n true) nF nP := by
  have key : ∀ m, dm m = true → va_up dm n true m = true := fun m hm => by
    by_cases e : m = n
    · subst e; exact va_up_self _ _ _
    · rw [va_up_ne _ _ e]; exact hm
  exact ⟨h.1, h.2.1, fun m hm => key m (h.2.2.1 m hm), fun i hi => key _ (h.2.2.2.1 i hi), fun j hj => key _ (h.2.2.2.2 j hj)⟩
theorem XR.nf (X : XR nF nP fl pa nu dm a r) (h8 : nF < 8) {a' : Nat → Nat → Int32} {r' : Nat → Nat → Option Nat} {v : Nat → Int32} (h1 : ∀ n, n ≠ 0 → n ≠ 20 + nF → a' n = a n) (h2 : a' 0 5 = nI (nF + 1)) (h3 : ∀ k, k ≠ 5 → a' 0 k = a 0 k) (h4 : a' (20 + nF) 0 = nI nF) (h5 : ∀ k, k < 7 → a' (20 + nF) (k + 1) = v k) (h6 : r' 1 nF = some (20 + nF)) (h7 : ∀ n k, n ≠ 20 + nF → (n ≠ 1 ∨ k ≠ nF) → r' n k = r n k) : XR (nF + 1) nP (rwN fl (7 * nF) v 7) pa nu (va_up dm (20 + nF) true) a' r' := by
  have I := X.1
  have hnP := I.2.1
  refine ⟨⟨by omega, hnP, (I.up _).2.2.1, fun i hi => ?_, (I.up _).2.2.2.2⟩, h2, by rw [h3 6 (by decide)]; exact X.nP, by rw [h3 7 (by decide)]; exact X.ch, fun k hk => by rw [h1 3 (by decide) (by omega)]; exact X.fe hk, fun i hi => ?_, fun j hj => ?_⟩
  · by_cases e : i = nF
    · subst e; exact va_up_self _ _ _
    · exact (I.up _).2.2.2.1 i (by omega)
  · by_cases e : i = nF
    · subst e
      exact ⟨h6, h4, fun k hk => by rw [h5 k hk, rwN, if_pos (by omega), show 7 * i + k - 7 * i = k by omega]⟩
    · have hi' : i < nF := by omega
      exact ⟨by rw [h7 1 i (by omega) (Or.inr e)]; exact X.rf hi', by rw [h1 (20 + i) (by omega) (by omega)]; exact X.no hi', fun k hk => by rw [h1 (20 + i) (by omega) (by omega), rwN, if_neg (by omega)]; exact X.fk hi' hk⟩
  · obtain ⟨rq, ⟨o, ho, ro, eo⟩, ek, w7, w8⟩ := X.2.2.2.2.2.2 j hj
    have wr1 : ∀ {x : Option Nat} {v : Int32}, wr x nF v → wr x (nF + 1) v := fun h => h.elim Or.inl (fun ⟨i, hi, h⟩ => Or.inr ⟨i, by omega, h⟩)
    exact ⟨by rw [h7 2 j (by omega) (Or.inl (by decide))]; exact rq, ⟨o, by omega, by rw [h7 (30 + j) 0 (by omega) (Or.inl (by omega))]; exact ro, eo⟩, fun k k1 k2 => by rw [h1 (30 + j) (by omega) (by omega)]; exact ek k k1 k2, by rw [h7 (30 + j) 7 (by omega) (Or.inl (by omega))]; exact wr1 w7, by rw [h7 (30 + j) 8 (by omega) (Or.inl (by omega))]; exact wr1 w8⟩
theorem XR.np (X : XR nF nP fl pa nu dm a r) (h20 : nP < 20) {a' : Nat → Nat → Int32} {r' : Nat → Nat → Option Nat} {v : Nat → Int32} {o : Nat} (ho : o < nF) (hv0 : v 0 = nI o) (hv7 : v 7 = -1) (hv8 : v 8 = -1) (h1 : ∀ n, n ≠ 0 → n ≠ 30 + nP → a' n = a n) (h2 : a' 0 6 = nI (nP + 1)) (h3 : ∀ k, k ≠ 6 → a' 0 k = a 0 k) (h5 : ∀ k, 1 ≤ k → k ≤ 6 → a' (30 + nP) k = v k) (h6 : r' 2 nP = some (30 + nP)) (h8 : r' (30 + nP) 0 = some (20 + o) ∧ r' (30 + nP) 7 = none ∧ r' (30 + nP) 8 = none) (h7 : ∀ n k, n ≠ 30 + nP → (n ≠ 2 ∨ k ≠ nP) → r' n k = r n k) : XR nF (nP + 1) fl (rwN pa (9 * nP) v 9) nu (va_up dm (30 + nP) true) a' r' := by
  have I := X.1
  have hnF := I.1
  refine ⟨⟨hnF, by omega, (I.up _).2.2.1, (I.up _).2.2.2.1, fun j hj => ?_⟩, by rw [h3 5 (by decide)]; exact X.nF, h2, by rw [h3 7 (by decide)]; exact X.ch, fun k hk => by rw [h1 3 (by decide) (by omega)]; exact X.fe hk, fun i hi => ?_, fun j hj => ?_⟩
  · by_cases e : j = nP
    · subst e; exact va_up_self _ _ _
    · exact (I.up _).2.2.2.2 j (by omega)
  · exact ⟨by rw [h7 1 i (by omega) (Or.inl (by decide))]; exact X.rf hi, by rw [h1 (20 + i) (by omega) (by omega)]; exact X.no hi, fun k hk => by rw [h1 (20 + i) (by omega) (by omega)]; exact X.fk hi hk⟩
  · by_cases e : j = nP
    · subst e
      have hg : ∀ k, k < 9 → rwN pa (9 * j) v 9 (9 * j + k) = v k := fun k hk => by rw [rwN, if_pos (by omega), show 9 * j + k - 9 * j = k by omega]
      exact ⟨h6, ⟨o, ho, h8.1, by rw [← hv0]; exact hg 0 (by decide)⟩, fun k k1 k2 => by rw [h5 k k1 k2, hg k (by omega)], by rw [hg 7 (by decide), h8.2.1, hv7]; exact Or.inl ⟨rfl, rfl⟩, by rw [hg 8 (by decide), h8.2.2, hv8]; exact Or.inl ⟨rfl, rfl⟩⟩
    · have hj' : j < nP := by omega
      obtain ⟨rq, ⟨o', ho', ro, eo⟩, ek, w7, w8⟩ := X.2.2.2.2.2.2 j hj'
      have hg : ∀ k, k < 9 → rwN pa (9 * nP) v 9 (9 * j + k) = pa (9 * j + k) := fun k hk => by rw [rwN, if_neg (by omega)]
      exact ⟨by rw [h7 2 j (by omega) (Or.inr e)]; exact rq, ⟨o', ho', by rw [h7 (30 + j) 0 (by omega) (Or.inl (by omega))]; exact ro, by rw [← eo]; exact hg 0 (by decide)⟩, fun k k1 k2 => by rw [h1 (30 + j) (by omega) (by omega), hg k (by omega)]; exact ek k k1 k2, by rw [h7 (30 + j) 7 (by omega) (Or.inl (by omega)), hg 7 (by decide)]; exact w7, by rw [h7 (30 + j) 8 (by omega) (Or.inl (by omega)), hg 8 (by decide)]; exact w8⟩
theorem RB.noref {n : Nat} (h : RB nF nP r) (hn : (n < 20 ∨ 20 + nF ≤ n) ∧ (n < 30 ∨ 30 + nP ≤ n)) : noref r dm n := fun i k _ e => by
  rcases h i k n e with h | h <;> omega
theorem RB.mono {nF' nP' : Nat} (h : RB nF nP r) (h1 : nF ≤ nF') (h2 : nP ≤ nP') : RB nF' nP' r := fun i k m e => by
  rcases h i k m e with h | h
  · exact Or.inl ⟨h.1, by omega⟩
  · exact Or.inr ⟨h.1, by omega⟩
theorem rb_upz (h : RB nF nP r) {n : Nat} : RB nF nP (upz r n none) := fun i k m e => by
  unfold upz at e
  split at e
  · cases e
  · exact h _ _ _ e
theorem fl_3 {x3 x4 : Int32} (h1 : ¬ x3 < 0) (h2 : ¬ x4 ≤ x3) (h3 : x4 ≤ 9999) : inR x3 0 9999 = true := in_t h1 (by
  rw [i_lt]
  rw [i_le] at h2 h3
  omega)
theorem fl_4 {x3 x4 : Int32} (h1 : ¬ x3 < 0) (h2 : ¬ x4 ≤ x3) (h3 : x4 ≤ 9999) : inR x4 0 9999 = true := in_t (by
  rw [i_lt] at h1 ⊢
  rw [i_le] at h2
  omega) (Int32.not_lt.mpr h3)
set_option maxHeartbeats 4000000 in
set_option maxRecDepth 100000 in
theorem m_X3_flight (X : XR nF nP fl pa nu dm a r) (B : RB nF nP r) (hn : dm (20 + nF) = false) (x1 x2 x3 x4 x5 x6 : Int32) : MT g bs l yX3_flight cX3_flight 8 (some .int) 2 1 9 [.ref (ad 0), .int x1, .int x2, .int x3, .int x4, .int x5, .int x6] ad dm a b r (fun v ad0 dm0 a0 b0 r0 => (flK nF x1 x2 x3 x4 x5 x6 = true ∧ v = some (.int (nI nF)) ∧ (∀ m, m ≠ 20 + nF → ad0 m = ad m) ∧ dm0 = va_up dm (20 + nF) true ∧ XR (nF + 1) nP (rwN fl (7 * nF) (v7 x1 x2 x3 x4 x5 x6) 7) pa nu dm0 a0 r0 ∧ RB (nF + 1) nP r0 ∧ (∀ n, 100 ≤ n → a0 n = a n) ∧ ∀ n, 100 ≤ n → b0 n = b n) ∨ (flK nF x1 x2 x3 x4 x5 x6 = false ∧ v = some (.int (-1)) ∧ ad0 = ad ∧ dm0 = dm ∧ a0 = a ∧ b0 = b ∧ r0 = r)) := by
  refine mt_of (by decide) [some (.ref (ad 0)), some (.int x1), some (.int x2), some (.int x3), some (.int x4), some (.int x5), some (.int x6), none] rfl (Nat.le_of_ble_eq_true rfl) ?_
  intro E hg hbs hl hN C RT9 hcells hslots hname
  have I := X.1
  have hnF := I.1
  have hnP := I.2.1
  refine g_aload_0 (q := 1) C dX3_flight_0 rfl ?_
  refine g_geti (q := 4) C f_X3_36 dX3_flight_1 rfl rfl (IX.d0 I _ (by decide)) ?_
  refine g_bipush (v := 8) (q := 6) C dX3_flight_4 rfl (by decide) ?_
  refine g_icmp_lt (tgt := 11) (q := 9) C dX3_flight_6 rfl (by decide) (fun c_6 => ?_) (fun c_6 => ?_)
  · refine g_iload_1 (q := 12) C dX3_flight_11 rfl ?_
    refine g_iconst (v := 0) (q := 13) C dX3_flight_12 rfl (by decide) ?_
    refine g_bipush (v := 7) (q := 15) C dX3_flight_13 rfl (by decide) ?_
    refine g_cs3i (q := 18) C cs_X3_46 dX3_flight_15 rfl (m_X3_within _ _ _) (by decide) (Nat.le_of_ble_eq_true rfl) ⟨Nat.zero_le _, Nat.zero_le _⟩ ?_
    refine g_ifeqb (tgt := 36) (q := 21) C dX3_flight_18 rfl (by decide) (fun c_18 => ?_) (fun c_18 => ?_)
    · refine g_iconst (v := (-1)) (q := 37) C dX3_flight_36 rfl (by decide) ?_
      refine g_wide (cl' := 1) (sl' := 9) (by decide) (by decide) ?_
      exact g_iret C RT9 dX3_flight_37 (Or.inr ⟨by first | (simp [flK, show ¬ nF < 8 from fun h => c_6 (by rw [X.nF]; exact nI_lt (b := 8) h (by decide))]; done) | (simp [flK, c_18]; done) | (simp [flK, c_28]; done) | (simp [flK, c_33]; done) | (simp [flK, in_f1 c_39]; done) | (simp [flK, Int32.not_lt.mpr c_45]; done) | (simp [flK, in_f2 (Int32.not_le.mp c_53)]; done) | (simp [flK, c_66]; done) | (simp [flK, c_78]; done), rfl, rfl, rfl, rfl, rfl, rfl⟩)
    · refine g_iload_2 (q := 22) C dX3_flight_21 rfl ?_
      refine g_iconst (v := 0) (q := 23) C dX3_flight_22 rfl (by decide) ?_
      refine g_bipush (v := 7) (q := 25) C dX3_flight_23 rfl (by decide) ?_
      refine g_cs3i (q := 28) C cs_X3_46 dX3_flight_25 rfl (m_X3_within _ _ _) (by decide) (Nat.le_of_ble_eq_true rfl) ⟨Nat.zero_le _, Nat.zero_le _⟩ ?_
      refine g_ifeqb (tgt := 36) (q := 31) C dX3_flight_28 rfl (by decide) (fun c_28 => ?_) (fun c_28 => ?_)
      · refine g_iconst (v := (-1)) (q := 37) C dX3_flight_36 rfl (by decide) ?_
        refine g_wide (cl' := 1) (sl' := 9) (by decide) (by decide) ?_
        exact g_iret C RT9 dX3_flight_37 (Or.inr ⟨by first | (simp [flK, show ¬ nF < 8 from fun h => c_6 (by rw [X.nF]; exact nI_lt (b := 8) h (by decide))]; done) | (simp [flK, c_18]; done) | (simp [flK, c_28]; done) | (simp [flK, c_33]; done) | (simp [flK, in_f1 c_39]; done) | (simp [flK, Int32.not_lt.mpr c_45]; done) | (simp [flK, in_f2 (Int32.not_le.mp c_53)]; done) | (simp [flK, c_66]; done) | (simp [flK, c_78]; done), rfl, rfl, rfl, rfl, rfl, rfl⟩)
      · refine g_iload_1 (q := 32) C dX3_flight_31 rfl ?_
        refine g_iload_2 (q := 33) C dX3_flight_32 rfl ?_
        refine g_icmp_ne (tgt := 38) (q := 36) C dX3_flight_33 rfl (by decide) (fun c_33 => ?_) (fun c_33 => ?_)
        · refine g_iload_3 (q := 39) C dX3_flight_38 rfl ?_
          refine g_if_lt (tgt := 56) (q := 42) C dX3_flight_39 rfl (by decide) (fun c_39 => ?_) (fun c_39 => ?_)
          · refine g_iconst (v := (-1)) (q := 57) C dX3_flight_56 rfl (by decide) ?_
            refine g_wide (cl' := 1) (sl' := 9) (by decide) (by decide) ?_
            exact g_iret C RT9 dX3_flight_57 (Or.inr ⟨by first | (simp [flK, show ¬ nF < 8 from fun h => c_6 (by rw [X.nF]; exact nI_lt (b := 8) h (by decide))]; done) | (simp [flK, c_18]; done) | (simp [flK, c_28]; done) | (simp [flK, c_33]; done) | (simp [flK, in_f1 c_39]; done) | (simp [flK, Int32.not_lt.mpr c_45]; done) | (simp [flK, in_f2 (Int32.not_le.mp c_53)]; done) | (simp [flK, c_66]; done) | (simp [flK, c_78]; done), rfl, rfl, rfl, rfl, rfl, rfl⟩)
          · refine g_iload_3 (q := 43) C dX3_flight_42 rfl ?_
            refine g_iload_4 (q := 45) C dX3_flight_43 rfl ?_
            refine g_icmp_ge (tgt := 56) (q := 48) C dX3_flight_45 rfl (by decide) (fun c_45 => ?_) (fun c_45 => ?_)
            · refine g_iconst (v := (-1)) (q := 57) C dX3_flight_56 rfl (by decide) ?_
              refine g_wide (cl' := 1) (sl' := 9) (by decide) (by decide) ?_
              exact g_iret C RT9 dX3_flight_57 (Or.inr ⟨by first | (simp [flK, show ¬ nF < 8 from fun h => c_6 (by rw [X.nF]; exact nI_lt (b := 8) h (by decide))]; done) | (simp [flK, c_18]; done) | (simp [flK, c_28]; done) | (simp [flK, c_33]; done) | (simp [flK, in_f1 c_39]; done) | (simp [flK, Int32.not_lt.mpr c_45]; done) | (simp [flK, in_f2 (Int32.not_le.mp c_53)]; done) | (simp [flK, c_66]; done) | (simp [flK, c_78]; done), rfl, rfl, rfl, rfl, rfl, rfl⟩)
            · refine g_iload_4 (q := 50) C dX3_flight_48 rfl ?_
              refine g_sipush (v := 9999) (q := 53) C dX3_flight_50 rfl (by decide) ?_
              refine g_icmp_le (tgt := 58) (q := 56) C dX3_flight_53 rfl (by decide) (fun c_53 => ?_) (fun c_53 => ?_)
              · refine g_iload_5 (q := 60) C dX3_flight_58 rfl ?_
                refine g_iconst (v := 1) (q := 61) C dX3_flight_60 rfl (by decide) ?_
                refine g_bipush (v := 40) (q := 63) C dX3_flight_61 rfl (by decide) ?_
                refine g_cs3i (q := 66) C cs_X3_46 dX3_flight_63 rfl (m_X3_within _ _ _) (by decide) (Nat.le_of_ble_eq_true rfl) ⟨Nat.zero_le _, Nat.zero_le _⟩ ?_
                refine g_ifeqb (tgt := 81) (q := 69) C dX3_flight_66 rfl (by decide) (fun c_66 => ?_) (fun c_66 => ?_)
                · refine g_iconst (v := (-1)) (q := 82) C dX3_flight_81 rfl (by decide) ?_
                  refine g_wide (cl' := 1) (sl' := 9) (by decide) (by decide) ?_
                  exact g_iret C RT9 dX3_flight_82 (Or.inr ⟨by first | (simp [flK, show ¬ nF < 8 from fun h => c_6 (by rw [X.nF]; exact nI_lt (b := 8) h (by decide))]; done) | (simp [flK, c_18]; done) | (simp [flK, c_28]; done) | (simp [flK, c_33]; done) | (simp [flK, in_f1 c_39]; done) | (simp [flK, Int32.not_lt.mpr c_45]; done) | (simp [flK, in_f2 (Int32.not_le.mp c_53)]; done) | (simp [flK, c_66]; done) | (simp [flK, c_78]; done), rfl, rfl, rfl, rfl, rfl, rfl⟩)
                · refine g_iload_6 (q := 71) C dX3_flight_69 rfl ?_
                  refine g_iconst (v := 1) (q := 72) C dX3_flight_71 rfl (by decide) ?_
                  refine g_sipush (v := 9999) (q := 75) C dX3_flight_72 rfl (by decide) ?_
                  refine g_cs3i (q := 78) C cs_X3_46 dX3_flight_75 rfl (m_X3_within _ _ _) (by decide) (Nat.le_of_ble_eq_true rfl) ⟨Nat.zero_le _, Nat.zero_le _⟩ ?_
                  refine g_ifneb (tgt := 83) (q := 81) C dX3_flight_78 rfl (by decide) (fun c_78 => ?_) (fun c_78 => ?_)
                  · refine g_aload_0 (q := 84) C dX3_flight_83 rfl ?_
                    refine g_geti (q := 87) C f_X3_36 dX3_flight_84 rfl rfl (IX.d0 I _ (by decide)) ?_
                    rw [X.nF]
                    refine g_istore_7 (q := 89) C dX3_flight_87 rfl (by rw [hN]; decide) rfl ?_
                    refine g_aload_0 (q := 90) C dX3_flight_89 rfl ?_
                    refine g_getc (q := 93) (m := 1) C f_X3_11 dX3_flight_90 rfl rfl (IX.d0 I _ (by decide)) ?_
                    refine g_iload_7 (q := 95) C dX3_flight_93 rfl ?_
                    have h88 : nF < 8 := by
                      rcases Nat.lt_or_ge nF 8 with h | h
                      · exact h
                      · exact absurd c_6 (by rw [X.nF, show nF = 8 by omega]; decide)
                    refine g_newo (n := (20 + nF)) (ty := tyX0) (q := 98) C dX3_flight_95 rfl rfl in_X0 tyX0_ok nw_X0 (ly_F h88) hn (kds_obj (by omega) (by omega)) (B.noref (by omega)) dz_X0 (by decide) ⟨by rw [hcells]; decide, by rw [hslots]; decide⟩ (fun ad1 had => ?_)
                    rw [← had 0 (by omega), ← had 1 (by omega)]
                    have I := I.up (20 + nF)
                    refine g_dup (q := 99) C dX3_flight_98 rfl rfl ?_
                    refine g_iload_7 (q := 101) C dX3_flight_99 rfl ?_
                    refine g_iload_1 (q := 102) C dX3_flight_101 rfl ?_
                    refine g_iload_2 (q := 103) C dX3_flight_102 rfl ?_
                    refine g_iload_3 (q := 104) C dX3_flight_103 rfl ?_
                    refine g_iload_4 (q := 106) C dX3_flight_104 rfl ?_
                    refine g_iload_5 (q := 108) C dX3_flight_106 rfl ?_
                    refine g_iload_6 (q := 110) C dX3_flight_108 rfl ?_
                    refine g_ci7v (q := 113) C ci_X3_50 dX3_flight_110 rfl (m_X0_init (ly_F h88) (va_up_self _ _ _) _ _ _ _ _ _ _) (by decide) (Nat.le_of_ble_eq_true rfl) ⟨by rw [hcells]; decide, by rw [hslots]; decide⟩ ?_
                    refine g_aastF (q := 114) C dX3_flight_113 rfl rfl (IX.d0 I _ (by decide)) (va_up_self _ _ _) (ly_F h88) rfl h88 (by decide) ?_
                    refine g_aload_0 (q := 115) C dX3_flight_114 rfl ?_
                    refine g_dup (q := 116) C dX3_flight_115 rfl rfl ?_
                    refine g_geti (q := 119) C f_X3_36 dX3_flight_116 rfl rfl (IX.d0 I _ (by decide)) ?_
                    refine g_iconst (v := 1) (q := 120) C dX3_flight_119 rfl (by decide) ?_
                    refine g_iadd (q := 121) C dX3_flight_120 rfl ?_
                    refine g_puti (q := 124) C p_X3_36 dX3_flight_121 rfl rfl (IX.d0 I _ (by decide)) rfl rfl ?_
                    refine g_iload_7 (q := 126) C dX3_flight_124 rfl ?_
                    refine g_iret C RT9 dX3_flight_126 (Or.inl ⟨by simp [flK, c_18, c_28, c_33, fl_3 c_39 c_45 c_53, fl_4 c_39 c_45 c_53, Int32.not_le.mp c_45, c_66, c_78, h88], rfl, had, rfl, ?_, ?_, ?_, ?_⟩)
                    · refine X.nf (v := v7 x1 x2 x3 x4 x5 x6) h88 (fun n h1 h2 => ?_) ?_ (fun k hk => ?_) ?_ (fun k hk => ?_) ?_ (fun n k h1 h2 => ?_)
                      · rw [u2_n h1, up1_n h2, upz_n h2]
                      · rw [u2_s, up1_n (by omega), upz_n (by omega), X.nF, nI_1]
                      · rw [u2_k hk, up1_n (by omega), upz_n (by omega)]
                      · rw [u2_n (by omega), up1_s]; rfl
                      · rw [u2_n (by omega), up1_s]
                        have h : k = 0 ∨ k = 1 ∨ k = 2 ∨ k = 3 ∨ k = 4 ∨ k = 5 ∨ k = 6 := by omega
                        rcases h with rfl | rfl | rfl | rfl | rfl | rfl | rfl <;> rfl
                      · exact u2_s
                      · rcases h2 with h2 | h2
                        · rw [u2_n h2, upz_n h1]
                        · rw [u2_k h2, upz_n h1]
                    · exact rb_u2 ((rb_upz B).mono (by omega) (by omega)) (fun m e => by cases e; exact Or.inl ⟨by omega, by omega⟩)
                    · intro n hn9
                      rw [u2_n (by omega), up1_n (by omega), upz_n (by omega)]
                    · intro n hn9
                      rw [upz_n (by omega)]
                  · refine g_iconst (v := (-1)) (q := 82) C dX3_flight_81 rfl (by decide) ?_
                    refine g_wide (cl' := 1) (sl' := 9) (by decide) (by decide) ?_
                    exact g_iret C RT9 dX3_flight_82 (Or.inr ⟨by first | (simp [flK, show ¬ nF < 8 from fun h => c_6 (by rw [X.nF]; exact nI_lt (b := 8) h (by decide))]; done) | (simp [flK, c_18]; done) | (simp [flK, c_28]; done) | (simp [flK, c_33]; done) | (simp [flK, in_f1 c_39]; done) | (simp [flK, Int32.not_lt.mpr c_45]; done) | (simp [flK, in_f2 (Int32.not_le.mp c_53)]; done) | (simp [flK, c_66]; done) | (simp [flK, c_78]; done), rfl, rfl, rfl, rfl, rfl, rfl⟩)
              · refine g_iconst (v := (-1)) (q := 57) C dX3_flight_56 rfl (by decide) ?_
                refine g_wide (cl' := 1) (sl' := 9) (by decide) (by decide) ?_
                exact g_iret C RT9 dX3_flight_57 (Or.inr ⟨by first | (simp [flK, show ¬ nF < 8 from fun h => c_6 (by rw [X.nF]; exact nI_lt (b := 8) h (by decide))]; done) | (simp [flK, c_18]; done) | (simp [flK, c_28]; done) | (simp [flK, c_33]; done) | (simp [flK, in_f1 c_39]; done) | (simp [flK, Int32.not_lt.mpr c_45]; done) | (simp [flK, in_f2 (Int32.not_le.mp c_53)]; done) | (simp [flK, c_66]; done) | (simp [flK, c_78]; done), rfl, rfl, rfl, rfl, rfl, rfl⟩)
        · refine g_iconst (v := (-1)) (q := 37) C dX3_flight_36 rfl (by decide) ?_
          refine g_wide (cl' := 1) (sl' := 9) (by decide) (by decide) ?_
          exact g_iret C RT9 dX3_flight_37 (Or.inr ⟨by first | (simp [flK, show ¬ nF < 8 from fun h => c_6 (by rw [X.nF]; exact nI_lt (b := 8) h (by decide))]; done) | (simp [flK, c_18]; done) | (simp [flK, c_28]; done) | (simp [flK, c_33]; done) | (simp [flK, in_f1 c_39]; done) | (simp [flK, Int32.not_lt.mpr c_45]; done) | (simp [flK, in_f2 (Int32.not_le.mp c_53)]; done) | (simp [flK, c_66]; done) | (simp [flK, c_78]; done), rfl, rfl, rfl, rfl, rfl, rfl⟩)
  · refine g_iconst (v := (-1)) (q := 10) C dX3_flight_9 rfl (by decide) ?_
    refine g_wide (cl' := 1) (sl' := 9) (by decide) (by decide) ?_
    exact g_iret C RT9 dX3_flight_10 (Or.inr ⟨by first | (simp [flK, show ¬ nF < 8 from fun h => c_6 (by rw [X.nF]; exact nI_lt (b := 8) h (by decide))]; done) | (simp [flK, c_18]; done) | (simp [flK, c_28]; done) | (simp [flK, c_33]; done) | (simp [flK, in_f1 c_39]; done) | (simp [flK, Int32.not_lt.mpr c_45]; done) | (simp [flK, in_f2 (Int32.not_le.mp c_53)]; done) | (simp [flK, c_66]; done) | (simp [flK, c_78]; done), rfl, rfl, rfl, rfl, rfl, rfl⟩)

set_option maxHeartbeats 4000000 in
set_option maxRecDepth 100000 in
theorem m_X3_party (X : XR nF nP fl pa nu dm a r) (B : RB nF nP r) (hn : dm (30 + nP) = false) (x1 x2 x3 x4 z : Int32) (hz : z = 0 ∨ z = 1) : MT g bs l yX3_party cX3_party 8 (some .int) 2 1 9 [.ref (ad 0), .int x1, .int x2, .int x3, .int x4, .int z] ad dm a b r (fun v ad0 dm0 a0 b0 r0 => (pyK nF nP x1 x2 x3 x4 = true ∧ v = some (.int (nI nP)) ∧ (∀ m, m ≠ 30 + nP → ad0 m = ad m) ∧ dm0 = va_up dm (30 + nP) true ∧ XR nF (nP + 1) fl (rwN pa (9 * nP) (v9 x1 x2 x3 x4 z) 9) nu dm0 a0 r0 ∧ RB nF (nP + 1) r0 ∧ (∀ n, 100 ≤ n → a0 n = a n) ∧ ∀ n, 100 ≤ n → b0 n = b n) ∨ (pyK nF nP x1 x2 x3 x4 = false ∧ v = some (.int (-1)) ∧ ad0 = ad ∧ dm0 = dm ∧ a0 = a ∧ b0 = b ∧ r0 = r)) := by
  refine mt_of (by decide) [some (.ref (ad 0)), some (.int x1), some (.int x2), some (.int x3), some (.int x4), some (.int z), none, none] rfl (Nat.le_of_ble_eq_true rfl) ?_
  intro E hg hbs hl hN C RT9 hcells hslots hname
  have I := X.1
  have hnF := I.1
  have hnP := I.2.1
  refine g_aload_0 (q := 1) C dX3_party_0 rfl ?_
  refine g_iload_1 (q := 2) C dX3_party_1 rfl ?_
  rcases hk : fok nF x1 with _ | _
  · refine g_cv1i (q := 5) C cv_X3_53 dX3_party_2 rfl rfl (IX.d0 I _ (by decide)) (m_X3_flightAt_n X hk) (by decide) (Nat.le_of_ble_eq_true rfl) ⟨Nat.zero_le _, Nat.zero_le _⟩ ?_
    refine g_astore_6N (q := 7) C dX3_party_5 rfl (by rw [hN]; decide) rfl ?_
    refine g_aload_6N (q := 9) C dX3_party_7 rfl ?_
    refine g_ifnullN (tgt := 21) C dX3_party_9 (by decide) ?_
    refine g_iconst (v := (-1)) (q := 22) C dX3_party_21 rfl (by decide) ?_
    refine g_wide (cl' := 1) (sl' := 9) (by decide) (by decide) ?_
    exact g_iret C RT9 dX3_party_22 (Or.inr ⟨by first | (simp [pyK, hk]; done) | (simp [pyK, show ¬ nP < 20 from fun h => c_18 (by rw [X.nP]; exact nI_lt (b := 20) h (by decide))]; done) | (simp [pyK, c_30]; done) | (simp [pyK, c_40]; done) | (simp [pyK, c_52]; done), rfl, rfl, rfl, rfl, rfl, rfl⟩)
  · obtain ⟨f, hf, rfl⟩ := fok_t hk (by omega)
    refine g_cv1i (q := 5) C cv_X3_53 dX3_party_2 rfl rfl (IX.d0 I _ (by decide)) (m_X3_flightAt_y X hf) (by decide) (Nat.le_of_ble_eq_true rfl) ⟨Nat.zero_le _, Nat.zero_le _⟩ ?_
    refine g_astore_6 (q := 7) C dX3_party_5 rfl (by rw [hN]; decide) rfl ?_
    refine g_aload_6 (q := 9) C dX3_party_7 rfl ?_
    refine g_ifnull (q := 12) C dX3_party_9 rfl ?_
    refine g_aload_0 (q := 13) C dX3_party_12 rfl ?_
    refine g_geti (q := 16) C f_X3_40 dX3_party_13 rfl rfl (IX.d0 I _ (by decide)) ?_
    refine g_bipush (v := 20) (q := 18) C dX3_party_16 rfl (by decide) ?_
    refine g_icmp_lt (tgt := 23) (q := 21) C dX3_party_18 rfl (by decide) (fun c_18 => ?_) (fun c_18 => ?_)
    · refine g_iload_2 (q := 24) C dX3_party_23 rfl ?_
      refine g_iconst (v := 1) (q := 25) C dX3_party_24 rfl (by decide) ?_
      refine g_bipush (v := 6) (q := 27) C dX3_party_25 rfl (by decide) ?_
      refine g_cs3i (q := 30) C cs_X3_46 dX3_party_27 rfl (m_X3_within _ _ _) (by decide) (Nat.le_of_ble_eq_true rfl) ⟨Nat.zero_le _, Nat.zero_le _⟩ ?_
      refine g_ifeqb (tgt := 55) (q := 33) C dX3_party_30 rfl (by decide) (fun c_30 => ?_) (fun c_30 => ?_)
      · refine g_iconst (v := (-1)) (q := 56) C dX3_party_55 rfl (by decide) ?_
        refine g_wide (cl' := 1) (sl' := 9) (by decide) (by decide) ?_
        exact g_iret C RT9 dX3_party_56 (Or.inr ⟨by first | (simp [pyK, hk]; done) | (simp [pyK, show ¬ nP < 20 from fun h => c_18 (by rw [X.nP]; exact nI_lt (b := 20) h (by decide))]; done) | (simp [pyK, c_30]; done) | (simp [pyK, c_40]; done) | (simp [pyK, c_52]; done), rfl, rfl, rfl, rfl, rfl, rfl⟩)
      · refine g_iload_3 (q := 34) C dX3_party_33 rfl ?_
        refine g_iconst (v := 0) (q := 35) C dX3_party_34 rfl (by decide) ?_
        refine g_bipush (v := 9) (q := 37) C dX3_party_35 rfl (by decide) ?_
        refine g_cs3i (q := 40) C cs_X3_46 dX3_party_37 rfl (m_X3_within _ _ _) (by decide) (Nat.le_of_ble_eq_true rfl) ⟨Nat.zero_le _, Nat.zero_le _⟩ ?_
        refine g_ifeqb (tgt := 55) (q := 43) C dX3_party_40 rfl (by decide) (fun c_40 => ?_) (fun c_40 => ?_)
        · refine g_iconst (v := (-1)) (q := 56) C dX3_party_55 rfl (by decide) ?_
          refine g_wide (cl' := 1) (sl' := 9) (by decide) (by decide) ?_
          exact g_iret C RT9 dX3_party_56 (Or.inr ⟨by first | (simp [pyK, hk]; done) | (simp [pyK, show ¬ nP < 20 from fun h => c_18 (by rw [X.nP]; exact nI_lt (b := 20) h (by decide))]; done) | (simp [pyK, c_30]; done) | (simp [pyK, c_40]; done) | (simp [pyK, c_52]; done), rfl, rfl, rfl, rfl, rfl, rfl⟩)
        · refine g_iload_4 (q := 45) C dX3_party_43 rfl ?_
          refine g_iconst (v := (-1)) (q := 46) C dX3_party_45 rfl (by decide) ?_
          refine g_sipush (v := 999) (q := 49) C dX3_party_46 rfl (by decide) ?_
          refine g_cs3i (q := 52) C cs_X3_46 dX3_party_49 rfl (m_X3_within _ _ _) (by decide) (Nat.le_of_ble_eq_true rfl) ⟨Nat.zero_le _, Nat.zero_le _⟩ ?_
          refine g_ifneb (tgt := 57) (q := 55) C dX3_party_52 rfl (by decide) (fun c_52 => ?_) (fun c_52 => ?_)
          · refine g_aload_0 (q := 58) C dX3_party_57 rfl ?_
            refine g_geti (q := 61) C f_X3_40 dX3_party_58 rfl rfl (IX.d0 I _ (by decide)) ?_
            rw [X.nP]
            refine g_istore_7 (q := 63) C dX3_party_61 rfl (by rw [hN]; decide) rfl ?_
            refine g_aload_0 (q := 64) C dX3_party_63 rfl ?_
            refine g_getc (q := 67) (m := 2) C f_X3_17 dX3_party_64 rfl rfl (IX.d0 I _ (by decide)) ?_
            refine g_iload_7 (q := 69) C dX3_party_67 rfl ?_
            have h51 : nP < 20 := by
              rcases Nat.lt_or_ge nP 20 with h | h
              · exact h
              · exact absurd c_18 (by rw [X.nP, show nP = 20 by omega]; decide)
            refine g_newo (n := (30 + nP)) (ty := tyX2) (q := 72) C dX3_party_69 rfl rfl in_X2 tyX2_ok nw_X2 (ly_P h51) hn (kds_obj (by omega) (by omega)) (B.noref (by omega)) dz_X2 (by decide) ⟨by rw [hcells]; decide, by rw [hslots]; decide⟩ (fun ad1 had => ?_)
            rw [← had 0 (by omega), ← had 2 (by omega), ← had (20 + f) (by omega)]
            have I := I.up (30 + nP)
            refine g_dup (q := 73) C dX3_party_72 rfl rfl ?_
            refine g_aload_6 (q := 75) C dX3_party_73 rfl ?_
            refine g_iload_2 (q := 76) C dX3_party_75 rfl ?_
            refine g_iload_3 (q := 77) C dX3_party_76 rfl ?_
            refine g_iload_4 (q := 79) C dX3_party_77 rfl ?_
            refine g_iload_5 (q := 81) C dX3_party_79 rfl ?_
            refine g_ci5v (q := 84) C ci_X3_61 dX3_party_81 rfl (m_X2_init (ly_P h51) (va_up_self _ _ _) _ _ _ _ hz) (by decide) (Nat.le_of_ble_eq_true rfl) ⟨by rw [hcells]; decide, by rw [hslots]; decide⟩ ?_
            refine g_aastP (q := 85) C dX3_party_84 rfl rfl (IX.d0 I _ (by decide)) (va_up_self _ _ _) (ly_P h51) rfl h51 (by decide) ?_
            refine g_aload_0 (q := 86) C dX3_party_85 rfl ?_
            refine g_dup (q := 87) C dX3_party_86 rfl rfl ?_
            refine g_geti (q := 90) C f_X3_40 dX3_party_87 rfl rfl (IX.d0 I _ (by decide)) ?_
            refine g_iconst (v := 1) (q := 91) C dX3_party_90 rfl (by decide) ?_
            refine g_iadd (q := 92) C dX3_party_91 rfl ?_
            refine g_puti (q := 95) C p_X3_40 dX3_party_92 rfl rfl (IX.d0 I _ (by decide)) rfl rfl ?_
            refine g_iload_7 (q := 97) C dX3_party_95 rfl ?_
            refine g_iret C RT9 dX3_party_97 (Or.inl ⟨by simp [pyK, hk, c_30, c_40, c_52, h51], rfl, had, rfl, ?_, ?_, ?_, ?_⟩)
            · refine X.np (v := v9 (nI f) x2 x3 x4 z) h51 hf rfl rfl rfl (fun n h1 h2 => ?_) ?_ (fun k hk => ?_) (fun k h1 h2 => ?_) ?_ ⟨?_, ?_, ?_⟩ (fun n k h1 h2 => ?_)
              · rw [u2_n h1, up1_n h2, upz_n h2]
              · rw [u2_s, up1_n (by omega), upz_n (by omega), X.nP, nI_1]
              · rw [u2_k hk, up1_n (by omega), upz_n (by omega)]
              · rw [u2_n (by omega), up1_s]
                have h : k = 1 ∨ k = 2 ∨ k = 3 ∨ k = 4 ∨ k = 5 ∨ k = 6 := by omega
                rcases h with rfl | rfl | rfl | rfl | rfl | rfl <;> rfl
              · exact u2_s
              · rw [u2_n (by omega), u2_s]
              · rw [u2_n (by omega), u2_k (by decide), u2_k (by decide), u2_s]
              · rw [u2_n (by omega), u2_k (by decide), u2_s]
              · rw [show u2 (u2 (u2 (u2 (upz r (30 + nP) none) (30 + nP) 7 none) (30 + nP) 8 none) (30 + nP) 0 (some (20 + f))) 2 nP (some (30 + nP)) n k = u2 (upz r (30 + nP) none) 2 nP (some (30 + nP)) n k by simp [u2, h1]]
                rcases h2 with h2 | h2
                · rw [u2_n h2, upz_n h1]
                · rw [u2_k h2, upz_n h1]
            · refine rb_u2 (rb_u2 (rb_none (rb_none ((rb_upz B).mono (by omega) (by omega)))) (fun m e => by cases e; exact Or.inl ⟨by omega, by omega⟩)) (fun m e => by cases e; exact Or.inr ⟨by omega, by omega⟩)
            · intro n hn9
              rw [u2_n (by omega), up1_n (by omega), upz_n (by omega)]
            · intro n hn9
              rw [upz_n (by omega)]
          · refine g_iconst (v := (-1)) (q := 56) C dX3_party_55 rfl (by decide) ?_
            refine g_wide (cl' := 1) (sl' := 9) (by decide) (by decide) ?_
            exact g_iret C RT9 dX3_party_56 (Or.inr ⟨by first | (simp [pyK, hk]; done) | (simp [pyK, show ¬ nP < 20 from fun h => c_18 (by rw [X.nP]; exact nI_lt (b := 20) h (by decide))]; done) | (simp [pyK, c_30]; done) | (simp [pyK, c_40]; done) | (simp [pyK, c_52]; done), rfl, rfl, rfl, rfl, rfl, rfl⟩)
    · refine g_iconst (v := (-1)) (q := 22) C dX3_party_21 rfl (by decide) ?_
      refine g_wide (cl' := 1) (sl' := 9) (by decide) (by decide) ?_
      exact g_iret C RT9 dX3_party_22 (Or.inr ⟨by first | (simp [pyK, hk]; done) | (simp [pyK, show ¬ nP < 20 from fun h => c_18 (by rw [X.nP]; exact nI_lt (b := 20) h (by decide))]; done) | (simp [pyK, c_30]; done) | (simp [pyK, c_40]; done) | (simp [pyK, c_52]; done), rfl, rfl, rfl, rfl, rfl, rfl⟩)

def bkX (fl pa : Nat → Int32) (nP : Nat) (p1 : Int32) : Bool := fok nP p1 && decide (¬ pa (9 * cN p1 + 5) = 0) && decide (fl (7 * cN (pa (9 * cN p1)) + 6) = 0) && decide (ldS pa (pa (9 * cN p1)) nP + pa (9 * cN p1 + 1) ≤ fl (7 * cN (pa (9 * cN p1)) + 4))
set_option maxHeartbeats 4000000 in
set_option maxRecDepth 100000 in
theorem m_X3_back (X : XR nF nP fl pa nu dm a r) (W : WP nF nP pa) (F : WF nF fl) (B : RB nF nP r) (p1 : Int32) : MT g bs l yX3_back cX3_back 3 (some .boolean) 3 0 0 [.ref (ad 0), .int p1] ad dm a b r (fun v ad0 dm0 a0 b0 r0 => (bkX fl pa nP p1 = true ∧ v = some (.int 1) ∧ ad0 = ad ∧ dm0 = dm ∧ b0 = b ∧ XR nF nP fl (gvP pa (cN p1) 0 0) nu dm a0 r0 ∧ RB nF nP r0 ∧ ∀ n, 100 ≤ n → a0 n = a n) ∨ (bkX fl pa nP p1 = false ∧ v = some (.int 0) ∧ ad0 = ad ∧ dm0 = dm ∧ a0 = a ∧ b0 = b ∧ r0 = r)) := by
  refine mt_of (by decide) [some (.ref (ad 0)), some (.int p1), none] rfl (Nat.le_of_ble_eq_true rfl) ?_
  intro E hg hbs hl hN C RT9 hcells hslots hname
  have I := X.1
  have hnF := I.1
  have hnP := I.2.1
  refine g_aload_0 (q := 1) C dX3_back_0 rfl ?_
  refine g_iload_1 (q := 2) C dX3_back_1 rfl ?_
  rcases hkp : fok nP p1 with _ | _
  · refine g_cv1i (q := 5) C cv_X3_81 dX3_back_2 rfl rfl (IX.d0 I _ (by decide)) (m_X3_partyAt_n X hkp) (by decide) (Nat.le_of_ble_eq_true rfl) ⟨Nat.zero_le _, Nat.zero_le _⟩ ?_
    refine g_astore_2N (q := 6) C dX3_back_5 rfl (by rw [hN]; decide) rfl ?_
    refine g_aload_2N (q := 7) C dX3_back_6 rfl ?_
    refine g_ifnullN (tgt := 17) C dX3_back_7 (by decide) ?_
    refine g_iconst (v := 0) (q := 18) C dX3_back_17 rfl (by decide) ?_
    exact g_zret C RT9 dX3_back_18 rfl (Or.inr ⟨by first | (simp [bkX, hkp]; done) | (simp only [bkX, hkp, cN_nI (show j < 2 ^ 31 by omega), eo, cN_nI (show o < 2 ^ 31 by omega), e5, e1, ← show a (20 + o) 7 = fl (7 * o + 6) from X.fk (k := 6) ho (by decide), ← show a (20 + o) 5 = fl (7 * o + 4) from X.fk (k := 4) ho (by decide)]; simp [c_14]), rfl, rfl, rfl, rfl, rfl, rfl⟩)
  · obtain ⟨j, hj, rfl⟩ := fok_t hkp (by omega)
    obtain ⟨o, ho, ro, eo, e1, e2, e3, e4, e5, e6, w7, w8⟩ := X.pt hj
    refine g_cv1i (q := 5) C cv_X3_81 dX3_back_2 rfl rfl (IX.d0 I _ (by decide)) (m_X3_partyAt_y X hj) (by decide) (Nat.le_of_ble_eq_true rfl) ⟨Nat.zero_le _, Nat.zero_le _⟩ ?_
    refine g_astore_2 (q := 6) C dX3_back_5 rfl (by rw [hN]; decide) rfl ?_
    refine g_aload_2 (q := 7) C dX3_back_6 rfl ?_
    refine g_ifnull (q := 10) C dX3_back_7 rfl ?_
    refine g_aload_2 (q := 11) C dX3_back_10 rfl ?_
    refine g_geti (q := 14) C f_X3_92 dX3_back_11 rfl (IX.lp I (by assumption)) (IX.dp I (by assumption)) ?_
    refine g_if_ne (tgt := 19) (q := 17) C dX3_back_14 rfl (by decide) (fun c_14 => ?_) (fun c_14 => ?_)
    · refine g_aload_2 (q := 20) C dX3_back_19 rfl ?_
      refine g_getr (q := 23) C f_X3_95 dX3_back_20 rfl (IX.lp I (by assumption)) (IX.dp I (by assumption)) ro ?_
      refine g_geti (q := 26) C f_X3_57 dX3_back_23 rfl (IX.lf I (by assumption)) (IX.df I (by assumption)) ?_
      refine g_if_ne (tgt := 52) (q := 29) C dX3_back_26 rfl (by decide) (fun c_26 => ?_) (fun c_26 => ?_)
      · refine g_iconst (v := 0) (q := 53) C dX3_back_52 rfl (by decide) ?_
        exact g_zret C RT9 dX3_back_53 rfl (Or.inr ⟨by first | (simp only [bkX, hkp, cN_nI (show j < 2 ^ 31 by omega), eo, cN_nI (show o < 2 ^ 31 by omega), e5, e1, ← show a (20 + o) 7 = fl (7 * o + 6) from X.fk (k := 6) ho (by decide), ← show a (20 + o) 5 = fl (7 * o + 4) from X.fk (k := 4) ho (by decide)]; simp [c_26]; done) | (simp only [bkX, hkp, cN_nI (show j < 2 ^ 31 by omega), eo, cN_nI (show o < 2 ^ 31 by omega), e5, e1, ← show a (20 + o) 7 = fl (7 * o + 6) from X.fk (k := 6) ho (by decide), ← show a (20 + o) 5 = fl (7 * o + 4) from X.fk (k := 4) ho (by decide)]; simp [c_26, Int32.not_le.mp c_49]; done), rfl, rfl, rfl, rfl, rfl, rfl⟩)
      · refine g_aload_0 (q := 30) C dX3_back_29 rfl ?_
        refine g_aload_2 (q := 31) C dX3_back_30 rfl ?_
        refine g_getr (q := 34) C f_X3_95 dX3_back_31 rfl (IX.lp I (by assumption)) (IX.dp I (by assumption)) ro ?_
        refine g_cv1i (q := 37) C cv_X3_68 dX3_back_34 rfl rfl (IX.d0 I _ (by decide)) (m_X3_loadOf X W (by assumption)) (by decide) (Nat.le_of_ble_eq_true rfl) ⟨Nat.zero_le _, Nat.zero_le _⟩ ?_
        refine g_aload_2 (q := 38) C dX3_back_37 rfl ?_
        refine g_geti (q := 41) C f_X3_102 dX3_back_38 rfl (IX.lp I (by assumption)) (IX.dp I (by assumption)) ?_
        refine g_iadd (q := 42) C dX3_back_41 rfl ?_
        refine g_aload_2 (q := 43) C dX3_back_42 rfl ?_
        refine g_getr (q := 46) C f_X3_95 dX3_back_43 rfl (IX.lp I (by assumption)) (IX.dp I (by assumption)) ro ?_
        refine g_geti (q := 49) C f_X3_75 dX3_back_46 rfl (IX.lf I (by assumption)) (IX.df I (by assumption)) ?_
        refine g_icmp_le (tgt := 54) (q := 52) C dX3_back_49 rfl (by decide) (fun c_49 => ?_) (fun c_49 => ?_)
        · refine g_aload_2 (q := 55) C dX3_back_54 rfl ?_
          refine g_cv0v (q := 58) C cv_X3_176 dX3_back_55 rfl (IX.lp I (by assumption)) (IX.dp I (by assumption)) (m_X2_flyAgain I hj) (by decide) (Nat.le_of_ble_eq_true rfl) ⟨Nat.zero_le _, Nat.zero_le _⟩ ?_
          refine g_iconst (v := 1) (q := 59) C dX3_back_58 rfl (by decide) ?_
          exact g_zret C RT9 dX3_back_59 rfl (Or.inl ⟨by (simp only [bkX, hkp, cN_nI (show j < 2 ^ 31 by omega), eo, cN_nI (show o < 2 ^ 31 by omega), e5, e1, ← show a (20 + o) 7 = fl (7 * o + 6) from X.fk (k := 6) ho (by decide), ← show a (20 + o) 5 = fl (7 * o + 4) from X.fk (k := 4) ho (by decide)]; simp [c_14, c_26, c_49]), rfl, rfl, rfl, rfl, by rw [cN_nI (by omega), gv_paU]; exact X.pup hj (Or.inl ⟨rfl, rfl⟩) (Or.inl ⟨rfl, rfl⟩), rb_none (rb_none B), fun n hn => u2_dn (by omega) (by omega)⟩)
        · refine g_iconst (v := 0) (q := 53) C dX3_back_52 rfl (by decide) ?_
          exact g_zret C RT9 dX3_back_53 rfl (Or.inr ⟨by first | (simp only [bkX, hkp, cN_nI (show j < 2 ^ 31 by omega), eo, cN_nI (show o < 2 ^ 31 by omega), e5, e1, ← show a (20 + o) 7 = fl (7 * o + 6) from X.fk (k := 6) ho (by decide), ← show a (20 + o) 5 = fl (7 * o + 4) from X.fk (k := 4) ho (by decide)]; simp [c_26]; done) | (simp only [bkX, hkp, cN_nI (show j < 2 ^ 31 by omega), eo, cN_nI (show o < 2 ^ 31 by omega), e5, e1, ← show a (20 + o) 7 = fl (7 * o + 6) from X.fk (k := 6) ho (by decide), ← show a (20 + o) 5 = fl (7 * o + 4) from X.fk (k := 4) ho (by decide)]; simp [c_26, Int32.not_le.mp c_49]; done), rfl, rfl, rfl, rfl, rfl, rfl⟩)
    · refine g_iconst (v := 0) (q := 18) C dX3_back_17 rfl (by decide) ?_
      exact g_zret C RT9 dX3_back_18 rfl (Or.inr ⟨by first | (simp [bkX, hkp]; done) | (simp only [bkX, hkp, cN_nI (show j < 2 ^ 31 by omega), eo, cN_nI (show o < 2 ^ 31 by omega), e5, e1, ← show a (20 + o) 7 = fl (7 * o + 6) from X.fk (k := 6) ho (by decide), ← show a (20 + o) 5 = fl (7 * o + 4) from X.fk (k := 4) ho (by decide)]; simp [c_14]), rfl, rfl, rfl, rfl, rfl, rfl⟩)

end X20
