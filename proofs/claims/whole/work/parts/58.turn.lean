/-! the law: of, and the whole turn -/
section L58
variable {E : EN} {ad : Nat → Nat} {dm : Nat → Bool} {a : Nat → Nat → Int32} {b : Nat → Nat → Int64} {r : Nat → Nat → Option Nat} {nF nP : Nat} {fl pa nu : Nat → Int32} {bb L t : Nat} {xs : Nat → Int32}
set_option maxHeartbeats 4000000 in
set_option maxRecDepth 100000 in
theorem law_5 {e5 e6 : Option Value} {sa1 sa2 : Nat} (hlt : (eL E).stackTraces = false) (hF : XE (eB E) sa1 sa2 (eS E)) (LW : LX E bb L xs) (ht : 7 * t + 7 ≤ L) (h : LV nF nP fl pa nu dm a r) (hk : ∀ (ad' : Nat → Nat) (dm' : Nat → Bool) (a' : Nat → Nat → Int32) (b' : Nat → Nat → Int64) (r' : Nat → Nat → Option Nat) (e5 e6 : Option Value), LVx dm' a' r' → G E (102 + 2 * t) (3018 + 18 * t) ad' dm' a' b' r' 753 [some (.ref bb), some (.ref (ad' 0)), some (.ref (ad' 100)), some (.ref (ad' 120)), some (.int (nI (7 * t))), e5, e6] []) : G E (100 + 2 * t) (3000 + 18 * t) ad dm a b r 423 [some (.ref bb), some (.ref (ad 0)), some (.ref (ad 100)), some (.ref (ad 120)), some (.int (nI (7 * t))), e5, e6] [] := by
  obtain ⟨X, I, ⟨e1, e2, e3⟩, ⟨W, F, N⟩, B, dF, dP, d8, d9, d0⟩ := id h
  obtain ⟨C, -, -, -, hRc, hRs, hL, hN⟩ := id LW
  have hnF := X.1.1
  have hnP := X.1.2.1
  cases hK : ofK nP (xs (7 * t + 1)) (xs (7 * t + 2)) with
  | true =>
    refine g_aload_1 (q := 424) C dL_law_423 rfl ?_
    refine g_aload_0 (q := 425) C dL_law_424 rfl ?_
    refine g_iload_4 (q := 427) C dL_law_425 rfl ?_
    refine g_iconst (v := 1) (q := 428) C dL_law_427 rfl (by decide) ?_
    refine g_iadd (q := 429) C dL_law_428 rfl ?_
    refine g_sld (q := 430) (j := 7 * t + 1) LW dL_law_429 rfl (nI_add (7 * t) 1) (by omega) ?_
    refine g_aload_0 (q := 431) C dL_law_430 rfl ?_
    refine g_iload_4 (q := 433) C dL_law_431 rfl ?_
    refine g_iconst (v := 2) (q := 434) C dL_law_433 rfl (by decide) ?_
    refine g_iadd (q := 435) C dL_law_434 rfl ?_
    refine g_sld (q := 436) (j := 7 * t + 2) LW dL_law_435 rfl (nI_add (7 * t) 2) (by omega) ?_
    refine g_aload_3 (q := 437) C dL_law_436 rfl ?_
    refine g_lof C hF (m_L_of hlt X W d0 _ _) dL_law_437 ⟨by rw [hRc]; omega, by rw [hRs]; omega⟩ (fun v ad' dm' a' b' r' hp => ?_)
    obtain ⟨q1, q2, q3, q5, hp⟩ := hp
    obtain ⟨-, rfl, q4⟩ := hp.resolve_right (fun z => by rw [z.1] at hK; cases hK)
    have q1 := q1.symm
    have q2 := q2.symm
    have q3 := q3.symm
    have q4 := q4.symm
    have q5 := q5.symm
    subst q1 q2 q3 q4 q5
    change G E _ _ _ _ _ _ _ 440 _ [.int 0]
    refine g_istore_5 (q := 442) C dL_law_440 rfl (by rw [hN]; decide) rfl ?_
    refine g_aload_2 (q := 443) C dL_law_442 rfl ?_
    refine g_aload_0 (q := 444) C dL_law_443 rfl ?_
    refine g_iload_4 (q := 446) C dL_law_444 rfl ?_
    refine g_iconst (v := 1) (q := 447) C dL_law_446 rfl (by decide) ?_
    refine g_iadd (q := 448) C dL_law_447 rfl ?_
    refine g_sld (q := 449) (j := 7 * t + 1) LW dL_law_448 rfl (nI_add (7 * t) 1) (by omega) ?_
    refine g_aload_0 (q := 450) C dL_law_449 rfl ?_
    refine g_iload_4 (q := 452) C dL_law_450 rfl ?_
    refine g_iconst (v := 2) (q := 453) C dL_law_452 rfl (by decide) ?_
    refine g_iadd (q := 454) C dL_law_453 rfl ?_
    refine g_sld (q := 455) (j := 7 * t + 2) LW dL_law_454 rfl (nI_add (7 * t) 2) (by omega) ?_
    refine g_cv2g (q := 458) C cv_L_47 dL_law_455 rfl rfl (IM.d I _ (by decide) (by decide)) (m_X4_of I rfl (by rw [u2_n (show (102 : Nat) ≠ 100 by decide), e2]; exact W) _ _) (by decide) (Nat.le_of_ble_eq_true rfl) ⟨by rw [hRc]; omega, by rw [hRs]; omega⟩ (fun v ad' dm' a' b' r' hp => ?_)
    obtain ⟨q1, q2, q4, q5, hp⟩ := hp
    obtain ⟨-, rfl, rfl⟩ := hp.resolve_right (fun z => by rw [z.1] at hK; cases hK)
    have q1 := q1.symm
    have q2 := q2.symm
    have q4 := q4.symm
    have q5 := q5.symm
    subst q1 q2 q4 q5
    rw [u2_n (show (101 : Nat) ≠ 100 by decide), u2_n (show (102 : Nat) ≠ 100 by decide), u2_n (show (103 : Nat) ≠ 100 by decide), e1, e2, e3]
    change G E _ _ _ _ _ _ _ 458 _ [.int (ofS fl pa nu (cN (xs (7 * t + 1))) (xs (7 * t + 2)))]
    refine g_istore_6 (q := 460) C dL_law_458 rfl (by rw [hN]; decide) rfl ?_
    refine g_aload_2 (q := 461) C dL_law_460 rfl ?_
    refine g_cv0i (q := 464) C cv_L_48 dL_law_461 rfl rfl (IM.d I _ (by decide) (by decide)) (m_X4_thrown I) (by decide) (Nat.le_of_ble_eq_true rfl) ⟨by rw [hRc]; omega, by rw [hRs]; omega⟩ ?_
    rw [u2_s]
    refine g_iload_5 (q := 466) C dL_law_464 rfl ?_
    refine g_icmp_eq (tgt := 471) (q := 469) C dL_law_466 rfl (by decide) (fun c_466 => ?_) (fun c_466 => absurd rfl c_466)
    refine g_iload_5 (q := 473) C dL_law_471 rfl ?_
    refine g_if_ne (tgt := 488) (q := 476) C dL_law_473 rfl (by decide) (fun c_473 => absurd rfl c_473) (fun c_473 => ?_)
    refine g_aload_3 (q := 477) C dL_law_476 rfl ?_
    refine g_iconst (v := 0) (q := 478) C dL_law_477 rfl (by decide) ?_
    refine g_la (q := 479) C dL_law_478 rfl rfl d0 (show _ = nI 0 from rfl) (by decide) (by decide) ?_
    rw [u2_s]
    refine g_iload_6 (q := 481) C dL_law_479 rfl ?_
    refine g_i2l (q := 482) C dL_law_481 rfl ?_
    refine g_lcmp (q := 483) C dL_law_482 rfl ?_
    refine g_if_eq (tgt := 488) (q := 486) C dL_law_483 rfl (by decide) (fun c_483 => ?_) (fun c_483 => absurd ((lc_eq _ _).mpr rfl) c_483)
    refine g_goto (tgt := 753) C dL_law_488 (by decide) ?_
    refine g_wide (cl' := 102 + 2 * t) (sl' := 3018 + 18 * t) (by omega) (by omega) ?_
    exact hk ad dm _ _ r _ _ (LV_s h X ⟨W, F, N⟩ B (fun m hm => u2_n (by omega)) ⟨u2_k (by decide) _, u2_k (by decide) _⟩ ⟨by rw [u2_n (by decide)]; exact e1, by rw [u2_n (by decide)]; exact e2, by rw [u2_n (by decide)]; exact e3⟩)
  | false =>
    refine g_aload_1 (q := 424) C dL_law_423 rfl ?_
    refine g_aload_0 (q := 425) C dL_law_424 rfl ?_
    refine g_iload_4 (q := 427) C dL_law_425 rfl ?_
    refine g_iconst (v := 1) (q := 428) C dL_law_427 rfl (by decide) ?_
    refine g_iadd (q := 429) C dL_law_428 rfl ?_
    refine g_sld (q := 430) (j := 7 * t + 1) LW dL_law_429 rfl (nI_add (7 * t) 1) (by omega) ?_
    refine g_aload_0 (q := 431) C dL_law_430 rfl ?_
    refine g_iload_4 (q := 433) C dL_law_431 rfl ?_
    refine g_iconst (v := 2) (q := 434) C dL_law_433 rfl (by decide) ?_
    refine g_iadd (q := 435) C dL_law_434 rfl ?_
    refine g_sld (q := 436) (j := 7 * t + 2) LW dL_law_435 rfl (nI_add (7 * t) 2) (by omega) ?_
    refine g_aload_3 (q := 437) C dL_law_436 rfl ?_
    refine g_lof C hF (m_L_of hlt X W d0 _ _) dL_law_437 ⟨by rw [hRc]; omega, by rw [hRs]; omega⟩ (fun v ad' dm' a' b' r' hp => ?_)
    obtain ⟨q1, q2, q3, q5, hp⟩ := hp
    obtain ⟨-, rfl, q4⟩ := hp.resolve_left (fun z => by rw [z.1] at hK; cases hK)
    have q1 := q1.symm
    have q2 := q2.symm
    have q3 := q3.symm
    have q4 := q4.symm
    have q5 := q5.symm
    subst q1 q2 q3 q4 q5
    change G E _ _ _ _ _ _ _ 440 _ [.int 1]
    refine g_istore_5 (q := 442) C dL_law_440 rfl (by rw [hN]; decide) rfl ?_
    refine g_aload_2 (q := 443) C dL_law_442 rfl ?_
    refine g_aload_0 (q := 444) C dL_law_443 rfl ?_
    refine g_iload_4 (q := 446) C dL_law_444 rfl ?_
    refine g_iconst (v := 1) (q := 447) C dL_law_446 rfl (by decide) ?_
    refine g_iadd (q := 448) C dL_law_447 rfl ?_
    refine g_sld (q := 449) (j := 7 * t + 1) LW dL_law_448 rfl (nI_add (7 * t) 1) (by omega) ?_
    refine g_aload_0 (q := 450) C dL_law_449 rfl ?_
    refine g_iload_4 (q := 452) C dL_law_450 rfl ?_
    refine g_iconst (v := 2) (q := 453) C dL_law_452 rfl (by decide) ?_
    refine g_iadd (q := 454) C dL_law_453 rfl ?_
    refine g_sld (q := 455) (j := 7 * t + 2) LW dL_law_454 rfl (nI_add (7 * t) 2) (by omega) ?_
    refine g_cv2g (q := 458) C cv_L_47 dL_law_455 rfl rfl (IM.d I _ (by decide) (by decide)) (m_X4_of I rfl (by rw [u2_n (show (102 : Nat) ≠ 100 by decide), e2]; exact W) _ _) (by decide) (Nat.le_of_ble_eq_true rfl) ⟨by rw [hRc]; omega, by rw [hRs]; omega⟩ (fun v ad' dm' a' b' r' hp => ?_)
    obtain ⟨q1, q2, q4, q5, hp⟩ := hp
    obtain ⟨-, rfl, rfl⟩ := hp.resolve_left (fun z => by rw [z.1] at hK; cases hK)
    have q1 := q1.symm
    have q2 := q2.symm
    have q4 := q4.symm
    have q5 := q5.symm
    subst q1 q2 q4 q5
    change G E _ _ _ _ _ _ _ 458 _ [.int 0]
    refine g_istore_6 (q := 460) C dL_law_458 rfl (by rw [hN]; decide) rfl ?_
    refine g_aload_2 (q := 461) C dL_law_460 rfl ?_
    refine g_cv0i (q := 464) C cv_L_48 dL_law_461 rfl rfl (IM.d I _ (by decide) (by decide)) (m_X4_thrown I) (by decide) (Nat.le_of_ble_eq_true rfl) ⟨by rw [hRc]; omega, by rw [hRs]; omega⟩ ?_
    rw [u2_s]
    refine g_iload_5 (q := 466) C dL_law_464 rfl ?_
    refine g_icmp_eq (tgt := 471) (q := 469) C dL_law_466 rfl (by decide) (fun c_466 => ?_) (fun c_466 => absurd rfl c_466)
    refine g_iload_5 (q := 473) C dL_law_471 rfl ?_
    refine g_if_ne (tgt := 488) (q := 476) C dL_law_473 rfl (by decide) (fun c_473 => ?_) (fun c_473 => absurd c_473 (by decide))
    refine g_goto (tgt := 753) C dL_law_488 (by decide) ?_
    refine g_wide (cl' := 102 + 2 * t) (sl' := 3018 + 18 * t) (by omega) (by omega) ?_
    exact hk ad dm _ _ r _ _ (LV_s h X ⟨W, F, N⟩ B (fun m hm => by rw [u2_n (by omega), u2_n (by omega)]) ⟨by rw [u2_k (by decide), u2_k (by decide)], by rw [u2_k (by decide), u2_k (by decide)]⟩ ⟨by rw [u2_n (by decide), u2_n (by decide)]; exact e1, by rw [u2_n (by decide), u2_n (by decide)]; exact e2, by rw [u2_n (by decide), u2_n (by decide)]; exact e3⟩)
set_option maxHeartbeats 4000000 in
set_option maxRecDepth 100000 in
theorem law_turn {e5 e6 : Option Value} {sa1 sa2 : Nat} (hlt : (eL E).stackTraces = false) (hF : XE (eB E) sa1 sa2 (eS E)) (LW : LX E bb L xs) (ht : 7 * t + 7 ≤ L) (h : LV nF nP fl pa nu dm a r) (hk : ∀ (ad' : Nat → Nat) (dm' : Nat → Bool) (a' : Nat → Nat → Int32) (b' : Nat → Nat → Int64) (r' : Nat → Nat → Option Nat) (e5 e6 : Option Value), LVx dm' a' r' → G E (102 + 2 * t) (3018 + 18 * t) ad' dm' a' b' r' 753 [some (.ref bb), some (.ref (ad' 0)), some (.ref (ad' 100)), some (.ref (ad' 120)), some (.int (nI (7 * t))), e5, e6] []) : G E (100 + 2 * t) (3000 + 18 * t) ad dm a b r 33 [some (.ref bb), some (.ref (ad 0)), some (.ref (ad 100)), some (.ref (ad 120)), some (.int (nI (7 * t))), e5, e6] [] := by
  obtain ⟨C, -, -, -, hRc, hRs, hL, hN⟩ := id LW
  refine g_aload_0 (q := 34) C dL_law_33 rfl ?_
  refine g_iload_4 (q := 36) C dL_law_34 rfl ?_
  refine g_sld (q := 37) (j := 7 * t) LW dL_law_36 rfl rfl (by omega) ?_
  refine g_bipush (v := 15) (q := 39) C dL_law_37 rfl (by decide) ?_
  refine g_iand (q := 40) C dL_law_39 rfl ?_
  obtain ⟨k, k1, k2⟩ := pk_andE (xs (7 * t)) (m := 15) 4 (by decide)
  rw [k2]
  by_cases sw_0 : k = 0
  · subst sw_0
    refine g_tableIn (tgt := 120) C dL_law_40 (by decide) (by decide) rfl (by decide) ?_
    exact law_0 LW ht h hk
  by_cases sw_1 : k = 1
  · subst sw_1
    refine g_tableIn (tgt := 207) C dL_law_40 (by decide) (by decide) rfl (by decide) ?_
    exact law_1 LW ht h hk
  by_cases sw_2 : k = 2
  · subst sw_2
    refine g_tableIn (tgt := 260) C dL_law_40 (by decide) (by decide) rfl (by decide) ?_
    exact law_2 LW ht h hk
  by_cases sw_3 : k = 3
  · subst sw_3
    refine g_tableIn (tgt := 349) C dL_law_40 (by decide) (by decide) rfl (by decide) ?_
    exact law_3 LW ht h hk
  by_cases sw_4 : k = 4
  · subst sw_4
    refine g_tableIn (tgt := 386) C dL_law_40 (by decide) (by decide) rfl (by decide) ?_
    exact law_4 LW ht h hk
  by_cases sw_5 : k = 5
  · subst sw_5
    refine g_tableIn (tgt := 423) C dL_law_40 (by decide) (by decide) rfl (by decide) ?_
    exact law_5 hlt hF LW ht h hk
  by_cases sw_6 : k = 6
  · subst sw_6
    refine g_tableIn (tgt := 491) C dL_law_40 (by decide) (by decide) rfl (by decide) ?_
    exact law_6 LW ht h hk
  by_cases sw_7 : k = 7
  · subst sw_7
    refine g_tableIn (tgt := 516) C dL_law_40 (by decide) (by decide) rfl (by decide) ?_
    exact law_7 LW ht h hk
  by_cases sw_8 : k = 8
  · subst sw_8
    refine g_tableIn (tgt := 541) C dL_law_40 (by decide) (by decide) rfl (by decide) ?_
    exact law_8 LW ht h hk
  by_cases sw_9 : k = 9
  · subst sw_9
    refine g_tableIn (tgt := 566) C dL_law_40 (by decide) (by decide) rfl (by decide) ?_
    exact law_9 LW ht h hk
  by_cases sw_10 : k = 10
  · subst sw_10
    refine g_tableIn (tgt := 615) C dL_law_40 (by decide) (by decide) rfl (by decide) ?_
    exact law_10 LW ht h hk
  by_cases sw_11 : k = 11
  · subst sw_11
    refine g_tableIn (tgt := 640) C dL_law_40 (by decide) (by decide) rfl (by decide) ?_
    exact law_11 LW ht h hk
  by_cases sw_12 : k = 12
  · subst sw_12
    refine g_tableIn (tgt := 665) C dL_law_40 (by decide) (by decide) rfl (by decide) ?_
    exact law_12 LW ht h hk
  by_cases sw_13 : k = 13
  · subst sw_13
    refine g_tableIn (tgt := 714) C dL_law_40 (by decide) (by decide) rfl (by decide) ?_
    exact law_13 LW ht h hk
  by_cases sw_14 : k = 14
  · subst sw_14
    refine g_tableIn (tgt := 727) C dL_law_40 (by decide) (by decide) rfl (by decide) ?_
    exact law_14 LW ht h hk
  by_cases sw_15 : k = 15
  · subst sw_15
    refine g_tableIn (tgt := 740) C dL_law_40 (by decide) (by decide) rfl (by decide) ?_
    exact law_15 LW ht h hk
  omega
set_option maxHeartbeats 4000000 in
set_option maxRecDepth 100000 in
theorem law_loop {sa1 sa2 : Nat} (hlt : (eL E).stackTraces = false) (hF : XE (eB E) sa1 sa2 (eS E)) (LW : LX E bb L xs) (hend : ∀ (cl sl : Nat) (ad : Nat → Nat) (dm : Nat → Bool) (a : Nat → Nat → Int32) (b : Nat → Nat → Int64) (r : Nat → Nat → Option Nat) (lo : List (Option Value)), cl ≤ 601024 → sl ≤ 7293034 → G E cl sl ad dm a b r 760 lo [.int 1]) : ∀ (n t : Nat) (ad : Nat → Nat) (dm : Nat → Bool) (a : Nat → Nat → Int32) (b : Nat → Nat → Int64) (r : Nat → Nat → Option Nat) (e5 e6 : Option Value), L < 7 * (t + n) + 7 → 7 * t ≤ L → LVx dm a r → G E (100 + 2 * t) (3000 + 18 * t) ad dm a b r 23 [some (.ref bb), some (.ref (ad 0)), some (.ref (ad 100)), some (.ref (ad 120)), some (.int (nI (7 * t))), e5, e6] [] := by
  obtain ⟨C, -, -, -, hRc, hRs, hL, hN⟩ := id LW
  have hlen : nI L - 7 = nI L - nI 7 := rfl
  intro n
  induction n with
  | zero =>
    intro t ad dm a b r e5 e6 hLn htL h
    refine g_iload_4 (q := 25) C dL_law_23 rfl ?_
    refine g_aload_0 (q := 26) C dL_law_25 rfl ?_
    refine g_slen (q := 27) LW dL_law_26 rfl ?_
    refine g_bipush (v := 7) (q := 29) C dL_law_27 rfl (by decide) ?_
    refine g_isub (q := 30) C dL_law_29 rfl ?_
    refine g_icmp_gt (tgt := 759) (q := 33) C dL_law_30 rfl (by decide) (fun c_30 => ?_) (fun c_30 => absurd ?_ c_30)
    · refine g_iconst (v := 1) (q := 760) C dL_law_759 rfl (by decide) ?_
      exact hend _ _ _ _ _ _ _ _ (by omega) (by omega)
    · rw [hlen, i_lt, pk_sub_toInt (by omega) (by omega), nI_toInt (by omega)]
      omega
  | succ n ih =>
    intro t ad dm a b r e5 e6 hLn htL h
    refine g_iload_4 (q := 25) C dL_law_23 rfl ?_
    refine g_aload_0 (q := 26) C dL_law_25 rfl ?_
    refine g_slen (q := 27) LW dL_law_26 rfl ?_
    refine g_bipush (v := 7) (q := 29) C dL_law_27 rfl (by decide) ?_
    refine g_isub (q := 30) C dL_law_29 rfl ?_
    refine g_icmp_gt (tgt := 759) (q := 33) C dL_law_30 rfl (by decide) (fun c_30 => ?_) (fun c_30 => ?_)
    · refine g_iconst (v := 1) (q := 760) C dL_law_759 rfl (by decide) ?_
      exact hend _ _ _ _ _ _ _ _ (by omega) (by omega)
    · rw [hlen, i_lt, pk_sub_toInt (by omega) (by omega), nI_toInt (by omega)] at c_30
      obtain ⟨nF, nP, fl, pa, nu, h⟩ := h
      refine law_turn hlt hF LW (by omega) h (fun ad' dm' a' b' r' e5' e6' h' => ?_)
      refine g_iinc_4 (v := nI (7 * (t + 1))) (q := 756) C dL_law_753 rfl (by rw [hN]; decide) (by rw [show (Int32.ofInt 7) = nI 7 from rfl, nI_add]; congr 1) ?_
      refine g_goto (tgt := 23) C dL_law_756 (by decide) ?_
      refine g_wide (cl' := 100 + 2 * (t + 1)) (sl' := 3000 + 18 * (t + 1)) (by omega) (by omega) ?_
      exact ih (t + 1) ad' dm' a' b' r' e5' e6' (by omega) (by omega) h'
end L58
