/-! the law: one call of each kind -/
section L52
variable {E : EN} {ad : Nat → Nat} {dm : Nat → Bool} {a : Nat → Nat → Int32} {b : Nat → Nat → Int64} {r : Nat → Nat → Option Nat} {nF nP : Nat} {fl pa nu : Nat → Int32} {bb L t : Nat} {xs : Nat → Int32}
/-- the law's own frame -/
def LX (E : EN) (bb L : Nat) (xs : Nat → Int32) : Prop := CX E cL_law RL 100 ∧ va_X bb L xs (eS E) (eS E).heap ∧ bb < (eS E).heap.size ∧ bb < eB E ∧ (eR E).cells = 601024 ∧ (eR E).slots = 7293034 ∧ L ≤ 3584 ∧ eN E = 7
theorem g_sld {lo : List (Option Value)} {rest : List Value} {pc q j cl sl : Nat} {i : Int32} (X : LX E bb L xs) (d : decode cL_law pc = .ok (.iaload, 1)) (hq : pc + 1 = q) (hi : i = nI j) (hj : j < L) (k : G E cl sl ad dm a b r q lo (.int (xs j) :: rest)) : G E cl sl ad dm a b r pc lo (.int i :: .ref bb :: rest) := fun H L' ls hW hS hl => by
  obtain ⟨C, x1, x2, x3, -, -, x6, -⟩ := X
  subst hi
  have e := nI_clamp (n := j) (by omega)
  refine va_sld C.1 C.2.1 x1 x2 (fun z => by omega) hS (i := nI j) (fun z => ?_) d ?_
  · rcases z with z | z
    · exact nI_n0 (by omega) z
    · rw [e] at z; omega
  · rw [e]
    subst hq
    exact k H L' ls hW hS hl
theorem g_slen {lo : List (Option Value)} {rest : List Value} {pc q cl sl : Nat} (X : LX E bb L xs) (d : decode cL_law pc = .ok (.arraylength, 1)) (hq : pc + 1 = q) (k : G E cl sl ad dm a b r q lo (.int (nI L) :: rest)) : G E cl sl ad dm a b r pc lo (.ref bb :: rest) := fun H L' ls hW hS hl => by
  obtain ⟨C, x1, x2, x3, -, -, x6, -⟩ := X
  subst hq
  exact va_slen C.1 C.2.1 x1 x2 (fun z => by omega) hS d (k H L' ls hW hS hl)
theorem IM_fr {a' : Nat → Nat → Int32} (I : IM dm a nF nP) (h : a' 100 = a 100) : IM dm a' nF nP := ⟨I.1, by rw [h]; exact I.2.1, I.2.2.1, by rw [h]; exact I.2.2.2.1, I.2.2.2.2⟩
set_option maxHeartbeats 4000000 in
set_option maxRecDepth 100000 in
theorem law_4 {e5 e6 : Option Value} (LW : LX E bb L xs) (ht : 7 * t + 7 ≤ L) (h : LV nF nP fl pa nu dm a r) (hk : ∀ (ad' : Nat → Nat) (dm' : Nat → Bool) (a' : Nat → Nat → Int32) (b' : Nat → Nat → Int64) (r' : Nat → Nat → Option Nat) (e5 e6 : Option Value), LVx dm' a' r' → G E (102 + 2 * t) (3018 + 18 * t) ad' dm' a' b' r' 753 [some (.ref bb), some (.ref (ad' 0)), some (.ref (ad' 100)), some (.ref (ad' 120)), some (.int (nI (7 * t))), e5, e6] []) : G E (100 + 2 * t) (3000 + 18 * t) ad dm a b r 386 [some (.ref bb), some (.ref (ad 0)), some (.ref (ad 100)), some (.ref (ad 120)), some (.int (nI (7 * t))), e5, e6] [] := by
  obtain ⟨X, I, ⟨e1, e2, e3⟩, ⟨W, F, N⟩, B, dF, dP, d8, d9, d0⟩ := id h
  obtain ⟨C, -, -, -, hRc, hRs, hL, hN⟩ := id LW
  have hnF := X.1.1
  have hnP := X.1.2.1
  refine g_aload_1 (q := 387) C dL_law_386 rfl ?_
  refine g_aload_0 (q := 388) C dL_law_387 rfl ?_
  refine g_iload_4 (q := 390) C dL_law_388 rfl ?_
  refine g_iconst (v := 1) (q := 391) C dL_law_390 rfl (by decide) ?_
  refine g_iadd (q := 392) C dL_law_391 rfl ?_
  refine g_sld (q := 393) (j := 7 * t + 1) LW dL_law_392 rfl (nI_add (7 * t) 1) (by omega) ?_
  refine g_aload_0 (q := 394) C dL_law_393 rfl ?_
  refine g_iload_4 (q := 396) C dL_law_394 rfl ?_
  refine g_iconst (v := 2) (q := 397) C dL_law_396 rfl (by decide) ?_
  refine g_iadd (q := 398) C dL_law_397 rfl ?_
  refine g_sld (q := 399) (j := 7 * t + 2) LW dL_law_398 rfl (nI_add (7 * t) 2) (by omega) ?_
  refine g_cv2i (q := 402) C cv_L_38 dL_law_399 rfl rfl (IX.d0 X.1 _ (by decide)) (m_X3_told X W F _ _) (by decide) (Nat.le_of_ble_eq_true rfl) ⟨by rw [hRc]; omega, by rw [hRs]; omega⟩ ?_
  refine g_aload_2 (q := 403) C dL_law_402 rfl ?_
  refine g_aload_0 (q := 404) C dL_law_403 rfl ?_
  refine g_iload_4 (q := 406) C dL_law_404 rfl ?_
  refine g_iconst (v := 1) (q := 407) C dL_law_406 rfl (by decide) ?_
  refine g_iadd (q := 408) C dL_law_407 rfl ?_
  refine g_sld (q := 409) (j := 7 * t + 1) LW dL_law_408 rfl (nI_add (7 * t) 1) (by omega) ?_
  refine g_aload_0 (q := 410) C dL_law_409 rfl ?_
  refine g_iload_4 (q := 412) C dL_law_410 rfl ?_
  refine g_iconst (v := 2) (q := 413) C dL_law_412 rfl (by decide) ?_
  refine g_iadd (q := 414) C dL_law_413 rfl ?_
  refine g_sld (q := 415) (j := 7 * t + 2) LW dL_law_414 rfl (nI_add (7 * t) 2) (by omega) ?_
  refine g_cv2i (q := 418) C cv_L_41 dL_law_415 rfl rfl (IM.d I _ (by decide) (by decide)) (m_X4_told I rfl _ _) (by decide) (Nat.le_of_ble_eq_true rfl) ⟨by rw [hRc]; omega, by rw [hRs]; omega⟩ ?_
  refine g_icmp_eq (tgt := 753) (q := 421) C dL_law_418 rfl (by decide) (fun c_418 => ?_) (fun c_418 => absurd (by rw [u2_n (show (101 : Nat) ≠ 100 by decide), u2_n (show (102 : Nat) ≠ 100 by decide), e1, e2]) c_418)
  refine g_wide (cl' := 102 + 2 * t) (sl' := 3018 + 18 * t) (by omega) (by omega) ?_
  exact hk ad dm _ b r _ _ (LV_s h X ⟨W, F, N⟩ B (fun m hm => u2_n (by omega)) ⟨u2_k (by decide) _, u2_k (by decide) _⟩ ⟨by rw [u2_n (by decide)]; exact e1, by rw [u2_n (by decide)]; exact e2, by rw [u2_n (by decide)]; exact e3⟩)
set_option maxHeartbeats 4000000 in
set_option maxRecDepth 100000 in
theorem law_6 {e5 e6 : Option Value} (LW : LX E bb L xs) (ht : 7 * t + 7 ≤ L) (h : LV nF nP fl pa nu dm a r) (hk : ∀ (ad' : Nat → Nat) (dm' : Nat → Bool) (a' : Nat → Nat → Int32) (b' : Nat → Nat → Int64) (r' : Nat → Nat → Option Nat) (e5 e6 : Option Value), LVx dm' a' r' → G E (102 + 2 * t) (3018 + 18 * t) ad' dm' a' b' r' 753 [some (.ref bb), some (.ref (ad' 0)), some (.ref (ad' 100)), some (.ref (ad' 120)), some (.int (nI (7 * t))), e5, e6] []) : G E (100 + 2 * t) (3000 + 18 * t) ad dm a b r 491 [some (.ref bb), some (.ref (ad 0)), some (.ref (ad 100)), some (.ref (ad 120)), some (.int (nI (7 * t))), e5, e6] [] := by
  obtain ⟨X, I, ⟨e1, e2, e3⟩, ⟨W, F, N⟩, B, dF, dP, d8, d9, d0⟩ := id h
  obtain ⟨C, -, -, -, hRc, hRs, hL, hN⟩ := id LW
  have hnF := X.1.1
  have hnP := X.1.2.1
  refine g_aload_1 (q := 492) C dL_law_491 rfl ?_
  refine g_aload_0 (q := 493) C dL_law_492 rfl ?_
  refine g_iload_4 (q := 495) C dL_law_493 rfl ?_
  refine g_iconst (v := 1) (q := 496) C dL_law_495 rfl (by decide) ?_
  refine g_iadd (q := 497) C dL_law_496 rfl ?_
  refine g_sld (q := 498) (j := 7 * t + 1) LW dL_law_497 rfl (nI_add (7 * t) 1) (by omega) ?_
  refine g_cv1i (q := 501) C cv_L_52 dL_law_498 rfl rfl (IX.d0 X.1 _ (by decide)) (m_X3_count X W _) (by decide) (Nat.le_of_ble_eq_true rfl) ⟨by rw [hRc]; omega, by rw [hRs]; omega⟩ ?_
  refine g_aload_2 (q := 502) C dL_law_501 rfl ?_
  refine g_aload_0 (q := 503) C dL_law_502 rfl ?_
  refine g_iload_4 (q := 505) C dL_law_503 rfl ?_
  refine g_iconst (v := 1) (q := 506) C dL_law_505 rfl (by decide) ?_
  refine g_iadd (q := 507) C dL_law_506 rfl ?_
  refine g_sld (q := 508) (j := 7 * t + 1) LW dL_law_507 rfl (nI_add (7 * t) 1) (by omega) ?_
  refine g_cv1i (q := 511) C cv_L_56 dL_law_508 rfl rfl (IM.d I _ (by decide) (by decide)) (m_X4_count I rfl (by rw [u2_n (show (102 : Nat) ≠ 100 by decide), e2]; exact W) _) (by decide) (Nat.le_of_ble_eq_true rfl) ⟨by rw [hRc]; omega, by rw [hRs]; omega⟩ ?_
  refine g_icmp_eq (tgt := 753) (q := 514) C dL_law_511 rfl (by decide) (fun c_511 => ?_) (fun c_511 => absurd (by rw [u2_n (show (101 : Nat) ≠ 100 by decide), u2_n (show (102 : Nat) ≠ 100 by decide), u2_n (show (103 : Nat) ≠ 100 by decide), e1, e2, e3]) c_511)
  refine g_wide (cl' := 102 + 2 * t) (sl' := 3018 + 18 * t) (by omega) (by omega) ?_
  exact hk ad dm _ b r _ _ (LV_s h X ⟨W, F, N⟩ B (fun m hm => u2_n (by omega)) ⟨u2_k (by decide) _, u2_k (by decide) _⟩ ⟨by rw [u2_n (by decide)]; exact e1, by rw [u2_n (by decide)]; exact e2, by rw [u2_n (by decide)]; exact e3⟩)
set_option maxHeartbeats 4000000 in
set_option maxRecDepth 100000 in
theorem law_12 {e5 e6 : Option Value} (LW : LX E bb L xs) (ht : 7 * t + 7 ≤ L) (h : LV nF nP fl pa nu dm a r) (hk : ∀ (ad' : Nat → Nat) (dm' : Nat → Bool) (a' : Nat → Nat → Int32) (b' : Nat → Nat → Int64) (r' : Nat → Nat → Option Nat) (e5 e6 : Option Value), LVx dm' a' r' → G E (102 + 2 * t) (3018 + 18 * t) ad' dm' a' b' r' 753 [some (.ref bb), some (.ref (ad' 0)), some (.ref (ad' 100)), some (.ref (ad' 120)), some (.int (nI (7 * t))), e5, e6] []) : G E (100 + 2 * t) (3000 + 18 * t) ad dm a b r 665 [some (.ref bb), some (.ref (ad 0)), some (.ref (ad 100)), some (.ref (ad 120)), some (.int (nI (7 * t))), e5, e6] [] := by
  obtain ⟨X, I, ⟨e1, e2, e3⟩, ⟨W, F, N⟩, B, dF, dP, d8, d9, d0⟩ := id h
  obtain ⟨C, -, -, -, hRc, hRs, hL, hN⟩ := id LW
  have hnF := X.1.1
  have hnP := X.1.2.1
  refine g_aload_1 (q := 666) C dL_law_665 rfl ?_
  refine g_aload_0 (q := 667) C dL_law_666 rfl ?_
  refine g_iload_4 (q := 669) C dL_law_667 rfl ?_
  refine g_iconst (v := 1) (q := 670) C dL_law_669 rfl (by decide) ?_
  refine g_iadd (q := 671) C dL_law_670 rfl ?_
  refine g_sld (q := 672) (j := 7 * t + 1) LW dL_law_671 rfl (nI_add (7 * t) 1) (by omega) ?_
  refine g_aload_0 (q := 673) C dL_law_672 rfl ?_
  refine g_iload_4 (q := 675) C dL_law_673 rfl ?_
  refine g_iconst (v := 2) (q := 676) C dL_law_675 rfl (by decide) ?_
  refine g_iadd (q := 677) C dL_law_676 rfl ?_
  refine g_sld (q := 678) (j := 7 * t + 2) LW dL_law_677 rfl (nI_add (7 * t) 2) (by omega) ?_
  refine g_aload_0 (q := 679) C dL_law_678 rfl ?_
  refine g_iload_4 (q := 681) C dL_law_679 rfl ?_
  refine g_iconst (v := 3) (q := 682) C dL_law_681 rfl (by decide) ?_
  refine g_iadd (q := 683) C dL_law_682 rfl ?_
  refine g_sld (q := 684) (j := 7 * t + 3) LW dL_law_683 rfl (nI_add (7 * t) 3) (by omega) ?_
  refine g_cv3i (q := 687) C cv_L_79 dL_law_684 rfl rfl (IX.d0 X.1 _ (by decide)) (m_X3_late X F N _ _ _) (by decide) (Nat.le_of_ble_eq_true rfl) ⟨by rw [hRc]; omega, by rw [hRs]; omega⟩ ?_
  refine g_aload_2 (q := 688) C dL_law_687 rfl ?_
  refine g_aload_0 (q := 689) C dL_law_688 rfl ?_
  refine g_iload_4 (q := 691) C dL_law_689 rfl ?_
  refine g_iconst (v := 1) (q := 692) C dL_law_691 rfl (by decide) ?_
  refine g_iadd (q := 693) C dL_law_692 rfl ?_
  refine g_sld (q := 694) (j := 7 * t + 1) LW dL_law_693 rfl (nI_add (7 * t) 1) (by omega) ?_
  refine g_aload_0 (q := 695) C dL_law_694 rfl ?_
  refine g_iload_4 (q := 697) C dL_law_695 rfl ?_
  refine g_iconst (v := 2) (q := 698) C dL_law_697 rfl (by decide) ?_
  refine g_iadd (q := 699) C dL_law_698 rfl ?_
  refine g_sld (q := 700) (j := 7 * t + 2) LW dL_law_699 rfl (nI_add (7 * t) 2) (by omega) ?_
  refine g_aload_0 (q := 701) C dL_law_700 rfl ?_
  refine g_iload_4 (q := 703) C dL_law_701 rfl ?_
  refine g_iconst (v := 3) (q := 704) C dL_law_703 rfl (by decide) ?_
  refine g_iadd (q := 705) C dL_law_704 rfl ?_
  refine g_sld (q := 706) (j := 7 * t + 3) LW dL_law_705 rfl (nI_add (7 * t) 3) (by omega) ?_
  refine g_cv3i (q := 709) C cv_L_82 dL_law_706 rfl rfl (IM.d I _ (by decide) (by decide)) (m_X4_late I rfl (by rw [u2_n (show (102 : Nat) ≠ 100 by decide), e2]; exact W) _ _ _) (by decide) (Nat.le_of_ble_eq_true rfl) ⟨by rw [hRc]; omega, by rw [hRs]; omega⟩ ?_
  refine g_icmp_eq (tgt := 753) (q := 712) C dL_law_709 rfl (by decide) (fun c_709 => ?_) (fun c_709 => absurd (by rw [u2_n (show (101 : Nat) ≠ 100 by decide), u2_n (show (102 : Nat) ≠ 100 by decide), u2_n (show (103 : Nat) ≠ 100 by decide), e1, e2, e3]) c_709)
  refine g_wide (cl' := 102 + 2 * t) (sl' := 3018 + 18 * t) (by omega) (by omega) ?_
  exact hk ad dm _ b r _ _ (LV_s h X ⟨W, F, N⟩ B (fun m hm => u2_n (by omega)) ⟨u2_k (by decide) _, u2_k (by decide) _⟩ ⟨by rw [u2_n (by decide)]; exact e1, by rw [u2_n (by decide)]; exact e2, by rw [u2_n (by decide)]; exact e3⟩)
set_option maxHeartbeats 4000000 in
set_option maxRecDepth 100000 in
theorem law_13 {e5 e6 : Option Value} (LW : LX E bb L xs) (ht : 7 * t + 7 ≤ L) (h : LV nF nP fl pa nu dm a r) (hk : ∀ (ad' : Nat → Nat) (dm' : Nat → Bool) (a' : Nat → Nat → Int32) (b' : Nat → Nat → Int64) (r' : Nat → Nat → Option Nat) (e5 e6 : Option Value), LVx dm' a' r' → G E (102 + 2 * t) (3018 + 18 * t) ad' dm' a' b' r' 753 [some (.ref bb), some (.ref (ad' 0)), some (.ref (ad' 100)), some (.ref (ad' 120)), some (.int (nI (7 * t))), e5, e6] []) : G E (100 + 2 * t) (3000 + 18 * t) ad dm a b r 714 [some (.ref bb), some (.ref (ad 0)), some (.ref (ad 100)), some (.ref (ad 120)), some (.int (nI (7 * t))), e5, e6] [] := by
  obtain ⟨X, I, ⟨e1, e2, e3⟩, ⟨W, F, N⟩, B, dF, dP, d8, d9, d0⟩ := id h
  obtain ⟨C, -, -, -, hRc, hRs, hL, hN⟩ := id LW
  have hnF := X.1.1
  have hnP := X.1.2.1
  refine g_aload_1 (q := 715) C dL_law_714 rfl ?_
  refine g_cv0i (q := 718) C cv_L_83 dL_law_715 rfl rfl (IX.d0 X.1 _ (by decide)) (m_X3_stranded X W) (by decide) (Nat.le_of_ble_eq_true rfl) ⟨by rw [hRc]; omega, by rw [hRs]; omega⟩ ?_
  refine g_aload_2 (q := 719) C dL_law_718 rfl ?_
  refine g_cv0i (q := 722) C cv_L_86 dL_law_719 rfl rfl (IM.d I _ (by decide) (by decide)) (m_X4_stranded I rfl) (by decide) (Nat.le_of_ble_eq_true rfl) ⟨by rw [hRc]; omega, by rw [hRs]; omega⟩ ?_
  refine g_icmp_eq (tgt := 753) (q := 725) C dL_law_722 rfl (by decide) (fun c_722 => ?_) (fun c_722 => absurd (by rw [u2_n (show (102 : Nat) ≠ 100 by decide), e2]) c_722)
  refine g_wide (cl' := 102 + 2 * t) (sl' := 3018 + 18 * t) (by omega) (by omega) ?_
  exact hk ad dm _ b r _ _ (LV_s h X ⟨W, F, N⟩ B (fun m hm => u2_n (by omega)) ⟨u2_k (by decide) _, u2_k (by decide) _⟩ ⟨by rw [u2_n (by decide)]; exact e1, by rw [u2_n (by decide)]; exact e2, by rw [u2_n (by decide)]; exact e3⟩)
set_option maxHeartbeats 4000000 in
set_option maxRecDepth 100000 in
theorem law_7 {e5 e6 : Option Value} (LW : LX E bb L xs) (ht : 7 * t + 7 ≤ L) (h : LV nF nP fl pa nu dm a r) (hk : ∀ (ad' : Nat → Nat) (dm' : Nat → Bool) (a' : Nat → Nat → Int32) (b' : Nat → Nat → Int64) (r' : Nat → Nat → Option Nat) (e5 e6 : Option Value), LVx dm' a' r' → G E (102 + 2 * t) (3018 + 18 * t) ad' dm' a' b' r' 753 [some (.ref bb), some (.ref (ad' 0)), some (.ref (ad' 100)), some (.ref (ad' 120)), some (.int (nI (7 * t))), e5, e6] []) : G E (100 + 2 * t) (3000 + 18 * t) ad dm a b r 516 [some (.ref bb), some (.ref (ad 0)), some (.ref (ad 100)), some (.ref (ad 120)), some (.int (nI (7 * t))), e5, e6] [] := by
  obtain ⟨X, I, ⟨e1, e2, e3⟩, ⟨W, F, N⟩, B, dF, dP, d8, d9, d0⟩ := id h
  obtain ⟨C, -, -, -, hRc, hRs, hL, hN⟩ := id LW
  have hnF := X.1.1
  have hnP := X.1.2.1
  refine g_aload_1 (q := 517) C dL_law_516 rfl ?_
  refine g_aload_0 (q := 518) C dL_law_517 rfl ?_
  refine g_iload_4 (q := 520) C dL_law_518 rfl ?_
  refine g_iconst (v := 1) (q := 521) C dL_law_520 rfl (by decide) ?_
  refine g_iadd (q := 522) C dL_law_521 rfl ?_
  refine g_sld (q := 523) (j := 7 * t + 1) LW dL_law_522 rfl (nI_add (7 * t) 1) (by omega) ?_
  refine g_cv1g (q := 526) C cv_L_57 dL_law_523 rfl rfl (IX.d0 X.1 _ (by decide)) (m_X3_cost X W F _) (by decide) (Nat.le_of_ble_eq_true rfl) ⟨by rw [hRc]; omega, by rw [hRs]; omega⟩ (fun v ad' dm' a' b' r' hp => ?_)
  obtain ⟨rfl, q1, q2, q3, q5, hb1⟩ := hp
  have q1 := q1.symm
  have q2 := q2.symm
  have q3 := q3.symm
  have q5 := q5.symm
  subst q1 q2 q3 q5
  change G E _ _ _ _ _ b' _ 526 _ [.int (csV fl pa nF nP (xs (7 * t + 1)))]
  refine g_aload_2 (q := 527) C dL_law_526 rfl ?_
  refine g_aload_0 (q := 528) C dL_law_527 rfl ?_
  refine g_iload_4 (q := 530) C dL_law_528 rfl ?_
  refine g_iconst (v := 1) (q := 531) C dL_law_530 rfl (by decide) ?_
  refine g_iadd (q := 532) C dL_law_531 rfl ?_
  refine g_sld (q := 533) (j := 7 * t + 1) LW dL_law_532 rfl (nI_add (7 * t) 1) (by omega) ?_
  refine g_cv1g (q := 536) C cv_L_60 dL_law_533 rfl rfl (IM.d I _ (by decide) (by decide)) (m_X4_cost I rfl (by rw [u2_n (show (102 : Nat) ≠ 100 by decide), e2]; exact W) (by rw [u2_n (show (101 : Nat) ≠ 100 by decide), e1]; exact F) _) (by decide) (Nat.le_of_ble_eq_true rfl) ⟨by rw [hRc]; omega, by rw [hRs]; omega⟩ (fun v ad' dm' a' b' r' hp => ?_)
  obtain ⟨q1, q2, q4, q5, f1, rfl⟩ := hp
  have q1 := q1.symm
  have q2 := q2.symm
  have q4 := q4.symm
  have q5 := q5.symm
  subst q1 q2 q4 q5
  rw [u2_n (show (101 : Nat) ≠ 100 by decide), u2_n (show (102 : Nat) ≠ 100 by decide), e1, e2]
  change G E _ _ _ _ a' _ _ 536 _ [.int (csV fl pa nF nP (xs (7 * t + 1))), .int (csV fl pa nF nP (xs (7 * t + 1)))]
  refine g_icmp_eq (tgt := 753) (q := 539) C dL_law_536 rfl (by decide) (fun c_536 => ?_) (fun c_536 => absurd rfl c_536)
  refine g_wide (cl' := 102 + 2 * t) (sl' := 3018 + 18 * t) (by omega) (by omega) ?_
  exact hk ad dm _ _ r _ _ (LV_s h X ⟨W, F, N⟩ B (fun m hm => by rw [f1 m (by omega) (by omega), u2_n (by omega)]) ⟨by rw [f1 100 (by decide) (by decide), u2_k (by decide)], by rw [f1 100 (by decide) (by decide), u2_k (by decide)]⟩ ⟨by rw [f1 101 (by decide) (by decide), u2_n (by decide)]; exact e1, by rw [f1 102 (by decide) (by decide), u2_n (by decide)]; exact e2, by rw [f1 103 (by decide) (by decide), u2_n (by decide)]; exact e3⟩)
set_option maxHeartbeats 4000000 in
set_option maxRecDepth 100000 in
theorem law_8 {e5 e6 : Option Value} (LW : LX E bb L xs) (ht : 7 * t + 7 ≤ L) (h : LV nF nP fl pa nu dm a r) (hk : ∀ (ad' : Nat → Nat) (dm' : Nat → Bool) (a' : Nat → Nat → Int32) (b' : Nat → Nat → Int64) (r' : Nat → Nat → Option Nat) (e5 e6 : Option Value), LVx dm' a' r' → G E (102 + 2 * t) (3018 + 18 * t) ad' dm' a' b' r' 753 [some (.ref bb), some (.ref (ad' 0)), some (.ref (ad' 100)), some (.ref (ad' 120)), some (.int (nI (7 * t))), e5, e6] []) : G E (100 + 2 * t) (3000 + 18 * t) ad dm a b r 541 [some (.ref bb), some (.ref (ad 0)), some (.ref (ad 100)), some (.ref (ad 120)), some (.int (nI (7 * t))), e5, e6] [] := by
  obtain ⟨X, I, ⟨e1, e2, e3⟩, ⟨W, F, N⟩, B, dF, dP, d8, d9, d0⟩ := id h
  obtain ⟨C, -, -, -, hRc, hRs, hL, hN⟩ := id LW
  have hnF := X.1.1
  have hnP := X.1.2.1
  refine g_aload_1 (q := 542) C dL_law_541 rfl ?_
  refine g_aload_0 (q := 543) C dL_law_542 rfl ?_
  refine g_iload_4 (q := 545) C dL_law_543 rfl ?_
  refine g_iconst (v := 1) (q := 546) C dL_law_545 rfl (by decide) ?_
  refine g_iadd (q := 547) C dL_law_546 rfl ?_
  refine g_sld (q := 548) (j := 7 * t + 1) LW dL_law_547 rfl (nI_add (7 * t) 1) (by omega) ?_
  refine g_cv1g (q := 551) C cv_L_61 dL_law_548 rfl rfl (IX.d0 X.1 _ (by decide)) (m_X3_buy X W F _) (by decide) (Nat.le_of_ble_eq_true rfl) ⟨by rw [hRc]; omega, by rw [hRs]; omega⟩ (fun v ad' dm' a' b' r' hp => ?_)
  obtain ⟨rfl, q1, q2, q5, hb1, X2, fr⟩ := hp
  have q1 := q1.symm
  have q2 := q2.symm
  have q5 := q5.symm
  subst q1 q2 q5
  have I := IM_fr I (fr 100 (by decide))
  change G E _ _ _ _ a' _ _ 551 _ [.int (csV fl pa nF nP (xs (7 * t + 1)))]
  refine g_aload_2 (q := 552) C dL_law_551 rfl ?_
  refine g_aload_0 (q := 553) C dL_law_552 rfl ?_
  refine g_iload_4 (q := 555) C dL_law_553 rfl ?_
  refine g_iconst (v := 1) (q := 556) C dL_law_555 rfl (by decide) ?_
  refine g_iadd (q := 557) C dL_law_556 rfl ?_
  refine g_sld (q := 558) (j := 7 * t + 1) LW dL_law_557 rfl (nI_add (7 * t) 1) (by omega) ?_
  refine g_cv1g (q := 561) C cv_L_64 dL_law_558 rfl rfl (IM.d I _ (by decide) (by decide)) (m_X4_buy I rfl (by rw [u2_n (show (102 : Nat) ≠ 100 by decide), fr 102 (by decide), e2]; exact W) (by rw [u2_n (show (101 : Nat) ≠ 100 by decide), fr 101 (by decide), e1]; exact F) _) (by decide) (Nat.le_of_ble_eq_true rfl) ⟨by rw [hRc]; omega, by rw [hRs]; omega⟩ (fun v ad' dm' a' b' r' hp => ?_)
  obtain ⟨q1, q2, q4, q5, f1, rfl⟩ := hp
  have q1 := q1.symm
  have q2 := q2.symm
  have q4 := q4.symm
  have q5 := q5.symm
  subst q1 q2 q4 q5
  rw [u2_n (show (101 : Nat) ≠ 100 by decide), u2_n (show (102 : Nat) ≠ 100 by decide), fr 101 (by decide), fr 102 (by decide), e1, e2] at f1 ⊢
  change G E _ _ _ _ a' _ _ 561 _ [.int (csV fl pa nF nP (xs (7 * t + 1))), .int (csV fl pa nF nP (xs (7 * t + 1)))]
  refine g_icmp_eq (tgt := 753) (q := 564) C dL_law_561 rfl (by decide) (fun c_561 => ?_) (fun c_561 => absurd rfl c_561)
  refine g_wide (cl' := 102 + 2 * t) (sl' := 3018 + 18 * t) (by omega) (by omega) ?_
  exact hk ad dm a' _ r _ _ (LV_s h X2 ⟨WP_bu W hnF hnP, F, N⟩ B (fun m hm => by rw [f1 m (by omega) (by omega), up1_n (by omega), u2_n (by omega)]) ⟨by rw [f1 100 (by decide) (by decide), up1_n (by decide), u2_k (by decide), fr 100 (by decide)], by rw [f1 100 (by decide) (by decide), up1_n (by decide), u2_k (by decide), fr 100 (by decide)]⟩ ⟨by rw [f1 101 (by decide) (by decide), up1_n (by decide), u2_n (by decide), fr 101 (by decide)]; exact e1, by rw [f1 102 (by decide) (by decide), up1_s], by rw [f1 103 (by decide) (by decide), up1_n (by decide), u2_n (by decide), fr 103 (by decide)]; exact e3⟩)
set_option maxHeartbeats 4000000 in
set_option maxRecDepth 100000 in
theorem law_9 {e5 e6 : Option Value} (LW : LX E bb L xs) (ht : 7 * t + 7 ≤ L) (h : LV nF nP fl pa nu dm a r) (hk : ∀ (ad' : Nat → Nat) (dm' : Nat → Bool) (a' : Nat → Nat → Int32) (b' : Nat → Nat → Int64) (r' : Nat → Nat → Option Nat) (e5 e6 : Option Value), LVx dm' a' r' → G E (102 + 2 * t) (3018 + 18 * t) ad' dm' a' b' r' 753 [some (.ref bb), some (.ref (ad' 0)), some (.ref (ad' 100)), some (.ref (ad' 120)), some (.int (nI (7 * t))), e5, e6] []) : G E (100 + 2 * t) (3000 + 18 * t) ad dm a b r 566 [some (.ref bb), some (.ref (ad 0)), some (.ref (ad 100)), some (.ref (ad 120)), some (.int (nI (7 * t))), e5, e6] [] := by
  obtain ⟨X, I, ⟨e1, e2, e3⟩, ⟨W, F, N⟩, B, dF, dP, d8, d9, d0⟩ := id h
  obtain ⟨C, -, -, -, hRc, hRs, hL, hN⟩ := id LW
  have hnF := X.1.1
  have hnP := X.1.2.1
  refine g_aload_1 (q := 567) C dL_law_566 rfl ?_
  refine g_aload_0 (q := 568) C dL_law_567 rfl ?_
  refine g_iload_4 (q := 570) C dL_law_568 rfl ?_
  refine g_iconst (v := 1) (q := 571) C dL_law_570 rfl (by decide) ?_
  refine g_iadd (q := 572) C dL_law_571 rfl ?_
  refine g_sld (q := 573) (j := 7 * t + 1) LW dL_law_572 rfl (nI_add (7 * t) 1) (by omega) ?_
  refine g_aload_0 (q := 574) C dL_law_573 rfl ?_
  refine g_iload_4 (q := 576) C dL_law_574 rfl ?_
  refine g_iconst (v := 2) (q := 577) C dL_law_576 rfl (by decide) ?_
  refine g_iadd (q := 578) C dL_law_577 rfl ?_
  refine g_sld (q := 579) (j := 7 * t + 2) LW dL_law_578 rfl (nI_add (7 * t) 2) (by omega) ?_
  refine g_aload_0 (q := 580) C dL_law_579 rfl ?_
  refine g_iload_4 (q := 582) C dL_law_580 rfl ?_
  refine g_iconst (v := 3) (q := 583) C dL_law_582 rfl (by decide) ?_
  refine g_iadd (q := 584) C dL_law_583 rfl ?_
  refine g_sld (q := 585) (j := 7 * t + 3) LW dL_law_584 rfl (nI_add (7 * t) 3) (by omega) ?_
  refine g_cv3g (q := 588) C cv_L_65 dL_law_585 rfl rfl (IX.d0 X.1 _ (by decide)) (m_X3_rounds X W F _ _ _) (by decide) (Nat.le_of_ble_eq_true rfl) ⟨by rw [hRc]; omega, by rw [hRs]; omega⟩ (fun v ad' dm' a' b' r' hp => ?_)
  obtain ⟨rfl, q1, q2, q4, q5, X2, fr⟩ := hp
  have q1 := q1.symm
  have q2 := q2.symm
  have q4 := q4.symm
  have q5 := q5.symm
  subst q1 q2 q4 q5
  have I := IM_fr I (fr 100 (by decide))
  change G E _ _ _ _ a' _ _ 588 _ [.int (roV fl pa nF nP (xs (7 * t + 1)) (xs (7 * t + 2)) (xs (7 * t + 3)))]
  refine g_aload_2 (q := 589) C dL_law_588 rfl ?_
  refine g_aload_0 (q := 590) C dL_law_589 rfl ?_
  refine g_iload_4 (q := 592) C dL_law_590 rfl ?_
  refine g_iconst (v := 1) (q := 593) C dL_law_592 rfl (by decide) ?_
  refine g_iadd (q := 594) C dL_law_593 rfl ?_
  refine g_sld (q := 595) (j := 7 * t + 1) LW dL_law_594 rfl (nI_add (7 * t) 1) (by omega) ?_
  refine g_aload_0 (q := 596) C dL_law_595 rfl ?_
  refine g_iload_4 (q := 598) C dL_law_596 rfl ?_
  refine g_iconst (v := 2) (q := 599) C dL_law_598 rfl (by decide) ?_
  refine g_iadd (q := 600) C dL_law_599 rfl ?_
  refine g_sld (q := 601) (j := 7 * t + 2) LW dL_law_600 rfl (nI_add (7 * t) 2) (by omega) ?_
  refine g_aload_0 (q := 602) C dL_law_601 rfl ?_
  refine g_iload_4 (q := 604) C dL_law_602 rfl ?_
  refine g_iconst (v := 3) (q := 605) C dL_law_604 rfl (by decide) ?_
  refine g_iadd (q := 606) C dL_law_605 rfl ?_
  refine g_sld (q := 607) (j := 7 * t + 3) LW dL_law_606 rfl (nI_add (7 * t) 3) (by omega) ?_
  refine g_cv3g (q := 610) C cv_L_69 dL_law_607 rfl rfl (IM.d I _ (by decide) (by decide)) (m_X4_rounds I rfl (by rw [u2_n (show (102 : Nat) ≠ 100 by decide), fr 102 (by decide), e2]; exact W) (by rw [u2_n (show (101 : Nat) ≠ 100 by decide), fr 101 (by decide), e1]; exact F) _ _ _) (by decide) (Nat.le_of_ble_eq_true rfl) ⟨by rw [hRc]; omega, by rw [hRs]; omega⟩ (fun v ad' dm' a' b' r' hp => ?_)
  obtain ⟨q1, q2, q4, q5, rfl, rfl⟩ := hp
  have q1 := q1.symm
  have q2 := q2.symm
  have q4 := q4.symm
  have q5 := q5.symm
  subst q1 q2 q4 q5
  rw [u2_n (show (101 : Nat) ≠ 100 by decide), u2_n (show (102 : Nat) ≠ 100 by decide), fr 101 (by decide), fr 102 (by decide), e1, e2]
  change G E _ _ _ _ _ _ _ 610 _ [.int (roV fl pa nF nP (xs (7 * t + 1)) (xs (7 * t + 2)) (xs (7 * t + 3))), .int (roV fl pa nF nP (xs (7 * t + 1)) (xs (7 * t + 2)) (xs (7 * t + 3)))]
  refine g_icmp_eq (tgt := 753) (q := 613) C dL_law_610 rfl (by decide) (fun c_610 => ?_) (fun c_610 => absurd rfl c_610)
  refine g_wide (cl' := 102 + 2 * t) (sl' := 3018 + 18 * t) (by omega) (by omega) ?_
  exact hk ad dm _ _ r _ _ (LV_s h X2 ⟨WP_ro W hnF, F, N⟩ B (fun m hm => by rw [up1_n (by omega), u2_n (by omega)]) ⟨by rw [up1_n (by decide), u2_k (by decide), fr 100 (by decide)], by rw [up1_n (by decide), u2_k (by decide), fr 100 (by decide)]⟩ ⟨by rw [up1_n (by decide), u2_n (by decide), fr 101 (by decide)]; exact e1, up1_s, by rw [up1_n (by decide), u2_n (by decide), fr 103 (by decide)]; exact e3⟩)
set_option maxHeartbeats 4000000 in
set_option maxRecDepth 100000 in
theorem law_10 {e5 e6 : Option Value} (LW : LX E bb L xs) (ht : 7 * t + 7 ≤ L) (h : LV nF nP fl pa nu dm a r) (hk : ∀ (ad' : Nat → Nat) (dm' : Nat → Bool) (a' : Nat → Nat → Int32) (b' : Nat → Nat → Int64) (r' : Nat → Nat → Option Nat) (e5 e6 : Option Value), LVx dm' a' r' → G E (102 + 2 * t) (3018 + 18 * t) ad' dm' a' b' r' 753 [some (.ref bb), some (.ref (ad' 0)), some (.ref (ad' 100)), some (.ref (ad' 120)), some (.int (nI (7 * t))), e5, e6] []) : G E (100 + 2 * t) (3000 + 18 * t) ad dm a b r 615 [some (.ref bb), some (.ref (ad 0)), some (.ref (ad 100)), some (.ref (ad 120)), some (.int (nI (7 * t))), e5, e6] [] := by
  obtain ⟨X, I, ⟨e1, e2, e3⟩, ⟨W, F, N⟩, B, dF, dP, d8, d9, d0⟩ := id h
  obtain ⟨C, -, -, -, hRc, hRs, hL, hN⟩ := id LW
  have hnF := X.1.1
  have hnP := X.1.2.1
  refine g_aload_1 (q := 616) C dL_law_615 rfl ?_
  refine g_aload_0 (q := 617) C dL_law_616 rfl ?_
  refine g_iload_4 (q := 619) C dL_law_617 rfl ?_
  refine g_iconst (v := 1) (q := 620) C dL_law_619 rfl (by decide) ?_
  refine g_iadd (q := 621) C dL_law_620 rfl ?_
  refine g_sld (q := 622) (j := 7 * t + 1) LW dL_law_621 rfl (nI_add (7 * t) 1) (by omega) ?_
  refine g_cv1g (q := 625) C cv_L_70 dL_law_622 rfl rfl (IX.d0 X.1 _ (by decide)) (m_X3_leave X W F _) (by decide) (Nat.le_of_ble_eq_true rfl) ⟨by rw [hRc]; omega, by rw [hRs]; omega⟩ (fun v ad' dm' a' b' r' hp => ?_)
  obtain ⟨rfl, q1, q2, q4, q5, X2, fr⟩ := hp
  have q1 := q1.symm
  have q2 := q2.symm
  have q4 := q4.symm
  have q5 := q5.symm
  subst q1 q2 q4 q5
  have I := IM_fr I (fr 100 (by decide))
  change G E _ _ _ _ a' _ _ 625 _ [.int (lvV fl pa nF nP (xs (7 * t + 1)))]
  refine g_aload_2 (q := 626) C dL_law_625 rfl ?_
  refine g_aload_0 (q := 627) C dL_law_626 rfl ?_
  refine g_iload_4 (q := 629) C dL_law_627 rfl ?_
  refine g_iconst (v := 1) (q := 630) C dL_law_629 rfl (by decide) ?_
  refine g_iadd (q := 631) C dL_law_630 rfl ?_
  refine g_sld (q := 632) (j := 7 * t + 1) LW dL_law_631 rfl (nI_add (7 * t) 1) (by omega) ?_
  refine g_cv1g (q := 635) C cv_L_73 dL_law_632 rfl rfl (IM.d I _ (by decide) (by decide)) (m_X4_leave I rfl (by rw [u2_n (show (102 : Nat) ≠ 100 by decide), fr 102 (by decide), e2]; exact W) (by rw [u2_n (show (101 : Nat) ≠ 100 by decide), fr 101 (by decide), e1]; exact F) _) (by decide) (Nat.le_of_ble_eq_true rfl) ⟨by rw [hRc]; omega, by rw [hRs]; omega⟩ (fun v ad' dm' a' b' r' hp => ?_)
  obtain ⟨q1, q2, q4, q5, rfl, rfl⟩ := hp
  have q1 := q1.symm
  have q2 := q2.symm
  have q4 := q4.symm
  have q5 := q5.symm
  subst q1 q2 q4 q5
  rw [u2_n (show (101 : Nat) ≠ 100 by decide), u2_n (show (102 : Nat) ≠ 100 by decide), fr 101 (by decide), fr 102 (by decide), e1, e2]
  change G E _ _ _ _ _ _ _ 635 _ [.int (lvV fl pa nF nP (xs (7 * t + 1))), .int (lvV fl pa nF nP (xs (7 * t + 1)))]
  refine g_icmp_eq (tgt := 753) (q := 638) C dL_law_635 rfl (by decide) (fun c_635 => ?_) (fun c_635 => absurd rfl c_635)
  refine g_wide (cl' := 102 + 2 * t) (sl' := 3018 + 18 * t) (by omega) (by omega) ?_
  exact hk ad dm _ _ r _ _ (LV_s h X2 ⟨WP_lv W hnF, F, N⟩ B (fun m hm => by rw [up1_n (by omega), u2_n (by omega)]) ⟨by rw [up1_n (by decide), u2_k (by decide), fr 100 (by decide)], by rw [up1_n (by decide), u2_k (by decide), fr 100 (by decide)]⟩ ⟨by rw [up1_n (by decide), u2_n (by decide), fr 101 (by decide)]; exact e1, up1_s, by rw [up1_n (by decide), u2_n (by decide), fr 103 (by decide)]; exact e3⟩)
set_option maxHeartbeats 4000000 in
set_option maxRecDepth 100000 in
theorem law_14 {e5 e6 : Option Value} (LW : LX E bb L xs) (ht : 7 * t + 7 ≤ L) (h : LV nF nP fl pa nu dm a r) (hk : ∀ (ad' : Nat → Nat) (dm' : Nat → Bool) (a' : Nat → Nat → Int32) (b' : Nat → Nat → Int64) (r' : Nat → Nat → Option Nat) (e5 e6 : Option Value), LVx dm' a' r' → G E (102 + 2 * t) (3018 + 18 * t) ad' dm' a' b' r' 753 [some (.ref bb), some (.ref (ad' 0)), some (.ref (ad' 100)), some (.ref (ad' 120)), some (.int (nI (7 * t))), e5, e6] []) : G E (100 + 2 * t) (3000 + 18 * t) ad dm a b r 727 [some (.ref bb), some (.ref (ad 0)), some (.ref (ad 100)), some (.ref (ad 120)), some (.int (nI (7 * t))), e5, e6] [] := by
  obtain ⟨X, I, ⟨e1, e2, e3⟩, ⟨W, F, N⟩, B, dF, dP, d8, d9, d0⟩ := id h
  obtain ⟨C, -, -, -, hRc, hRs, hL, hN⟩ := id LW
  have hnF := X.1.1
  have hnP := X.1.2.1
  refine g_aload_1 (q := 728) C dL_law_727 rfl ?_
  refine g_cv0g (q := 731) C cv_L_87 dL_law_728 rfl rfl (IX.d0 X.1 _ (by decide)) (m_X3_move X W F N) (by decide) (Nat.le_of_ble_eq_true rfl) ⟨by rw [hRc]; omega, by rw [hRs]; omega⟩ (fun v ad' dm' a' b' r' hp => ?_)
  obtain ⟨rfl, q1, q2, X2, hR2, fr, hb1⟩ := hp
  have q1 := q1.symm
  have q2 := q2.symm
  subst q1 q2
  have I := IM_fr I (fr 100 (by decide))
  change G E _ _ _ _ a' b' r' 731 _ [.int (mvV fl pa nu nF nP)]
  refine g_aload_2 (q := 732) C dL_law_731 rfl ?_
  refine g_cv0g (q := 735) C cv_L_90 dL_law_732 rfl rfl (IM.d I _ (by decide) (by decide)) (m_X4_move I rfl (fl := fl) (pa := pa) (nu := nu) (by rw [u2_n (show (101 : Nat) ≠ 100 by decide), fr 101 (by decide)]; exact e1) (by rw [u2_n (show (102 : Nat) ≠ 100 by decide), fr 102 (by decide)]; exact e2) (by rw [u2_n (show (103 : Nat) ≠ 100 by decide), fr 103 (by decide)]; exact e3) W F) (by decide) (Nat.le_of_ble_eq_true rfl) ⟨by rw [hRc]; omega, by rw [hRs]; omega⟩ (fun v ad' dm' a' b' r' hp => ?_)
  obtain ⟨q1, q2, q4, q5, f1, f2, f3, rfl⟩ := hp
  have q1 := q1.symm
  have q2 := q2.symm
  have q4 := q4.symm
  have q5 := q5.symm
  subst q1 q2 q4 q5
  change G E _ _ _ _ a' _ _ 735 _ [.int (mvV fl pa nu nF nP), .int (mvV fl pa nu nF nP)]
  refine g_icmp_eq (tgt := 753) (q := 738) C dL_law_735 rfl (by decide) (fun c_735 => ?_) (fun c_735 => absurd rfl c_735)
  refine g_wide (cl' := 102 + 2 * t) (sl' := 3018 + 18 * t) (by omega) (by omega) ?_
  exact hk ad dm a' _ _ _ _ (LV_s h X2 ⟨WP_mv W F hnF, F, N⟩ (hR2 B) (fun m hm => by rw [f1 m (Or.inl hm), u2_n (by omega)]) ⟨by rw [f2 1 (by decide), u2_k (by decide), fr 100 (by decide)], by rw [f2 3 (by decide), u2_k (by decide), fr 100 (by decide)]⟩ ⟨by rw [f1 101 (by decide), u2_n (by decide), fr 101 (by decide)]; exact e1, f3, by rw [f1 103 (by decide), u2_n (by decide), fr 103 (by decide)]; exact e3⟩)
set_option maxHeartbeats 4000000 in
set_option maxRecDepth 100000 in
theorem law_15 {e5 e6 : Option Value} (LW : LX E bb L xs) (ht : 7 * t + 7 ≤ L) (h : LV nF nP fl pa nu dm a r) (hk : ∀ (ad' : Nat → Nat) (dm' : Nat → Bool) (a' : Nat → Nat → Int32) (b' : Nat → Nat → Int64) (r' : Nat → Nat → Option Nat) (e5 e6 : Option Value), LVx dm' a' r' → G E (102 + 2 * t) (3018 + 18 * t) ad' dm' a' b' r' 753 [some (.ref bb), some (.ref (ad' 0)), some (.ref (ad' 100)), some (.ref (ad' 120)), some (.int (nI (7 * t))), e5, e6] []) : G E (100 + 2 * t) (3000 + 18 * t) ad dm a b r 740 [some (.ref bb), some (.ref (ad 0)), some (.ref (ad 100)), some (.ref (ad 120)), some (.int (nI (7 * t))), e5, e6] [] := by
  obtain ⟨X, I, ⟨e1, e2, e3⟩, ⟨W, F, N⟩, B, dF, dP, d8, d9, d0⟩ := id h
  obtain ⟨C, -, -, -, hRc, hRs, hL, hN⟩ := id LW
  have hnF := X.1.1
  have hnP := X.1.2.1
  refine g_aload_1 (q := 741) C dL_law_740 rfl ?_
  refine g_cv0g (q := 744) C cv_L_91 dL_law_741 rfl rfl (IX.d0 X.1 _ (by decide)) (m_X3_undo X W F B) (by decide) (Nat.le_of_ble_eq_true rfl) ⟨by rw [hRc]; omega, by rw [hRs]; omega⟩ (fun v ad' dm' a' b' r' hp => ?_)
  obtain ⟨rfl, q1, q2, q3, q4, X2, B2⟩ := hp
  have q1 := q1.symm
  have q2 := q2.symm
  have q3 := q3.symm
  have q4 := q4.symm
  subst q1 q2 q3 q4
  change G E _ _ _ _ _ _ r' 744 _ [.int (nI (ctS (unc fl pa) nP))]
  refine g_aload_2 (q := 745) C dL_law_744 rfl ?_
  refine g_cv0i (q := 748) C cv_L_94 dL_law_745 rfl rfl (IM.d I _ (by decide) (by decide)) (m_X4_undo I rfl (by rw [u2_n (show (102 : Nat) ≠ 100 by decide), e2]; exact W)) (by decide) (Nat.le_of_ble_eq_true rfl) ⟨by rw [hRc]; omega, by rw [hRs]; omega⟩ ?_
  rw [u2_n (show (101 : Nat) ≠ 100 by decide), u2_n (show (102 : Nat) ≠ 100 by decide), e1, e2]
  refine g_icmp_eq (tgt := 753) (q := 751) C dL_law_748 rfl (by decide) (fun c_748 => ?_) (fun c_748 => absurd rfl c_748)
  refine g_wide (cl' := 102 + 2 * t) (sl' := 3018 + 18 * t) (by omega) (by omega) ?_
  exact hk ad dm _ _ _ _ _ (LV_s h X2 ⟨WP_un W hnF (Nat.le_refl _), F, N⟩ B2 (fun m hm => by rw [up1_n (by omega), u2_n (by omega)]) ⟨by rw [up1_n (by decide), u2_k (by decide)], by rw [up1_n (by decide), u2_k (by decide)]⟩ ⟨by rw [up1_n (by decide), u2_n (by decide)]; exact e1, up1_s, by rw [up1_n (by decide), u2_n (by decide)]; exact e3⟩)
end L52
