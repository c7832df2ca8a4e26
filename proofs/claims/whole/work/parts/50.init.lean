/-! the constructors -/
section X50
variable {g : GM} {bs : Nat} {l : Launch} {ad : Nat → Nat}
/-- words besides: rows of objects, the link to the private constructor -/
def XK (U : State) : Prop := va_AO RX0 U ∧ va_AO RX2 U ∧ va_Nw (.methodLinkNest RX3 31 yX1_init "TooMany") U
theorem XK_ok {bs : Nat} : FOK bs XK := ⟨fun s U _ hW _ h => ⟨h.1.moved hW.alike, h.2.1.moved hW.alike, va_Nw.warmM hW h.2.2⟩, fun U f mk av h => ⟨h.1.moved (U := U.calling f mk av) (Vm.Alike.refl U.vm), h.2.1.moved (U := U.calling f mk av) (Vm.Alike.refl U.vm), va_Nw.same (U := U.calling f mk av) rfl rfl h.2.2⟩⟩
/-- the two rows of a class have one class and one layout -/
def gOK (g : GM) : Prop := g.1.1 5 = g.1.1 1 ∧ g.1.2 5 = g.1.2 1 ∧ g.1.1 6 = g.1.1 3 ∧ g.1.2 6 = g.1.2 3 ∧ g.1.1 7 = g.1.1 4 ∧ g.1.2 7 = g.1.2 4
def zA : Nat → Nat → Int32 := fun _ _ => 0
def zB : Nat → Nat → Int64 := fun _ _ => 0
def zR : Nat → Nat → Option Nat := fun _ _ => none
set_option maxHeartbeats 4000000 in
set_option maxRecDepth 100000 in
theorem m_X1_init : MTX XK g bs l yX1_init cX1_init 1 none 1 11 331 [.ref (ad 18)] ad (dmS [18, 4, 3, 2, 1, 17]) (u2 (u2 (u2 zA 3 0 250) 3 1 400) 3 2 600) zB (u2 (u2 (u2 (u2 zR 17 0 (some 1)) 17 1 (some 2)) 17 2 (some 3)) 17 3 (some 4)) (fun v ad0 dm0 a0 b0 r0 => v = none ∧ ad0 17 = ad 17 ∧ ad0 18 = ad 18 ∧ dm0 = dmS [16, 15, 14, 13, 12, 11, 10, 9, 8, 7, 6, 18, 4, 3, 2, 1, 17] ∧ a0 = (u2 (u2 (u2 (u2 zA 3 0 250) 3 1 400) 3 2 600) 18 12 0) ∧ b0 = (u2 zB 18 11 0) ∧ r0 = (u2 (u2 (u2 (u2 (u2 (u2 (u2 (u2 (u2 (u2 (u2 (u2 (u2 (u2 (u2 zR 17 0 (some 1)) 17 1 (some 2)) 17 2 (some 3)) 17 3 (some 4)) 18 0 (some 6)) 18 1 (some 7)) 18 2 (some 8)) 18 3 (some 9)) 18 4 (some 10)) 18 5 (some 11)) 18 6 (some 12)) 18 7 (some 13)) 18 8 (some 14)) 18 9 (some 15)) 18 10 (some 16))) := by
  refine mtx_of (by decide) [some (.ref (ad 18))] rfl (Nat.le_of_ble_eq_true rfl) ?_
  intro E hg hbs hl hN C RT9 hcells hslots hname hX
  have hin : (eH E).name = "<init>" ∧ (vwCl[5]?).map (·.1) = some RX1 := ⟨hname, rfl⟩
  refine g_aload_0 (q := 1) C dX1_init_0 rfl ?_
  refine g_oinit (q := 4) C oi_X1 dX1_init_1 rfl (by decide) (Nat.le_of_ble_eq_true rfl) ?_
  refine g_aload_0 (q := 5) C dX1_init_4 rfl ?_
  refine g_bipush (v := 6) (q := 7) C dX1_init_5 rfl (by decide) ?_
  refine m_newaP (n := 6) (q := 10) C hX.2.1 wa_X1_9 dX1_init_7 rfl rfl (by decide) (by repeat (first | exact nr_0 | refine nr_u2 ?_ (by decide))) rfl rfl (by decide) ⟨by rw [hcells]; exact Nat.le_of_ble_eq_true rfl, by rw [hslots]; exact Nat.le_of_ble_eq_true rfl⟩ (fun ad1 h1 => ?_)
  rw [← h1 18 (by decide)]
  have hz1 : ad1 17 = ad 17 := h1 17 (by decide)
  refine g_putFr (m := 6) (q := 13) C n_X1_11 dX1_init_10 rfl rfl rfl rfl rfl hin ?_
  refine g_aload_0 (q := 14) C dX1_init_13 rfl ?_
  refine g_bipush (v := 6) (q := 16) C dX1_init_14 rfl (by decide) ?_
  refine m_newi (n := 7) (q := 18) C dX1_init_16 rfl rfl (by decide) (by repeat (first | exact nr_0 | refine nr_u2 ?_ (by decide))) rfl rfl (by decide) ⟨by rw [hcells]; exact Nat.le_of_ble_eq_true rfl, by rw [hslots]; exact Nat.le_of_ble_eq_true rfl⟩ (fun ad2 h2 => ?_)
  rw [← h2 18 (by decide)]
  have hz2 : ad2 17 = ad1 17 := h2 17 (by decide)
  refine g_putFr (m := 7) (q := 21) C n_X1_17 dX1_init_18 rfl rfl rfl rfl rfl hin ?_
  refine g_aload_0 (q := 22) C dX1_init_21 rfl ?_
  refine g_bipush (v := 6) (q := 24) C dX1_init_22 rfl (by decide) ?_
  refine m_newi (n := 8) (q := 26) C dX1_init_24 rfl rfl (by decide) (by repeat (first | exact nr_0 | refine nr_u2 ?_ (by decide))) rfl rfl (by decide) ⟨by rw [hcells]; exact Nat.le_of_ble_eq_true rfl, by rw [hslots]; exact Nat.le_of_ble_eq_true rfl⟩ (fun ad3 h3 => ?_)
  rw [← h3 18 (by decide)]
  have hz3 : ad3 17 = ad2 17 := h3 17 (by decide)
  refine g_putFr (m := 8) (q := 29) C n_X1_21 dX1_init_26 rfl rfl rfl rfl rfl hin ?_
  refine g_aload_0 (q := 30) C dX1_init_29 rfl ?_
  refine g_bipush (v := 6) (q := 32) C dX1_init_30 rfl (by decide) ?_
  refine m_newi (n := 9) (q := 34) C dX1_init_32 rfl rfl (by decide) (by repeat (first | exact nr_0 | refine nr_u2 ?_ (by decide))) rfl rfl (by decide) ⟨by rw [hcells]; exact Nat.le_of_ble_eq_true rfl, by rw [hslots]; exact Nat.le_of_ble_eq_true rfl⟩ (fun ad4 h4 => ?_)
  rw [← h4 18 (by decide)]
  have hz4 : ad4 17 = ad3 17 := h4 17 (by decide)
  refine g_putFr (m := 9) (q := 37) C n_X1_24 dX1_init_34 rfl rfl rfl rfl rfl hin ?_
  refine g_aload_0 (q := 38) C dX1_init_37 rfl ?_
  refine g_bipush (v := 6) (q := 40) C dX1_init_38 rfl (by decide) ?_
  refine m_newi (n := 10) (q := 42) C dX1_init_40 rfl rfl (by decide) (by repeat (first | exact nr_0 | refine nr_u2 ?_ (by decide))) rfl rfl (by decide) ⟨by rw [hcells]; exact Nat.le_of_ble_eq_true rfl, by rw [hslots]; exact Nat.le_of_ble_eq_true rfl⟩ (fun ad5 h5 => ?_)
  rw [← h5 18 (by decide)]
  have hz5 : ad5 17 = ad4 17 := h5 17 (by decide)
  refine g_putFr (m := 10) (q := 45) C n_X1_27 dX1_init_42 rfl rfl rfl rfl rfl hin ?_
  refine g_aload_0 (q := 46) C dX1_init_45 rfl ?_
  refine g_bipush (v := 6) (q := 48) C dX1_init_46 rfl (by decide) ?_
  refine m_newi (n := 11) (q := 50) C dX1_init_48 rfl rfl (by decide) (by repeat (first | exact nr_0 | refine nr_u2 ?_ (by decide))) rfl rfl (by decide) ⟨by rw [hcells]; exact Nat.le_of_ble_eq_true rfl, by rw [hslots]; exact Nat.le_of_ble_eq_true rfl⟩ (fun ad6 h6 => ?_)
  rw [← h6 18 (by decide)]
  have hz6 : ad6 17 = ad5 17 := h6 17 (by decide)
  refine g_putFr (m := 11) (q := 53) C n_X1_30 dX1_init_50 rfl rfl rfl rfl rfl hin ?_
  refine g_aload_0 (q := 54) C dX1_init_53 rfl ?_
  refine g_bipush (v := 7) (q := 56) C dX1_init_54 rfl (by decide) ?_
  refine m_newi (n := 12) (q := 58) C dX1_init_56 rfl rfl (by decide) (by repeat (first | exact nr_0 | refine nr_u2 ?_ (by decide))) rfl rfl (by decide) ⟨by rw [hcells]; exact Nat.le_of_ble_eq_true rfl, by rw [hslots]; exact Nat.le_of_ble_eq_true rfl⟩ (fun ad7 h7 => ?_)
  rw [← h7 18 (by decide)]
  have hz7 : ad7 17 = ad6 17 := h7 17 (by decide)
  refine g_putFr (m := 12) (q := 61) C n_X1_33 dX1_init_58 rfl rfl rfl rfl rfl hin ?_
  refine g_aload_0 (q := 62) C dX1_init_61 rfl ?_
  refine g_bipush (v := 72) (q := 64) C dX1_init_62 rfl (by decide) ?_
  refine m_newaF (n := 13) (q := 67) C hX.1 wa_X1_36 dX1_init_64 rfl rfl (by decide) (by repeat (first | exact nr_0 | refine nr_u2 ?_ (by decide))) rfl rfl (by decide) ⟨by rw [hcells]; exact Nat.le_of_ble_eq_true rfl, by rw [hslots]; exact Nat.le_of_ble_eq_true rfl⟩ (fun ad8 h8 => ?_)
  rw [← h8 18 (by decide)]
  have hz8 : ad8 17 = ad7 17 := h8 17 (by decide)
  refine g_putFr (m := 13) (q := 70) C n_X1_38 dX1_init_67 rfl rfl rfl rfl rfl hin ?_
  refine g_aload_0 (q := 71) C dX1_init_70 rfl ?_
  refine g_bipush (v := 72) (q := 73) C dX1_init_71 rfl (by decide) ?_
  refine m_newaF (n := 14) (q := 76) C hX.1 wa_X1_36 dX1_init_73 rfl rfl (by decide) (by repeat (first | exact nr_0 | refine nr_u2 ?_ (by decide))) rfl rfl (by decide) ⟨by rw [hcells]; exact Nat.le_of_ble_eq_true rfl, by rw [hslots]; exact Nat.le_of_ble_eq_true rfl⟩ (fun ad9 h9 => ?_)
  rw [← h9 18 (by decide)]
  have hz9 : ad9 17 = ad8 17 := h9 17 (by decide)
  refine g_putFr (m := 14) (q := 79) C n_X1_42 dX1_init_76 rfl rfl rfl rfl rfl hin ?_
  refine g_aload_0 (q := 80) C dX1_init_79 rfl ?_
  refine g_bipush (v := 72) (q := 82) C dX1_init_80 rfl (by decide) ?_
  refine m_newi (n := 15) (q := 84) C dX1_init_82 rfl rfl (by decide) (by repeat (first | exact nr_0 | refine nr_u2 ?_ (by decide))) rfl rfl (by decide) ⟨by rw [hcells]; exact Nat.le_of_ble_eq_true rfl, by rw [hslots]; exact Nat.le_of_ble_eq_true rfl⟩ (fun ad10 h10 => ?_)
  rw [← h10 18 (by decide)]
  have hz10 : ad10 17 = ad9 17 := h10 17 (by decide)
  refine g_putFr (m := 15) (q := 87) C n_X1_45 dX1_init_84 rfl rfl rfl rfl rfl hin ?_
  refine g_aload_0 (q := 88) C dX1_init_87 rfl ?_
  refine g_bipush (v := 72) (q := 90) C dX1_init_88 rfl (by decide) ?_
  refine m_newl (n := 16) (q := 92) C dX1_init_90 rfl rfl (by decide) (by repeat (first | exact nr_0 | refine nr_u2 ?_ (by decide))) rfl rfl (by decide) ⟨by rw [hcells]; exact Nat.le_of_ble_eq_true rfl, by rw [hslots]; exact Nat.le_of_ble_eq_true rfl⟩ (fun ad11 h11 => ?_)
  rw [← h11 18 (by decide)]
  have hz11 : ad11 17 = ad10 17 := h11 17 (by decide)
  refine g_putFr (m := 16) (q := 95) C n_X1_48 dX1_init_92 rfl rfl rfl rfl rfl hin ?_
  refine g_aload_0 (q := 96) C dX1_init_95 rfl ?_
  refine g_lconst (v := 0) (q := 97) C dX1_init_96 rfl rfl ?_
  refine g_putl (q := 100) C n_X1_52 dX1_init_97 rfl rfl rfl rfl rfl ?_
  refine g_aload_0 (q := 101) C dX1_init_100 rfl ?_
  refine g_iconst (v := 0) (q := 102) C dX1_init_101 rfl (by decide) ?_
  refine g_puti (q := 105) C n_X1_56 dX1_init_102 rfl rfl rfl rfl rfl ?_
  exact g_vret C RT9 dX1_init_105 ⟨rfl, hz11.trans (hz10.trans (hz9.trans (hz8.trans (hz7.trans (hz6.trans (hz5.trans (hz4.trans (hz3.trans (hz2.trans (hz1)))))))))), (h11 18 (by decide)).trans ((h10 18 (by decide)).trans ((h9 18 (by decide)).trans ((h8 18 (by decide)).trans ((h7 18 (by decide)).trans ((h6 18 (by decide)).trans ((h5 18 (by decide)).trans ((h4 18 (by decide)).trans ((h3 18 (by decide)).trans ((h2 18 (by decide)).trans ((h1 18 (by decide)))))))))))), rfl, rfl, rfl, rfl⟩
set_option maxHeartbeats 4000000 in
set_option maxRecDepth 100000 in
theorem m_X3_init (hgo : gOK g) : MTX XK g bs l yX3_init cX3_init 1 none 2 16 496 [.ref (ad 17)] ad (dmS [17]) zA zB zR (fun v ad0 dm0 a0 b0 r0 => v = none ∧ ad0 17 = ad 17 ∧ dm0 = dmS [5, 16, 15, 14, 13, 12, 11, 10, 9, 8, 7, 6, 4, 3, 2, 1, 17] ∧ a0 = (u2 (u2 (u2 (mvN (u2 (u2 (u2 (u2 zA 3 0 250) 3 1 400) 3 2 600) 18 12 0) 0 18 5) 17 5 0) 17 6 0) 17 7 45) ∧ b0 = (mvN (u2 zB 18 11 0) 0 18 5) ∧ r0 = (u2 (u2 (u2 (u2 (u2 zR 17 0 (some 1)) 17 1 (some 2)) 17 2 (some 3)) 17 3 (some 4)) 17 4 (some 5))) := by
  refine mtx_of (by decide) [some (.ref (ad 17))] rfl (Nat.le_of_ble_eq_true rfl) ?_
  intro E hg hbs hl hN C RT9 hcells hslots hname hX
  have hin : (eH E).name = "<init>" ∧ (vwCl[6]?).map (·.1) = some RX3 := ⟨hname, rfl⟩
  refine g_aload_0 (q := 1) C dX3_init_0 rfl ?_
  refine g_oinit (q := 4) C oi_X3 dX3_init_1 rfl (by decide) (Nat.le_of_ble_eq_true rfl) ?_
  refine g_aload_0 (q := 5) C dX3_init_4 rfl ?_
  refine g_bipush (v := 8) (q := 7) C dX3_init_5 rfl (by decide) ?_
  refine m_newaF (n := 1) (q := 10) C hX.1 wa_X3_9 dX3_init_7 rfl rfl (by decide) (by repeat (first | exact nr_0 | refine nr_u2 ?_ (by decide))) rfl rfl (by decide) ⟨by rw [hcells]; exact Nat.le_of_ble_eq_true rfl, by rw [hslots]; exact Nat.le_of_ble_eq_true rfl⟩ (fun ad1 h1 => ?_)
  rw [← h1 17 (by decide)]
  refine g_putFr (m := 1) (q := 13) C n_X3_11 dX3_init_10 rfl rfl rfl rfl rfl hin ?_
  refine g_aload_0 (q := 14) C dX3_init_13 rfl ?_
  refine g_bipush (v := 20) (q := 16) C dX3_init_14 rfl (by decide) ?_
  refine m_newaP (n := 2) (q := 19) C hX.2.1 wa_X3_15 dX3_init_16 rfl rfl (by decide) (by repeat (first | exact nr_0 | refine nr_u2 ?_ (by decide))) rfl rfl (by decide) ⟨by rw [hcells]; exact Nat.le_of_ble_eq_true rfl, by rw [hslots]; exact Nat.le_of_ble_eq_true rfl⟩ (fun ad2 h2 => ?_)
  rw [← h2 17 (by decide)]
  refine g_putFr (m := 2) (q := 22) C n_X3_17 dX3_init_19 rfl rfl rfl rfl rfl hin ?_
  refine g_aload_0 (q := 23) C dX3_init_22 rfl ?_
  refine g_iconst (v := 3) (q := 24) C dX3_init_23 rfl (by decide) ?_
  refine m_newi (n := 3) (q := 26) C dX3_init_24 rfl rfl (by decide) (by repeat (first | exact nr_0 | refine nr_u2 ?_ (by decide))) rfl rfl (by decide) ⟨by rw [hcells]; exact Nat.le_of_ble_eq_true rfl, by rw [hslots]; exact Nat.le_of_ble_eq_true rfl⟩ (fun ad3 h3 => ?_)
  rw [← h3 17 (by decide)]
  refine g_dup (q := 27) C dX3_init_26 rfl rfl ?_
  refine g_iconst (v := 0) (q := 28) C dX3_init_27 rfl (by decide) ?_
  refine g_sipush (v := 250) (q := 31) C dX3_init_28 rfl (by decide) ?_
  refine g_iast (q := 32) C dX3_init_31 rfl rfl rfl (show _ = nI 0 from rfl) (by decide) (by decide) ?_
  refine g_dup (q := 33) C dX3_init_32 rfl rfl ?_
  refine g_iconst (v := 1) (q := 34) C dX3_init_33 rfl (by decide) ?_
  refine g_sipush (v := 400) (q := 37) C dX3_init_34 rfl (by decide) ?_
  refine g_iast (q := 38) C dX3_init_37 rfl rfl rfl (show _ = nI 1 from rfl) (by decide) (by decide) ?_
  refine g_dup (q := 39) C dX3_init_38 rfl rfl ?_
  refine g_iconst (v := 2) (q := 40) C dX3_init_39 rfl (by decide) ?_
  refine g_sipush (v := 600) (q := 43) C dX3_init_40 rfl (by decide) ?_
  refine g_iast (q := 44) C dX3_init_43 rfl rfl rfl (show _ = nI 2 from rfl) (by decide) (by decide) ?_
  refine g_putFr (m := 3) (q := 47) C n_X3_21 dX3_init_44 rfl rfl rfl rfl rfl hin ?_
  refine g_aload_0 (q := 48) C dX3_init_47 rfl ?_
  refine g_bipush (v := 121) (q := 50) C dX3_init_48 rfl (by decide) ?_
  refine m_newl (n := 4) (q := 52) C dX3_init_50 rfl rfl (by decide) (by repeat (first | exact nr_0 | refine nr_u2 ?_ (by decide))) rfl rfl (by decide) ⟨by rw [hcells]; exact Nat.le_of_ble_eq_true rfl, by rw [hslots]; exact Nat.le_of_ble_eq_true rfl⟩ (fun ad4 h4 => ?_)
  rw [← h4 17 (by decide)]
  refine g_putFr (m := 4) (q := 55) C n_X3_25 dX3_init_52 rfl rfl rfl rfl rfl hin ?_
  refine g_aload_0 (q := 56) C dX3_init_55 rfl ?_
  refine m_newo (n := 18) (ty := tyX1) (q := 59) C dX3_init_56 rfl rfl in_X1 tyX1_ok nw_X1 rfl (by decide) (by repeat (first | exact nr_0 | refine nr_u2 ?_ (by decide))) ⟨rfl, rfl, rfl⟩ dz_X1 (by decide) ⟨by rw [hcells]; exact Nat.le_of_ble_eq_true rfl, by rw [hslots]; exact Nat.le_of_ble_eq_true rfl⟩ (fun ad5 h5 => ?_)
  rw [← h5 17 (by decide)]
  refine g_dup (q := 60) C dX3_init_59 rfl rfl ?_
  refine g_callIN (q := 63) (lev' := 1) (mc := 11) (ms := 331) C XK_ok hX wn_X1_init hX.2.2 m_X1_init (by decide) dX3_init_60 rfl rfl rfl (Nat.le_of_ble_eq_true rfl) ⟨by rw [hcells]; exact Nat.le_of_ble_eq_true rfl, by rw [hslots]; exact Nat.le_of_ble_eq_true rfl⟩ (fun v ad6 dm6 a6 b6 r6 hp => ?_)
  obtain ⟨rfl, e17, e18, rfl, rfl, rfl, rfl⟩ := hp
  change G E _ _ ad6 _ _ _ _ 63 _ [.ref (ad5 18), .ref (ad5 17)]
  rw [← e17, ← e18]
  refine m_name (n := 18) (m := 5) (ci := 5) (cj := 1) (a' := mvN (u2 (u2 (u2 (u2 zA 3 0 250) 3 1 400) 3 2 600) 18 12 0) 0 18 5) (b' := mvN (u2 zB 18 11 0) 0 18 5) (r' := (u2 (u2 (u2 (u2 zR 17 0 (some 1)) 17 1 (some 2)) 17 2 (some 3)) 17 3 (some 4))) (by decide) (by decide) rfl rfl rfl (by rw [hg]; exact hgo.1) (by rw [hg]; exact hgo.2.1) (by decide) (by repeat (first | exact nr_0 | refine nr_u2 ?_ (by decide))) rfl (fun i i1 i2 => ⟨by unfold mvN; rw [if_neg i2, if_neg i1], by unfold mvN; rw [if_neg i2, if_neg i1], by repeat rw [u2_n i1]⟩) ?_
  have e5 : va_up ad6 5 (ad6 18) 5 = ad6 18 := va_up_self _ _ _
  have e57 : va_up ad6 5 (ad6 18) 17 = ad6 17 := va_up_ne _ _ (by decide)
  generalize va_up ad6 5 (ad6 18) = ad7 at e5 e57
  rw [← e5, ← e57]
  refine g_putFr (m := 5) (q := 66) C n_X3_32 dX3_init_63 rfl rfl rfl rfl rfl hin ?_
  refine g_aload_0 (q := 67) C dX3_init_66 rfl ?_
  refine g_iconst (v := 0) (q := 68) C dX3_init_67 rfl (by decide) ?_
  refine g_puti (q := 71) C n_X3_36 dX3_init_68 rfl rfl rfl rfl rfl ?_
  refine g_aload_0 (q := 72) C dX3_init_71 rfl ?_
  refine g_iconst (v := 0) (q := 73) C dX3_init_72 rfl (by decide) ?_
  refine g_puti (q := 76) C n_X3_40 dX3_init_73 rfl rfl rfl rfl rfl ?_
  refine g_aload_0 (q := 77) C dX3_init_76 rfl ?_
  refine g_bipush (v := 45) (q := 79) C dX3_init_77 rfl (by decide) ?_
  refine g_puti (q := 82) C n_X3_43 dX3_init_79 rfl rfl rfl rfl rfl ?_
  exact g_vret C RT9 dX3_init_82 ⟨rfl, e57.trans (e17.trans ((h5 17 (by decide)).trans ((h4 17 (by decide)).trans ((h3 17 (by decide)).trans ((h2 17 (by decide)).trans ((h1 17 (by decide)))))))), rfl, rfl, rfl, rfl⟩
set_option maxHeartbeats 4000000 in
set_option maxRecDepth 100000 in
theorem m_X4_init : MTX XK g bs l yX4_init cX4_init 1 none 1 14 1392 [.ref (ad 19)] ad (dmS [19, 0, 5, 16, 15, 14, 13, 12, 11, 10, 9, 8, 7, 6, 4, 3, 2, 1]) (mvN (u2 (u2 (u2 (mvN (u2 (u2 (u2 (u2 zA 3 0 250) 3 1 400) 3 2 600) 18 12 0) 0 18 5) 17 5 0) 17 6 0) 17 7 45) 0 17 0) (mvN (mvN (u2 zB 18 11 0) 0 18 5) 0 17 0) zR (fun v ad0 dm0 a0 b0 r0 => v = none ∧ (∀ m, m < 100 → ad0 m = ad m) ∧ dm0 = dmS [114, 113, 112, 111, 110, 109, 108, 107, 106, 105, 104, 103, 102, 101, 19, 0, 5, 16, 15, 14, 13, 12, 11, 10, 9, 8, 7, 6, 4, 3, 2, 1] ∧ a0 = (u2 (u2 (u2 (u2 (mvN (u2 (u2 (u2 (mvN (u2 (u2 (u2 (u2 zA 3 0 250) 3 1 400) 3 2 600) 18 12 0) 0 18 5) 17 5 0) 17 6 0) 17 7 45) 0 17 0) 103 0 45) 103 1 250) 103 2 400) 103 3 600) ∧ b0 = (mvN (mvN (u2 zB 18 11 0) 0 18 5) 0 17 0) ∧ r0 = (u2 (u2 (u2 (u2 (u2 (u2 (u2 (u2 (u2 (u2 (u2 (u2 (u2 (u2 zR 19 0 (some 101)) 19 2 (some 102)) 19 4 (some 103)) 19 6 (some 104)) 19 7 (some 105)) 19 8 (some 106)) 19 10 (some 107)) 19 11 (some 108)) 19 12 (some 109)) 19 13 (some 110)) 19 14 (some 111)) 19 15 (some 112)) 19 16 (some 113)) 19 17 (some 114))) := by
  refine mtx_of (by decide) [some (.ref (ad 19))] rfl (Nat.le_of_ble_eq_true rfl) ?_
  intro E hg hbs hl hN C RT9 hcells hslots hname hX
  have hin : (eH E).name = "<init>" ∧ (vwCl[7]?).map (·.1) = some RX4 := ⟨hname, rfl⟩
  refine g_aload_0 (q := 1) C dX4_init_0 rfl ?_
  refine g_oinit (q := 4) C oi_X4 dX4_init_1 rfl (by decide) (Nat.le_of_ble_eq_true rfl) ?_
  refine g_aload_0 (q := 5) C dX4_init_4 rfl ?_
  refine g_bipush (v := 56) (q := 7) C dX4_init_5 rfl (by decide) ?_
  refine m_newi (n := 101) (q := 9) C dX4_init_7 rfl rfl (by decide) (by repeat (first | exact nr_0 | refine nr_u2 ?_ (by decide))) rfl rfl (by decide) ⟨by rw [hcells]; exact Nat.le_of_ble_eq_true rfl, by rw [hslots]; exact Nat.le_of_ble_eq_true rfl⟩ (fun ad1 h1 => ?_)
  rw [← h1 19 (by decide)]
  refine g_putFr (m := 101) (q := 12) C n_X4_9 dX4_init_9 rfl rfl rfl rfl rfl hin ?_
  refine g_aload_0 (q := 13) C dX4_init_12 rfl ?_
  refine g_sipush (v := 180) (q := 16) C dX4_init_13 rfl (by decide) ?_
  refine m_newi (n := 102) (q := 18) C dX4_init_16 rfl rfl (by decide) (by repeat (first | exact nr_0 | refine nr_u2 ?_ (by decide))) rfl rfl (by decide) ⟨by rw [hcells]; exact Nat.le_of_ble_eq_true rfl, by rw [hslots]; exact Nat.le_of_ble_eq_true rfl⟩ (fun ad2 h2 => ?_)
  rw [← h2 19 (by decide)]
  refine g_putFr (m := 102) (q := 21) C n_X4_13 dX4_init_18 rfl rfl rfl rfl rfl hin ?_
  refine g_aload_0 (q := 22) C dX4_init_21 rfl ?_
  refine g_iconst (v := 4) (q := 23) C dX4_init_22 rfl (by decide) ?_
  refine m_newi (n := 103) (q := 25) C dX4_init_23 rfl rfl (by decide) (by repeat (first | exact nr_0 | refine nr_u2 ?_ (by decide))) rfl rfl (by decide) ⟨by rw [hcells]; exact Nat.le_of_ble_eq_true rfl, by rw [hslots]; exact Nat.le_of_ble_eq_true rfl⟩ (fun ad3 h3 => ?_)
  rw [← h3 19 (by decide)]
  refine g_dup (q := 26) C dX4_init_25 rfl rfl ?_
  refine g_iconst (v := 0) (q := 27) C dX4_init_26 rfl (by decide) ?_
  refine g_bipush (v := 45) (q := 29) C dX4_init_27 rfl (by decide) ?_
  refine g_iast (q := 30) C dX4_init_29 rfl rfl rfl (show _ = nI 0 from rfl) (by decide) (by decide) ?_
  refine g_dup (q := 31) C dX4_init_30 rfl rfl ?_
  refine g_iconst (v := 1) (q := 32) C dX4_init_31 rfl (by decide) ?_
  refine g_sipush (v := 250) (q := 35) C dX4_init_32 rfl (by decide) ?_
  refine g_iast (q := 36) C dX4_init_35 rfl rfl rfl (show _ = nI 1 from rfl) (by decide) (by decide) ?_
  refine g_dup (q := 37) C dX4_init_36 rfl rfl ?_
  refine g_iconst (v := 2) (q := 38) C dX4_init_37 rfl (by decide) ?_
  refine g_sipush (v := 400) (q := 41) C dX4_init_38 rfl (by decide) ?_
  refine g_iast (q := 42) C dX4_init_41 rfl rfl rfl (show _ = nI 2 from rfl) (by decide) (by decide) ?_
  refine g_dup (q := 43) C dX4_init_42 rfl rfl ?_
  refine g_iconst (v := 3) (q := 44) C dX4_init_43 rfl (by decide) ?_
  refine g_sipush (v := 600) (q := 47) C dX4_init_44 rfl (by decide) ?_
  refine g_iast (q := 48) C dX4_init_47 rfl rfl rfl (show _ = nI 3 from rfl) (by decide) (by decide) ?_
  refine g_putFr (m := 103) (q := 51) C n_X4_16 dX4_init_48 rfl rfl rfl rfl rfl hin ?_
  refine g_aload_0 (q := 52) C dX4_init_51 rfl ?_
  refine g_bipush (v := 121) (q := 54) C dX4_init_52 rfl (by decide) ?_
  refine m_newi (n := 104) (q := 56) C dX4_init_54 rfl rfl (by decide) (by repeat (first | exact nr_0 | refine nr_u2 ?_ (by decide))) rfl rfl (by decide) ⟨by rw [hcells]; exact Nat.le_of_ble_eq_true rfl, by rw [hslots]; exact Nat.le_of_ble_eq_true rfl⟩ (fun ad4 h4 => ?_)
  rw [← h4 19 (by decide)]
  refine g_putFr (m := 104) (q := 59) C n_X4_19 dX4_init_56 rfl rfl rfl rfl rfl hin ?_
  refine g_aload_0 (q := 60) C dX4_init_59 rfl ?_
  refine g_bipush (v := 121) (q := 62) C dX4_init_60 rfl (by decide) ?_
  refine m_newi (n := 105) (q := 64) C dX4_init_62 rfl rfl (by decide) (by repeat (first | exact nr_0 | refine nr_u2 ?_ (by decide))) rfl rfl (by decide) ⟨by rw [hcells]; exact Nat.le_of_ble_eq_true rfl, by rw [hslots]; exact Nat.le_of_ble_eq_true rfl⟩ (fun ad5 h5 => ?_)
  rw [← h5 19 (by decide)]
  refine g_putFr (m := 105) (q := 67) C n_X4_22 dX4_init_64 rfl rfl rfl rfl rfl hin ?_
  refine g_aload_0 (q := 68) C dX4_init_67 rfl ?_
  refine g_bipush (v := 6) (q := 70) C dX4_init_68 rfl (by decide) ?_
  refine m_newi (n := 106) (q := 72) C dX4_init_70 rfl rfl (by decide) (by repeat (first | exact nr_0 | refine nr_u2 ?_ (by decide))) rfl rfl (by decide) ⟨by rw [hcells]; exact Nat.le_of_ble_eq_true rfl, by rw [hslots]; exact Nat.le_of_ble_eq_true rfl⟩ (fun ad6 h6 => ?_)
  rw [← h6 19 (by decide)]
  refine g_putFr (m := 106) (q := 75) C n_X4_25 dX4_init_72 rfl rfl rfl rfl rfl hin ?_
  refine g_aload_0 (q := 76) C dX4_init_75 rfl ?_
  refine g_sipush (v := 432) (q := 79) C dX4_init_76 rfl (by decide) ?_
  refine m_newi (n := 107) (q := 81) C dX4_init_79 rfl rfl (by decide) (by repeat (first | exact nr_0 | refine nr_u2 ?_ (by decide))) rfl rfl (by decide) ⟨by rw [hcells]; exact Nat.le_of_ble_eq_true rfl, by rw [hslots]; exact Nat.le_of_ble_eq_true rfl⟩ (fun ad7 h7 => ?_)
  rw [← h7 19 (by decide)]
  refine g_putFr (m := 107) (q := 84) C n_X4_28 dX4_init_81 rfl rfl rfl rfl rfl hin ?_
  refine g_aload_0 (q := 85) C dX4_init_84 rfl ?_
  refine g_sipush (v := 432) (q := 88) C dX4_init_85 rfl (by decide) ?_
  refine m_newi (n := 108) (q := 90) C dX4_init_88 rfl rfl (by decide) (by repeat (first | exact nr_0 | refine nr_u2 ?_ (by decide))) rfl rfl (by decide) ⟨by rw [hcells]; exact Nat.le_of_ble_eq_true rfl, by rw [hslots]; exact Nat.le_of_ble_eq_true rfl⟩ (fun ad8 h8 => ?_)
  rw [← h8 19 (by decide)]
  refine g_putFr (m := 108) (q := 93) C n_X4_31 dX4_init_90 rfl rfl rfl rfl rfl hin ?_
  refine g_aload_0 (q := 94) C dX4_init_93 rfl ?_
  refine g_bipush (v := 6) (q := 96) C dX4_init_94 rfl (by decide) ?_
  refine m_newi (n := 109) (q := 98) C dX4_init_96 rfl rfl (by decide) (by repeat (first | exact nr_0 | refine nr_u2 ?_ (by decide))) rfl rfl (by decide) ⟨by rw [hcells]; exact Nat.le_of_ble_eq_true rfl, by rw [hslots]; exact Nat.le_of_ble_eq_true rfl⟩ (fun ad9 h9 => ?_)
  rw [← h9 19 (by decide)]
  refine g_putFr (m := 109) (q := 101) C n_X4_34 dX4_init_98 rfl rfl rfl rfl rfl hin ?_
  refine g_aload_0 (q := 102) C dX4_init_101 rfl ?_
  refine g_bipush (v := 6) (q := 104) C dX4_init_102 rfl (by decide) ?_
  refine m_newi (n := 110) (q := 106) C dX4_init_104 rfl rfl (by decide) (by repeat (first | exact nr_0 | refine nr_u2 ?_ (by decide))) rfl rfl (by decide) ⟨by rw [hcells]; exact Nat.le_of_ble_eq_true rfl, by rw [hslots]; exact Nat.le_of_ble_eq_true rfl⟩ (fun ad10 h10 => ?_)
  rw [← h10 19 (by decide)]
  refine g_putFr (m := 110) (q := 109) C n_X4_37 dX4_init_106 rfl rfl rfl rfl rfl hin ?_
  refine g_aload_0 (q := 110) C dX4_init_109 rfl ?_
  refine g_bipush (v := 8) (q := 112) C dX4_init_110 rfl (by decide) ?_
  refine m_newi (n := 111) (q := 114) C dX4_init_112 rfl rfl (by decide) (by repeat (first | exact nr_0 | refine nr_u2 ?_ (by decide))) rfl rfl (by decide) ⟨by rw [hcells]; exact Nat.le_of_ble_eq_true rfl, by rw [hslots]; exact Nat.le_of_ble_eq_true rfl⟩ (fun ad11 h11 => ?_)
  rw [← h11 19 (by decide)]
  refine g_putFr (m := 111) (q := 117) C n_X4_40 dX4_init_114 rfl rfl rfl rfl rfl hin ?_
  refine g_aload_0 (q := 118) C dX4_init_117 rfl ?_
  refine g_bipush (v := 8) (q := 120) C dX4_init_118 rfl (by decide) ?_
  refine m_newi (n := 112) (q := 122) C dX4_init_120 rfl rfl (by decide) (by repeat (first | exact nr_0 | refine nr_u2 ?_ (by decide))) rfl rfl (by decide) ⟨by rw [hcells]; exact Nat.le_of_ble_eq_true rfl, by rw [hslots]; exact Nat.le_of_ble_eq_true rfl⟩ (fun ad12 h12 => ?_)
  rw [← h12 19 (by decide)]
  refine g_putFr (m := 112) (q := 125) C n_X4_43 dX4_init_122 rfl rfl rfl rfl rfl hin ?_
  refine g_aload_0 (q := 126) C dX4_init_125 rfl ?_
  refine g_bipush (v := 6) (q := 128) C dX4_init_126 rfl (by decide) ?_
  refine m_newi (n := 113) (q := 130) C dX4_init_128 rfl rfl (by decide) (by repeat (first | exact nr_0 | refine nr_u2 ?_ (by decide))) rfl rfl (by decide) ⟨by rw [hcells]; exact Nat.le_of_ble_eq_true rfl, by rw [hslots]; exact Nat.le_of_ble_eq_true rfl⟩ (fun ad13 h13 => ?_)
  rw [← h13 19 (by decide)]
  refine g_putFr (m := 113) (q := 133) C n_X4_46 dX4_init_130 rfl rfl rfl rfl rfl hin ?_
  refine g_aload_0 (q := 134) C dX4_init_133 rfl ?_
  refine g_bipush (v := 6) (q := 136) C dX4_init_134 rfl (by decide) ?_
  refine m_newi (n := 114) (q := 138) C dX4_init_136 rfl rfl (by decide) (by repeat (first | exact nr_0 | refine nr_u2 ?_ (by decide))) rfl rfl (by decide) ⟨by rw [hcells]; exact Nat.le_of_ble_eq_true rfl, by rw [hslots]; exact Nat.le_of_ble_eq_true rfl⟩ (fun ad14 h14 => ?_)
  rw [← h14 19 (by decide)]
  refine g_putFr (m := 114) (q := 141) C n_X4_49 dX4_init_138 rfl rfl rfl rfl rfl hin ?_
  exact g_vret C RT9 dX4_init_141 ⟨rfl, fun m hm => (h14 m (by omega)).trans ((h13 m (by omega)).trans ((h12 m (by omega)).trans ((h11 m (by omega)).trans ((h10 m (by omega)).trans ((h9 m (by omega)).trans ((h8 m (by omega)).trans ((h7 m (by omega)).trans ((h6 m (by omega)).trans ((h5 m (by omega)).trans ((h4 m (by omega)).trans ((h3 m (by omega)).trans ((h2 m (by omega)).trans ((h1 m (by omega))))))))))))))), rfl, rfl, rfl, rfl⟩
end X50
