/-! of: the class throws, the law catches -/
section X56
variable {g : GM} {bs : Nat} {l : Launch} {ad : Nat → Nat} {dm : Nat → Bool} {a : Nat → Nat → Int32} {b : Nat → Nat → Int64} {r : Nat → Nat → Option Nat} {nF nP : Nat} {fl pa nu : Nat → Int32}
def XE (bs sa1 sa2 : Nat) (U : State) : Prop := vk_R RX3 87 "no such party" sa1 U ∧ vk_R RX3 125 "no such question" sa2 U ∧ va_Nw (.declares (Bundle.initS nxR)) U ∧ va_Nw (.declares (Bundle.initS "java/lang/Exception")) U ∧ va_Nw (.declares (Bundle.initS Bundle.tN)) U ∧ va_Nw (.castable nxN nxN) U ∧ vx_Zq Bundle.tN "UNASSIGNED_STACK" Bundle.steD (fun q => bs ≤ q) U U.heap ∧ vx_Zq Bundle.tN "SUPPRESSED_SENTINEL" Bundle.listD (fun q => bs ≤ q) U U.heap
theorem XE_ok {bs sa1 sa2 : Nat} : FOK bs (XE bs sa1 sa2) := ⟨fun s U L hW hS h => ⟨vk_R.warm hW h.1, vk_R.warm hW h.2.1, va_Nw.warmD hW h.2.2.1, va_Nw.warmD hW h.2.2.2.1, va_Nw.warmD hW h.2.2.2.2.1, va_Nw.warmC hW h.2.2.2.2.2.1, vx_Zq.moved hW.alike (h.2.2.2.2.2.2.1.kept hS.2.1), vx_Zq.moved hW.alike (h.2.2.2.2.2.2.2.kept hS.2.1)⟩, fun U f mk av h => ⟨vk_R.same (U := U.calling f mk av) rfl h.1, vk_R.same (U := U.calling f mk av) rfl h.2.1, va_Nw.same (U := U.calling f mk av) rfl rfl h.2.2.1, va_Nw.same (U := U.calling f mk av) rfl rfl h.2.2.2.1, va_Nw.same (U := U.calling f mk av) rfl rfl h.2.2.2.2.1, va_Nw.same (U := U.calling f mk av) rfl rfl h.2.2.2.2.2.1, vx_Zq.moved (U := U.calling f mk av) (Vm.Alike.refl U.vm) h.2.2.2.2.2.2.1, vx_Zq.moved (U := U.calling f mk av) (Vm.Alike.refl U.vm) h.2.2.2.2.2.2.2⟩⟩
theorem nx_gd : ∀ w ∈ (nxW RX3 89).filter goodWord, w ∈ gd := by decide +kernel
theorem nx_bad : ∀ w ∈ (nxW RX3 89).filter (fun w => !goodWord w), w ∈ [Cond.declares (Bundle.initS nxR), Cond.declares (Bundle.initS "java/lang/Exception"), Cond.declares (Bundle.initS Bundle.tN), Cond.castable nxN nxN] := by decide +kernel
theorem nx_k : Cond.classLink RX3 85 nxN ∈ gd := gd_2 234 (by decide +kernel) rfl
theorem nx_i : Cond.initialized nxN ∈ gd := gd_1 10 (by decide +kernel) rfl
theorem nx_ot : ∀ w ∈ Cond.classLink RX3 85 nxN :: Cond.initialized nxN :: nxW RX3 89, vx_ot w = true := by decide +kernel
theorem Wd.keep {H H1 : Heap} (h : Wd g bs ad dm a b r H) (hz : H.size ≤ H1.size) (ho : ∀ q, q < H.size → H1[q]? = H[q]?) : Wd g bs ad dm a b r H1 := ⟨Nat.le_trans h.1 hz, fun n hn => ⟨(h.2.1 n hn).1, (h.2.1 n hn).2.kept (ho _ (h.2.1 n hn).2.lt)⟩, h.2.2⟩
def XCo (g : GM) (bs : Nat) (ad : Nat → Nat) (dm : Nat → Bool) (a : Nat → Nat → Int32) (b : Nat → Nat → Int64) (r : Nat → Nat → Option Nat) (K : Bool) : String → State → State → Prop := fun E st t => E = nxN ∧ K = false ∧ Wd g bs ad dm a b r t.heap ∧ va_F (fun q => bs ≤ q) st t
theorem g_thr {E : EN} {pc is sa sa1 sa2 : Nat} {text : String} {K : Bool} {P : PO} {lo : List (Option Value)} (C : CX E cX3_of RX3 10) (hl : (eL E).stackTraces = false) (hQ : eQ E = vx_MQ (eW E) (QP (eG E) (eB E) P) (XCo (eG E) (eB E) ad dm a b r K) (eA E) (eS E) 1 6 (fun q => eB E ≤ q)) (hF : XE (eB E) sa1 sa2 (eS E)) (hstr : vk_R RX3 is text sa (eS E)) (hK9 : K = false) (htab : ∀ x ∈ (eC E).exceptionTable.toList, False) (hlk : (eH E).locks = false) (hR : (eR E).frames = 10 ∧ (eR E).locals = 400 ∧ (eR E).cells = 1 ∧ (eR E).slots = 6)
    (d0 : decode cX3_of pc = .ok (.new 85, 3)) (d3 : decode cX3_of (pc + 3) = .ok (.dup, 1)) (d4 : decode cX3_of (pc + 4) = .ok (.ldc is, 2)) (d6 : decode cX3_of (pc + 6) = .ok (.invokespecial 89, 3)) (d9 : decode cX3_of (pc + 9) = .ok (.athrow, 1)) : G E 0 0 ad dm a b r pc lo [] := fun H L ls hW hS hl' => by
  obtain ⟨hx, hb, hml, hown, hts, hK, hf, hlc⟩ := C
  obtain ⟨x1, x2, x3, x4, x5, x6, x7, x8⟩ := hF
  show W _ _ _ _ _ _ _ _ _ _ _ _ _ _ (eQ E) _
  rw [hQ]
  refine nx_throw (A := fun q => eB E ≤ q) hx hb hl hown (hts _ nx_k) (hts _ nx_i) hstr (vx_hat (fun w hw => hts _ (nx_gd w hw)) nx_bad (vx_c (va_Nw.use rfl x3) (vx_c (va_Nw.use rfl x4) (vx_c (va_Nw.use rfl x5) (vx_c (va_Nw.use rfl x6) vx_n))))) nx_ot x7 x8 hS (hl'.1.trans hml.symm) d0 d3 d4 d6 d9 (fun x hx => (htab x hx).elim) (by rw [hR.1]; decide) (by rw [hR.2.1]; decide) (by rw [hR.2.2.1]; decide) (by rw [hR.2.2.2]; decide) hlk (fun t ha hz ho => ⟨rfl, hK9, hW.keep hz ho, Nat.le_trans hS.1 hz, fun q h1 h2 => (ho q (Nat.lt_of_lt_of_le h1 hS.1)).trans (hS.2.1 q h1 h2)⟩) hS.2.2 (Nat.le_refl _) (Nat.le_refl _)
theorem g_iretX {E : EN} {cc : ByteArray} {own : String} {lev pc cl sl mc ms : Nat} {v : Int32} {P : PO} {lo : List (Option Value)} {XC : String → State → State → Prop} (C : CX E cc own lev) (hQ : eQ E = vx_MQ (eW E) (QP (eG E) (eB E) P) XC (eA E) (eS E) mc ms (fun q => eB E ≤ q)) (hr : (eH E).sig.returnType = some .int) (hlk : (eH E).locks = false) (hc : cl ≤ mc) (hs : sl ≤ ms) (d : decode cc pc = .ok (.ireturn, 1)) (h : P (some (.int v)) ad dm a b r) : G E cl sl ad dm a b r pc lo [.int v] := fun H L ls hW hS hl => by
  show W _ _ _ _ _ _ _ _ _ _ _ _ _ _ (eQ E) _
  rw [hQ]
  refine vx_ret ?_
  exact g_wide (E := (E.1, E.2.1, E.2.2.1, E.2.2.2.1, MQ (eW E) (QP (eG E) (eB E) P) (eA E) (eS E) mc ms (fun q => eB E ≤ q))) hc hs (g_iret (E := (E.1, E.2.1, E.2.2.1, E.2.2.2.1, MQ (eW E) (QP (eG E) (eB E) P) (eA E) (eS E) mc ms (fun q => eB E ≤ q))) C ⟨rfl, hr, hlk⟩ d h) H L ls hW hS hl
def PO1 (nP : Nat) (fl pa nu : Nat → Int32) (p1 what : Int32) (ad : Nat → Nat) (dm : Nat → Bool) (a : Nat → Nat → Int32) (b : Nat → Nat → Int64) (r : Nat → Nat → Option Nat) : PO := fun v ad0 dm0 a0 b0 r0 => ofK nP p1 what = true ∧ v = some (.int (ofS fl pa nu (cN p1) what)) ∧ ad0 = ad ∧ dm0 = dm ∧ a0 = a ∧ b0 = b ∧ r0 = r
def MT3of (g : GM) (bs : Nat) (l : Launch) (sa1 sa2 nP : Nat) (fl pa nu : Nat → Int32) (p1 what : Int32) (ad : Nat → Nat) (dm : Nat → Bool) (a : Nat → Nat → Int32) (b : Nat → Nat → Int64) (r : Nat → Nat → Option Nat) : Prop := vx_Met l yX3_of (.code yX3_of cX3_of 4 (some .int) :: gd) { frames := 10, cells := 1, slots := 6, locals := 400 } (PCX (XE bs sa1 sa2) g bs [.ref (ad 0), .int p1, .int what] ad dm a b r) (QP g bs (PO1 nP fl pa nu p1 what ad dm a b r)) (XCo g bs ad dm a b r (ofK nP p1 what)) 1 6 (fun q => bs ≤ q)
theorem of_w {what : Int32} {k : Nat} (hk : k ≤ 7) (h : what = nI k) : inR what 0 7 = true := by
  unfold inR
  rw [h, decide_eq_true (show (0 : Int32) ≤ nI k from nI_le (a := 0) (by omega) (by omega)), decide_eq_true (show nI k ≤ 7 from nI_le (b := 7) hk (by decide))]
  rfl
theorem of_n {what : Int32} (h0 : ¬ what = 0) (h1 : ¬ what = 1) (h2 : ¬ what = 2) (h3 : ¬ what = 3) (h4 : ¬ what = 4) (h5 : ¬ what = 5) (h6 : ¬ what = 6) (h7 : ¬ what = 7) : inR what 0 7 = false := by
  cases h9 : inR what 0 7 with
  | false => rfl
  | true =>
    obtain ⟨k, k1, k2⟩ := inN (m := 7) (by decide) h9
    have h : k = 0 ∨ k = 1 ∨ k = 2 ∨ k = 3 ∨ k = 4 ∨ k = 5 ∨ k = 6 ∨ k = 7 := by omega
    rcases h with rfl | rfl | rfl | rfl | rfl | rfl | rfl | rfl
    · exact absurd k2 h0
    · exact absurd k2 h1
    · exact absurd k2 h2
    · exact absurd k2 h3
    · exact absurd k2 h4
    · exact absurd k2 h5
    · exact absurd k2 h6
    · exact absurd k2 h7
set_option maxHeartbeats 4000000 in
set_option maxRecDepth 100000 in
theorem ofX {E : EN} {sa1 sa2 : Nat} (hlt0 : l.stackTraces = false) (X : XR nF nP fl pa nu dm a r) (W : WP nF nP pa) (p1 what : Int32) (C : CX E cX3_of RX3 10) (hQ : eQ E = vx_MQ (eW E) (QP (eG E) (eB E) (PO1 nP fl pa nu p1 what ad dm a b r)) (XCo (eG E) (eB E) ad dm a b r (ofK nP p1 what)) (eA E) (eS E) 1 6 (fun q => eB E ≤ q)) (hrt : (eH E).sig.returnType = some .int) (hlk : (eH E).locks = false) (hF : XE (eB E) sa1 sa2 (eS E)) (htab : ∀ x ∈ (eC E).exceptionTable.toList, False) (hR : (eR E).frames = 10 ∧ (eR E).locals = 400 ∧ (eR E).cells = 1 ∧ (eR E).slots = 6) (hL : eL E = l) (hN : eN E = 4) : G E 0 0 ad dm a b r 0 [some (.ref (ad 0)), some (.int p1), some (.int what), none] [] := by
  have I := X.1
  have hnP := X.1.2.1
  have hlt : (eL E).stackTraces = false := by rw [hL]; exact hlt0
  cases hfi : fok nP p1 with
  | false =>
    refine g_aload_0 (q := 1) C dX3_of_0 rfl ?_
    refine g_iload_1 (q := 2) C dX3_of_1 rfl ?_
    refine g_cv1i (q := 5) C cv_X3_81 dX3_of_2 rfl rfl (IX.d0 I _ (by decide)) (m_X3_partyAt_n X hfi) (by decide) (Nat.le_of_ble_eq_true rfl) ⟨Nat.zero_le _, Nat.zero_le _⟩ ?_
    refine g_astore_3N (q := 6) C dX3_of_5 rfl (by rw [hN]; decide) rfl ?_
    refine g_aload_3N (q := 7) C dX3_of_6 rfl ?_
    refine g_ifnonnullN (q := 10) C dX3_of_7 rfl ?_
    exact g_thr (is := 87) (text := "no such party") C hlt hQ hF hF.1 (by unfold ofK; rw [hfi, Bool.false_and]) htab hlk hR dX3_of_10 dX3_of_13 dX3_of_14 dX3_of_16 dX3_of_19
  | true =>
    obtain ⟨i, hi, ei⟩ := fok_t hfi (by omega)
    have hcn : cN p1 = i := by rw [ei, cN_nI (by omega)]
    obtain ⟨o, ho, ro, eo, e1, e2, e3, e4, e5, e6, w7, w8⟩ := X.pt hi
    subst ei
    refine g_aload_0 (q := 1) C dX3_of_0 rfl ?_
    refine g_iload_1 (q := 2) C dX3_of_1 rfl ?_
    refine g_cv1i (q := 5) C cv_X3_81 dX3_of_2 rfl rfl (IX.d0 I _ (by decide)) (m_X3_partyAt_y X hi) (by decide) (Nat.le_of_ble_eq_true rfl) ⟨Nat.zero_le _, Nat.zero_le _⟩ ?_
    refine g_astore_3 (q := 6) C dX3_of_5 rfl (by rw [hN]; decide) rfl ?_
    refine g_aload_3 (q := 7) C dX3_of_6 rfl ?_
    refine g_ifnonnull (tgt := 20) C dX3_of_7 (by decide) ?_
    refine g_iload_2 (q := 21) C dX3_of_20 rfl ?_
    by_cases sw_0 : what = 0
    · subst sw_0
      refine g_tableIn (tgt := 68) C dX3_of_21 (by decide) (by decide) rfl (by decide) ?_
      refine g_aload_3 (q := 69) C dX3_of_68 rfl ?_
      refine g_geti (q := 72) C f_X3_92 dX3_of_69 rfl (IX.lp I (by assumption)) (IX.dp I (by assumption)) ?_
      exact g_iretX C hQ hrt hlk (by decide) (by decide) dX3_of_72 ⟨by unfold ofK; rw [hfi]; decide, by rw [hcn, show ofS fl pa nu i 0 = pa (9 * i + 5) from rfl, e5], rfl, rfl, rfl, rfl, rfl⟩
    by_cases sw_1 : what = 1
    · subst sw_1
      refine g_tableIn (tgt := 73) C dX3_of_21 (by decide) (by decide) rfl (by decide) ?_
      refine g_aload_3 (q := 74) C dX3_of_73 rfl ?_
      refine g_getr (q := 77) C f_X3_95 dX3_of_74 rfl (IX.lp I (by assumption)) (IX.dp I (by assumption)) ro ?_
      refine g_geti (q := 80) C f_X3_99 dX3_of_77 rfl (IX.lf I (by assumption)) (IX.df I (by assumption)) ?_
      exact g_iretX C hQ hrt hlk (by decide) (by decide) dX3_of_80 ⟨by unfold ofK; rw [hfi]; decide, by rw [hcn, X.no ho, show ofS fl pa nu i 1 = pa (9 * i) from rfl, eo], rfl, rfl, rfl, rfl, rfl⟩
    by_cases sw_2 : what = 2
    · subst sw_2
      refine g_tableIn (tgt := 81) C dX3_of_21 (by decide) (by decide) rfl (by decide) ?_
      refine g_aload_3 (q := 82) C dX3_of_81 rfl ?_
      refine g_geti (q := 85) C f_X3_102 dX3_of_82 rfl (IX.lp I (by assumption)) (IX.dp I (by assumption)) ?_
      exact g_iretX C hQ hrt hlk (by decide) (by decide) dX3_of_85 ⟨by unfold ofK; rw [hfi]; decide, by rw [hcn, show ofS fl pa nu i 2 = pa (9 * i + 1) from rfl, e1], rfl, rfl, rfl, rfl, rfl⟩
    by_cases sw_3 : what = 3
    · subst sw_3
      refine g_tableIn (tgt := 86) C dX3_of_21 (by decide) (by decide) rfl (by decide) ?_
      refine g_aload_3 (q := 87) C dX3_of_86 rfl ?_
      refine g_geti (q := 90) C f_X3_105 dX3_of_87 rfl (IX.lp I (by assumption)) (IX.dp I (by assumption)) ?_
      exact g_iretX C hQ hrt hlk (by decide) (by decide) dX3_of_90 ⟨by unfold ofK; rw [hfi]; decide, by rw [hcn, show ofS fl pa nu i 3 = pa (9 * i + 6) from rfl, e6], rfl, rfl, rfl, rfl, rfl⟩
    by_cases sw_4 : what = 4
    · subst sw_4
      refine g_tableIn (tgt := 91) C dX3_of_21 (by decide) (by decide) rfl (by decide) ?_
      refine g_aload_3 (q := 92) C dX3_of_91 rfl ?_
      rcases w7 with ⟨o7, v7⟩ | ⟨f, hf, o7, v7⟩
      · refine g_getrN (q := 95) C f_X3_108 dX3_of_92 rfl (IX.lp I (by assumption)) (IX.dp I (by assumption)) o7 ?_
        refine g_cs1i (q := 98) C cs_X3_111 dX3_of_95 rfl m_X3_numberOf_n (by decide) (Nat.le_of_ble_eq_true rfl) ⟨Nat.zero_le _, Nat.zero_le _⟩ ?_
        exact g_iretX C hQ hrt hlk (by decide) (by decide) dX3_of_98 ⟨by unfold ofK; rw [hfi]; decide, by rw [hcn, show ofS fl pa nu i 4 = pa (9 * i + 7) from rfl, v7], rfl, rfl, rfl, rfl, rfl⟩
      · refine g_getr (q := 95) C f_X3_108 dX3_of_92 rfl (IX.lp I (by assumption)) (IX.dp I (by assumption)) o7 ?_
        refine g_cs1i (q := 98) C cs_X3_111 dX3_of_95 rfl (m_X3_numberOf_r X hf) (by decide) (Nat.le_of_ble_eq_true rfl) ⟨Nat.zero_le _, Nat.zero_le _⟩ ?_
        exact g_iretX C hQ hrt hlk (by decide) (by decide) dX3_of_98 ⟨by unfold ofK; rw [hfi]; decide, by rw [hcn, show ofS fl pa nu i 4 = pa (9 * i + 7) from rfl, v7], rfl, rfl, rfl, rfl, rfl⟩
    by_cases sw_5 : what = 5
    · subst sw_5
      refine g_tableIn (tgt := 99) C dX3_of_21 (by decide) (by decide) rfl (by decide) ?_
      refine g_aload_3 (q := 100) C dX3_of_99 rfl ?_
      rcases w8 with ⟨o8, v8⟩ | ⟨f, hf, o8, v8⟩
      · refine g_getrN (q := 103) C f_X3_114 dX3_of_100 rfl (IX.lp I (by assumption)) (IX.dp I (by assumption)) o8 ?_
        refine g_cs1i (q := 106) C cs_X3_111 dX3_of_103 rfl m_X3_numberOf_n (by decide) (Nat.le_of_ble_eq_true rfl) ⟨Nat.zero_le _, Nat.zero_le _⟩ ?_
        exact g_iretX C hQ hrt hlk (by decide) (by decide) dX3_of_106 ⟨by unfold ofK; rw [hfi]; decide, by rw [hcn, show ofS fl pa nu i 5 = pa (9 * i + 8) from rfl, v8], rfl, rfl, rfl, rfl, rfl⟩
      · refine g_getr (q := 103) C f_X3_114 dX3_of_100 rfl (IX.lp I (by assumption)) (IX.dp I (by assumption)) o8 ?_
        refine g_cs1i (q := 106) C cs_X3_111 dX3_of_103 rfl (m_X3_numberOf_r X hf) (by decide) (Nat.le_of_ble_eq_true rfl) ⟨Nat.zero_le _, Nat.zero_le _⟩ ?_
        exact g_iretX C hQ hrt hlk (by decide) (by decide) dX3_of_106 ⟨by unfold ofK; rw [hfi]; decide, by rw [hcn, show ofS fl pa nu i 5 = pa (9 * i + 8) from rfl, v8], rfl, rfl, rfl, rfl, rfl⟩
    by_cases sw_6 : what = 6
    · subst sw_6
      refine g_tableIn (tgt := 107) C dX3_of_21 (by decide) (by decide) rfl (by decide) ?_
      refine g_aload_3 (q := 108) C dX3_of_107 rfl ?_
      refine g_cv0i (q := 111) C cv_X3_117 dX3_of_108 rfl (IX.lp I (by assumption)) (IX.dp I (by assumption)) (m_X2_lateByWay X hi) (by decide) (Nat.le_of_ble_eq_true rfl) ⟨Nat.zero_le _, Nat.zero_le _⟩ ?_
      exact g_iretX C hQ hrt hlk (by decide) (by decide) dX3_of_111 ⟨by unfold ofK; rw [hfi]; decide, by rw [hcn, show ofS fl pa nu i 6 = loS fl pa i from rfl], rfl, rfl, rfl, rfl, rfl⟩
    by_cases sw_7 : what = 7
    · subst sw_7
      refine g_tableIn (tgt := 112) C dX3_of_21 (by decide) (by decide) rfl (by decide) ?_
      refine g_aload_0 (q := 113) C dX3_of_112 rfl ?_
      refine g_aload_3 (q := 114) C dX3_of_113 rfl ?_
      refine g_cv1i (q := 117) C cv_X3_121 dX3_of_114 rfl rfl (IX.d0 I _ (by decide)) (m_X3_claimOf X W hi) (by decide) (Nat.le_of_ble_eq_true rfl) ⟨Nat.zero_le _, Nat.zero_le _⟩ ?_
      exact g_iretX C hQ hrt hlk (by decide) (by decide) dX3_of_117 ⟨by unfold ofK; rw [hfi]; decide, by rw [hcn, show ofS fl pa nu i 7 = clS fl pa nu i from rfl], rfl, rfl, rfl, rfl, rfl⟩
    refine g_tableOut (tgt := 118) C dX3_of_21 (sw_out8 sw_0 sw_1 sw_2 sw_3 sw_4 sw_5 sw_6 sw_7) (by decide) ?_
    exact g_thr (is := 125) (text := "no such question") C hlt hQ hF hF.2.1 (by unfold ofK; rw [of_n sw_0 sw_1 sw_2 sw_3 sw_4 sw_5 sw_6 sw_7, Bool.and_false]) htab hlk hR dX3_of_118 dX3_of_121 dX3_of_122 dX3_of_124 dX3_of_127
set_option maxHeartbeats 4000000 in
set_option maxRecDepth 100000 in
theorem m_X3_of {sa1 sa2 : Nat} (hlt : l.stackTraces = false) (X : XR nF nP fl pa nu dm a r) (W : WP nF nP pa) (p1 what : Int32) : MT3of g bs l sa1 sa2 nP fl pa nu p1 what ad dm a b r := by
  refine vx_ofW (cc := cX3_of) (maxL := 4) (ret := some .int) (by decide) rfl ?_
  intro p e s m args below meth c s₁ B9 hml htab0 hv
  obtain ⟨rfl, ⟨hW0, hK0⟩, hF0⟩ := hv
  have hts := atoms_spec (ws := .code yX3_of cX3_of 4 (some .int) :: gd) B9.pre
  have body : ∀ E : EN, E = (g, bs, (p, l, e, { frames := 10, cells := 1, slots := 6, locals := 400 }, s, m, [Value.ref (ad 0), .int p1, .int what].toArray, below, meth, c), 4, vx_MQ below (QP g bs (PO1 nP fl pa nu p1 what ad dm a b r)) (XCo g bs ad dm a b r (ofK nP p1 what)) [Value.ref (ad 0), .int p1, .int what].toArray s 1 6 (fun q => bs ≤ q)) → G E 0 0 ad dm a b r 0 [some (.ref (ad 0)), some (.int p1), some (.int what), none] [] := by
    intro E hE
    subst hE
    have C : CX (g, bs, (p, l, e, ({ frames := 10, cells := 1, slots := 6, locals := 400 } : Room), s, m, [Value.ref (ad 0), .int p1, .int what].toArray, below, meth, c), 4, vx_MQ below (QP g bs (PO1 nP fl pa nu p1 what ad dm a b r)) (XCo g bs ad dm a b r (ofK nP p1 what)) [Value.ref (ad 0), .int p1, .int what].toArray s 1 6 (fun q => bs ≤ q)) cX3_of RX3 10 := ⟨B9.exec, B9.bytes, hml, findClass_of_methodNamed B9.named, fun w hw => hts w (List.mem_cons_of_mem _ hw), hK0, Nat.le_refl _, Nat.le_refl _⟩
    have hrt := B9.returns
    have hlk := B9.notSynchronized
    generalize hE : (g, bs, (p, l, e, ({ frames := 10, cells := 1, slots := 6, locals := 400 } : Room), s, m, [Value.ref (ad 0), .int p1, .int what].toArray, below, meth, c), 4, vx_MQ below (QP g bs (PO1 nP fl pa nu p1 what ad dm a b r)) (XCo g bs ad dm a b r (ofK nP p1 what)) [Value.ref (ad 0), .int p1, .int what].toArray s 1 6 (fun q => bs ≤ q)) = E at C ⊢
    exact ofX hlt X W p1 what C (by rw [← hE]) (by rw [← hE]; exact hrt) (by rw [← hE]; exact hlk) (by rw [← hE]; exact hF0) (by rw [← hE]; exact htab0) (by rw [← hE]; exact ⟨rfl, rfl, rfl, rfl⟩) (by rw [← hE]) (by rw [← hE])
  have hl9 := lv_entry [Value.ref (ad 0), .int p1, .int what] (n := 4) (Nat.le_of_ble_eq_true rfl)
  rw [lg_entry_eq]
  exact body _ rfl s.heap [] _ hW0 va_S.rf hl9
end X56
