/-! of, as the law calls it; the law, a whole turn -/
section L57
variable {g : GM} {bs : Nat} {l : Launch} {ad : Nat → Nat} {dm : Nat → Bool} {a : Nat → Nat → Int32} {b : Nat → Nat → Int64} {r : Nat → Nat → Option Nat} {nF nP : Nat} {fl pa nu : Nat → Int32} {bb L t : Nat} {xs : Nat → Int32}
/-- a body with handlers, that returns -/
theorem met_ofWH {l : Launch} {y : MethodName} {ws ws' : List Cond} {rm : Room} {Pc : Array Value → State → Prop} {Qc : Array Value → State → Outcome → State → Prop} {mc ms : Nat} {free : Addr → Prop} {cc : ByteArray} {maxL : Nat} {ret : Option FieldType} {hh : List (Nat × Nat × Nat × Nat)} (hy : plainName y.cls = true) (hw : ws = Cond.codeWith y cc maxL ret hh :: ws')
    (body : ∀ p e s m args below meth c s₁, BodyLoose p l y (headSpec ws rm) cc maxL ret e s m args below meth c s₁ → c.maxLocals = maxL → Pc args s → W p l e (headSpec ws rm).room s m args below meth c s.heap [] 0 0 (MQ below Qc args s mc ms free) (entryFrame m args maxL)) : Met l y ws rm Pc Qc mc ms free := by
  refine MetFree.of_bodyS (code := cc) (maxLocals := maxL) (ret := ret) hy ?_ ?_
  · intro args s m h hn
    obtain ⟨m9, meth, c, hn9, h1, h2, h3, h4, -, h5, h6, -⟩ := Cond.codeWith_spec (atoms_spec (ws := ws) h _ (by rw [hw]; exact List.mem_cons_self))
    cases hn.symm.trans hn9
    exact ⟨meth, c, h1, h2, h3, h4, h5, h6⟩
  · intro p e s m args below meth c s₁ B hml hP _
    have hh0 : s₁.heap = s.heap := by rw [B.state]; rfl
    obtain ⟨t, a1, o, b1, b2, b3⟩ := body p e s m args below meth c s₁ B hml hP s₁ hh0 (Stand.of_body B)
    exact ⟨t, o, a1, b1, b2, b3⟩
theorem lo_k : Cond.classLink RL 13 nxN ∈ gd := gd_2 229 (by decide +kernel) rfl
/-- the call of the class's of: it returns, or what it throws is caught -/
theorem g_of {E : EN} {sa1 sa2 : Nat} {p1 what : Int32} {lo : List (Option Value)} {rest : List Value} (C : CX E cL_of RL 11) (hF : XE (eB E) sa1 sa2 (eS E)) (hd0 : dm 0 = true) (htab : (eC E).exceptionTable.toList = [⟨0, 10, 13, 13⟩]) (hM : MT3of (eG E) (eB E) (eL E) sa1 sa2 nP fl pa nu p1 what ad dm a b r) (hr : (rest.map fun v => v.category).sum ≤ 8) (hcs : 1 ≤ (eR E).cells ∧ 6 ≤ (eR E).slots)
    (kk : ofK nP p1 what = true → G E 1 6 ad dm a b r 8 lo (.int (ofS fl pa nu (cN p1) what) :: rest)) (kx : ofK nP p1 what = false → ∀ q9 : Nat, G E 1 6 ad dm a b r 13 lo [.ref q9]) : G E 0 0 ad dm a b r 5 lo (.int what :: .int p1 :: .ref (ad 0) :: rest) := fun H L ls hW hS hl T hT X => by
  obtain ⟨⟨w1, w2, w3, w4⟩, w5, w6, w7, T9, N9, w8⟩ := cv_L_7
  obtain ⟨hx, hb, hml, hown, hts, hK, hf, hlc⟩ := C
  have hat := (hW.2.1 0 hd0).2
  rw [ce_o (n := 0) (ci := 3) rfl] at hat
  obtain ⟨q', g0, cell, g1, g2, g3, -⟩ := hat
  have hrun := vx_runV (As := [.int p1, .int what]) (rest := rest) (b := ad 0) (C := yX3_of.cls) (locs := L) (g := F0 (eM E) 5 ls (.int what :: .int p1 :: .ref (ad 0) :: rest)) ⟨hx, hb, hml, hown, hts⟩ hM (cwV 2 hts (good_sub (by
    intro z hz
    unfold wsV at hz
    rcases List.mem_append.mp hz with hz | hz
    · simp at hz
      rcases hz with rfl | rfl | rfl | rfl
      · exact w5
      · exact w6
      · exact w7
      · exact w1
    · exact in_cons w2 z hz)) rfl rfl rfl ⟨rfl, w3⟩ (by constructor <;> dsimp only <;> omega)) ⟨PCX_blind XE_ok, ⟨cell, g1, by rw [g3]; rfl, by rw [g2]; exact (hK.1 3 _ w8).2.1⟩, fun U hU hWm => ⟨rfl, ⟨by rw [hU]; exact hW, va_K.moved hWm.alike hK⟩, XE_ok.1 _ _ L hWm (by rw [hU]; exact hS) hF⟩⟩ rfl rfl hl.1 rfl (lv_room hr) dL_of_5 (by rw [Nat.zero_add, Nat.zero_add]; exact hcs) T hT X
  rcases hrun with ⟨v, st₀, t, T', L', h0, X', hL, e1, e2, ⟨⟨v', ad', dm', a', b', r', hv, ⟨hK1, hv1, rfl, rfl, rfl, rfl, rfl⟩, hWt⟩, hz, hk⟩, st⟩ | ⟨q9, st₀, t, T', L', E', ce9, h0, X', hL, e1, e2, ⟨hE1, hK1, hWt, hz, hk⟩, hce, hcv, hcl, st⟩
  · cases hv
    subst hv1
    rw [h0] at hz hk
    obtain ⟨t2, a1, b1⟩ := kk hK1 T'.heap (L ++ L') ls (by rw [e1]; exact hWt) ⟨Nat.le_trans hS.1 (by rw [e1]; exact hz), fun q h1 h2 => by rw [e1, hk q (Nat.lt_of_lt_of_le h1 hS.1) h2]; exact hS.2.1 q h1 h2, fun q hq => by
        rcases List.mem_append.mp hq with h | h
        · exact hS.2.2 q h
        · exact hL q h⟩ hl T' rfl X'
    exact ⟨t2, st t2 a1, b1⟩
  · subst hE1
    rw [h0] at hz hk
    have hS2 : va_S (fun q => eB E ≤ q) (eS E).heap T'.heap (L ++ L') := ⟨Nat.le_trans hS.1 (by rw [e1]; exact hz), fun q h1 h2 => by rw [e1, hk q (Nat.lt_of_lt_of_le h1 hS.1) h2]; exact hS.2.1 q h1 h2, fun q hq => by
        rcases List.mem_append.mp hq with h | h
        · exact hS.2.2 q h
        · exact hL q h⟩
    have hcat := vx_catch (own := RL) (name := nxN) (E := nxN) (pc := 5) (ls := ls) (rest := rest) (Q := eQ E) hown [] ⟨0, 10, 13, 13⟩ [] htab (fun z hz => nomatch hz) rfl (by decide) (hts _ lo_k) (va_Nw.use rfl hF.2.2.2.2.2.1) (H := T'.heap) (by rw [e1]; exact hce) hcv hcl (kx hK1 q9 T'.heap (L ++ L') ls (by rw [e1]; exact hWt) hS2 hl)
    obtain ⟨t2, a1, b1⟩ := hcat T' rfl X'
    exact ⟨t2, st.trans a1, b1⟩
/-- the law's own of -/
def PLo (nP : Nat) (fl pa nu : Nat → Int32) (p1 what : Int32) (ad : Nat → Nat) (dm : Nat → Bool) (a : Nat → Nat → Int32) (b : Nat → Nat → Int64) (r : Nat → Nat → Option Nat) : PO := fun v ad0 dm0 a0 b0 r0 => ad0 = ad ∧ dm0 = dm ∧ a0 = a ∧ r0 = r ∧ ((ofK nP p1 what = true ∧ v = some (.int 0) ∧ b0 = u2 b 120 0 (ofS fl pa nu (cN p1) what).toInt64) ∨ (ofK nP p1 what = false ∧ v = some (.int 1) ∧ b0 = b))
def MTLo (g : GM) (bs : Nat) (l : Launch) (sa1 sa2 nP : Nat) (fl pa nu : Nat → Int32) (p1 what : Int32) (ad : Nat → Nat) (dm : Nat → Bool) (a : Nat → Nat → Int32) (b : Nat → Nat → Int64) (r : Nat → Nat → Option Nat) : Prop := Met l yL_of (.codeWith yL_of cL_of 5 (some .int) [(0, 10, 13, 13)] :: gd) { frames := 11, cells := 1, slots := 6, locals := 440 } (PCX (XE bs sa1 sa2) g bs [.ref (ad 0), .int p1, .int what, .ref (ad 120)] ad dm a b r) (QP g bs (PLo nP fl pa nu p1 what ad dm a b r)) 1 6 (fun q => bs ≤ q)
theorem lawof {E : EN} {sa1 sa2 : Nat} (hlt0 : l.stackTraces = false) (X : XR nF nP fl pa nu dm a r) (W : WP nF nP pa) (hd120 : dm 120 = true) (p1 what : Int32) (C : CX E cL_of RL 11) (RT9 : RT E 1 6 (some .int) (PLo nP fl pa nu p1 what ad dm a b r)) (hF : XE (eB E) sa1 sa2 (eS E)) (htab : (eC E).exceptionTable.toList = [⟨0, 10, 13, 13⟩]) (hR : (eR E).cells = 1 ∧ (eR E).slots = 6) (hL : eL E = l) (hN : eN E = 5) : G E 0 0 ad dm a b r 0 [some (.ref (ad 0)), some (.int p1), some (.int what), some (.ref (ad 120)), none] [] := by
  refine g_aload_3 (q := 1) C dL_of_0 rfl ?_
  refine g_iconst (v := 0) (q := 2) C dL_of_1 rfl (by decide) ?_
  refine g_aload_0 (q := 3) C dL_of_2 rfl ?_
  refine g_iload_1 (q := 4) C dL_of_3 rfl ?_
  refine g_iload_2 (q := 5) C dL_of_4 rfl ?_
  refine g_of C hF (X.1.d0 0 (by decide)) htab (m_X3_of (by rw [hL]; exact hlt0) X W p1 what) (Nat.le_of_ble_eq_true rfl) ⟨by rw [hR.1]; decide, by rw [hR.2]; decide⟩ (fun hk => ?_) (fun hk q9 => ?_)
  · refine g_i2l (q := 9) C dL_of_8 rfl ?_
    refine g_last (n := 120) (j := 0) (q := 10) C dL_of_9 rfl rfl hd120 (show _ = nI 0 from rfl) (by decide) (by decide) ?_
    refine g_goto (tgt := 17) C dL_of_10 (by decide) ?_
    refine g_iconst (v := 0) (q := 18) C dL_of_17 rfl (by decide) ?_
    exact g_iret C RT9 dL_of_18 ⟨rfl, rfl, rfl, rfl, Or.inl ⟨hk, rfl, rfl⟩⟩
  · refine g_astore_4 (q := 15) C dL_of_13 rfl (by rw [hN]; decide) rfl ?_
    refine g_iconst (v := 1) (q := 16) C dL_of_15 rfl (by decide) ?_
    exact g_iret C RT9 dL_of_16 ⟨rfl, rfl, rfl, rfl, Or.inr ⟨hk, rfl, rfl⟩⟩
set_option maxHeartbeats 4000000 in
theorem m_L_of {sa1 sa2 : Nat} (hlt : l.stackTraces = false) (X : XR nF nP fl pa nu dm a r) (W : WP nF nP pa) (hd120 : dm 120 = true) (p1 what : Int32) : MTLo g bs l sa1 sa2 nP fl pa nu p1 what ad dm a b r := by
  refine met_ofWH (cc := cL_of) (maxL := 5) (ret := some .int) (hh := [(0, 10, 13, 13)]) (by decide) rfl ?_
  intro p e s m args below meth c s₁ B9 hml hv
  obtain ⟨rfl, ⟨hW0, hK0⟩, hF0⟩ := hv
  have hts := atoms_spec (ws := .codeWith yL_of cL_of 5 (some .int) [(0, 10, 13, 13)] :: gd) B9.pre
  have htab0 := vx_table (x := yL_of) B9 (hts _ List.mem_cons_self)
  have C : CX (g, bs, (p, l, e, ({ frames := 11, cells := 1, slots := 6, locals := 440 } : Room), s, m, [Value.ref (ad 0), .int p1, .int what, .ref (ad 120)].toArray, below, meth, c), 5, MQ below (QP g bs (PLo nP fl pa nu p1 what ad dm a b r)) [Value.ref (ad 0), .int p1, .int what, .ref (ad 120)].toArray s 1 6 (fun q => bs ≤ q)) cL_of RL 11 := ⟨B9.exec, B9.bytes, hml, findClass_of_methodNamed B9.named, fun w hw => hts w (List.mem_cons_of_mem _ hw), hK0, Nat.le_refl _, Nat.le_refl _⟩
  have key := lawof hlt X W hd120 p1 what C ⟨rfl, B9.returns, B9.notSynchronized⟩ hF0 htab0 ⟨rfl, rfl⟩ rfl rfl
  have hl9 := lv_entry [Value.ref (ad 0), .int p1, .int what, .ref (ad 120)] (n := 5) (Nat.le_of_ble_eq_true rfl)
  rw [lg_entry_eq]
  exact key s.heap [] _ hW0 va_S.rf hl9
theorem lo_c : Cond.codeWith yL_of cL_of 5 (some .int) [(0, 10, 13, 13)] ∈ gd := gd_2 228 rfl rfl
theorem lo_i : Cond.initialized yL_of.cls ∈ gd := gd_1 0 (by decide +kernel) rfl
theorem lo_m : Cond.methodLink RL 42 yL_of ∈ gd := gd_2 226 (by decide +kernel) rfl
theorem lo_s : Cond.static yL_of ∈ gd := gd_2 227 (by decide +kernel) rfl
theorem lo_d : (yL_of.cls ≠ "java/lang/invoke/MethodHandle" ∧ yL_of.cls ≠ "java/lang/invoke/VarHandle") ∧ (parseMethodDescriptor yL_of.desc).map (fun d => d.parameters.length) = some 4 := by decide +kernel
theorem g_lof {E : EN} {sa1 sa2 cl sl pc : Nat} {p1 what : Int32} {lo : List (Option Value)} (C : CX E cL_law RL 100) (hF : XE (eB E) sa1 sa2 (eS E)) (hM : MTLo (eG E) (eB E) (eL E) sa1 sa2 nP fl pa nu p1 what ad dm a b r) (d : decode cL_law pc = .ok (.invokestatic 42, 3)) (hcs : cl + 1 ≤ (eR E).cells ∧ sl + 6 ≤ (eR E).slots)
    (kk : ∀ v ad' dm' a' b' r', PLo nP fl pa nu p1 what ad dm a b r v ad' dm' a' b' r' → G E (cl + 1) (sl + 6) ad' dm' a' b' r' (pc + 3) lo v.toList) : G E cl sl ad dm a b r pc lo [.ref (ad 120), .int what, .int p1, .ref (ad 0)] := by
  obtain ⟨hx, hb, hml, hown, hts, hK, hf, hlc⟩ := C
  refine g_backS (x := [Value.ref (ad 0), .int p1, .int what, .ref (ad 120)].toArray) (rest := []) (P := PLo nP fl pa nu p1 what ad dm a b r) (fun H L ls hW hS hl' => ?_) rfl (fun v ad' dm' a' b' r' h => by rw [List.append_nil]; exact kk v ad' dm' a' b' r' h)
  have hr9 : (([] : List Value).map fun v => v.category).sum ≤ 8 := Nat.le_of_ble_eq_true rfl
  exact vx_runSW (hh := [(0, 10, 13, 13)]) (As := [Value.ref (ad 0), .int p1, .int what, .ref (ad 120)]) (rest := []) (n := 4) ⟨hx, hb, hml, hown, hts⟩ hM ⟨⟨rfl, rfl, by dsimp only; omega, by dsimp only; omega, pay_in hts (good_sub (in_cons lo_c)), List.mem_cons_self⟩, hts _ lo_c, hts _ lo_i, lo_d.1, fun sig h => by have h2 := lo_d.2; rw [h] at h2; exact (Option.some.inj h2).symm, hts _ lo_m, hts _ lo_s⟩ ⟨PCX_blind XE_ok, fun U hU hWm => ⟨rfl, ⟨by rw [hU]; exact hW, va_K.moved hWm.alike hK⟩, XE_ok.1 _ _ L hWm (by rw [hU]; exact hS) hF⟩⟩ rfl rfl hl'.1 rfl (lv_room hr9) d hcs
end L57
