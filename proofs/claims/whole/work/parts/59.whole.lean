/-! THE CLAIM OUT OF ONE WALK OF THE LAW'S BODY. As the skeleton has it, but for the launch without stack traces, which is handed down to the walk. -/
def R_law : String := "TooManyLaw"
def lw_P (b : Addr) (xs : List Int32) (args : Array Value) (s : State) : Prop := args = #[.ref b] ∧ s.IntsAt b xs ∧ xs.length ≤ 3584 ∧ (Jvm.Cond.and given_1 narrow_1).before args s = true
def lw_Q (_ : Array Value) (s : State) (o : Outcome) (t : State) : Prop := o = .returned (some (.int 1)) ∧ Framed s o t [] 601024 7293034
def lw_Z (below : List Frame) (a : Array Value) (s : State) : State → Prop := fun t => ∃ o, t.status = .running ∧ Ended t below o ∧ lw_Q a s o t
/-- the law's own end, with 1 on the stack, nothing written that was there before, its room as the claim has it -/
theorem lw_ret {p : Program} {l : Launch} {e : Env} {s : State} {m : MethodId} {below : List Frame} {meth : Method} {c : Code} {b : Nat} (hx : p.tables.exec = Jvm.exec) (hb : c.code = code) (hr : meth.sig.returnType = ret) (hlocks : meth.locks = false) {pc : Nat} {H : Heap} {ls : Array Slot} (hdg : decode code pc = .ok (.ireturn, 1)) : W p l e room_1 s m #[Value.ref b] below meth c H [] 601024 7293034 (lw_Z below #[Value.ref b] s) (F0 m pc ls [.int 1]) := by
  intro T hT X
  obtain ⟨fs, hret, hrun, hended, hW, hframe⟩ := X.leave (v := some (.int 1)) (hlocks := hlocks) (fun h => by rw [hr] at h; cases h)
  have hmeth' : T.vm.method? m = some meth := X.method'
  refine ⟨T.setFrames fs, ?_, .returned (some (.int 1)), hrun, hended, rfl, ⟨_, rfl⟩, hW, hframe⟩
  jvm_step X.here [X.here.top, hx, hb, hdg, hmeth', hr, ret, narrow_b1]
  (try refine ⟨rfl, ?_⟩); (try refine ⟨rfl, ?_⟩)
  first | (intro acts; rw [hret _ acts rfl rfl rfl]) | rw [hret _ _ rfl rfl rfl]
  exact Steps.refl _
/-- what holds at the law's entry: the machine, the code, the tables' words (any of lw_tbl by 'hts w (by decide +kernel)'), the script of L ints xs at the cell b, what the Statement gives of the start (any of its parts by flat_of_before) -/
def lw_At (p : Program) (s : State) (m : MethodId) (meth : Method) (c : Code) (b L : Nat) (xs : Nat → Int32) : Prop :=
  p.tables.exec = Jvm.exec ∧ c.code = code ∧ meth.sig.returnType = ret ∧ c.maxLocals = 7 ∧ s.vm.findClass R_law = some m.cls ∧ (∀ w ∈ lw_tbl, w.before #[Value.ref b] s = true) ∧ va_X b L xs s s.heap ∧ b < s.heap.size ∧ meth.locks = false ∧ (Jvm.Cond.and given_1 narrow_1).before #[Value.ref b] s = true

section L59
theorem t1w {w : Cond} (i : Nat) (h : tables_1_1[i]? = some w) : w ∈ lw_tbl := List.mem_append_right _ (List.mem_append_left _ (List.mem_of_getElem? h))
theorem t2w {w : Cond} (i : Nat) (h : tables_1_2[i]? = some w) : w ∈ lw_tbl := List.mem_append_right _ (List.mem_append_right _ (List.mem_append_left _ (List.mem_of_getElem? h)))
theorem t3w {w : Cond} (i : Nat) (h : tables_1_3[i]? = some w) : w ∈ lw_tbl := List.mem_append_right _ (List.mem_append_right _ (List.mem_append_right _ (List.mem_append_left _ (List.mem_of_getElem? h))))
/-- the world's fixed part, out of the tables -/
theorem st_K {s : State} {A : Array Value} (hts : ∀ w ∈ lw_tbl, w.before A s = true) : ∃ g : GM, gOK g ∧ va_K g.1 vwCl (tysG g) s := by
  have htg : ∀ w ∈ gd, w.before A s = true := fun w hw => hts w (List.mem_filter.mp hw).1
  obtain ⟨c0, i0, k0⟩ := u_known (n := 9) htg in_X0 (htg _ nw_X0.2.1)
  obtain ⟨c1, i1, k1⟩ := u_known (n := 13) htg in_X1 (htg _ nw_X1.2.1)
  obtain ⟨c2, i2, k2⟩ := u_known (n := 9) htg in_X2 (htg _ nw_X2.2.1)
  obtain ⟨c3, i3, k3⟩ := u_known (n := 8) htg in_X3 (htg _ nw_X3.2.1)
  obtain ⟨c4, i4, k4⟩ := u_known (n := 20) htg in_X4 (htg _ nw_X4.2.1)
  obtain ⟨cI, kI, pI, aI1, aI2, aI3⟩ := Cond.arrayClass_spec (htg _ ac_I)
  obtain ⟨cJ, kJ, pJ, aJ1, aJ2, aJ3⟩ := Cond.arrayClass_spec (htg _ ac_J)
  obtain ⟨pF, cF, kF, f1, -, f2, f3, f4⟩ := Cond.arrayOver_spec (hts _ (t1w (w := .arrayOver (.object RX0)) 20 (by decide +kernel)))
  obtain ⟨pP, cP, kP, q1, -, q2, q3, q4⟩ := Cond.arrayOver_spec (hts _ (t1w (w := .arrayOver (.object RX2)) 22 (by decide +kernel)))
  refine ⟨((fun c => match c with | 0 => c0 | 1 => c1 | 2 => c2 | 3 => c3 | 4 => c4 | 5 => c1 | 6 => c3 | _ => c4, fun c => match c with | 0 => i0 | 1 => i1 | 2 => i2 | 3 => i3 | 4 => i4 | 5 => i1 | 6 => i3 | _ => i4), cI, cJ, cF, cP), ⟨rfl, rfl, rfl, rfl, rfl, rfl⟩, fun c q hq => ?_, fun k q hq => ?_⟩
  · match c, hq with
    | 0, hq => cases hq; exact k0
    | 1, hq => cases hq; exact k1
    | 2, hq => cases hq; exact k2
    | 3, hq => cases hq; exact k3
    | 4, hq => cases hq; exact k4
    | 5, hq => cases hq; exact k1
    | 6, hq => cases hq; exact k3
    | 7, hq => cases hq; exact k4
    | n + 8, hq => cases hq
  · match k, hq with
    | 0, hq => cases hq; exact ⟨fun n z => ⟨fun k h => (by cases h), kI, aI2, pI, aI3⟩, aI1⟩
    | 1, hq => cases hq; exact ⟨fun n z => ⟨fun k h => (by cases h), kJ, aJ2, pJ, aJ3⟩, aJ1⟩
    | 2, hq => cases hq; exact ⟨fun n z => ⟨fun k h => (by cases h), kF, f2, pF, f3⟩, kF, pF, f2, f3, f1, f4⟩
    | 3, hq => cases hq; exact ⟨fun n z => ⟨fun k h => (by cases h), kP, q2, pP, q3⟩, kP, pP, q2, q3, q1, q4⟩
    | n + 4, hq => cases hq
theorem st_XK {s : State} {A : Array Value} (hts : ∀ w ∈ lw_tbl, w.before A s = true) : XK s := ⟨va_AO.of (hts _ (t1w (w := .arrayOver (.object RX0)) 20 (by decide +kernel))), va_AO.of (hts _ (t1w (w := .arrayOver (.object RX2)) 22 (by decide +kernel))), va_Nw.of rfl (hts _ (t1w (w := .methodLinkNest RX3 31 yX1_init "TooMany") 25 (by decide +kernel)))⟩
theorem st_XE {s : State} {A : Array Value} (hts : ∀ w ∈ lw_tbl, w.before A s = true) (hgv : (Jvm.Cond.and given_1 narrow_1).before A s = true) : ∃ sa1 sa2, XE s.heap.size sa1 sa2 s := by
  have htg : ∀ w ∈ gd, w.before A s = true := fun w hw => hts w (List.mem_filter.mp hw).1
  have hs := flat_of_before _ hgv
  have hA : ∀ a : Nat, a < s.heap.size → ¬ s.heap.size ≤ a := fun a h1 h2 => Nat.not_le.mpr h1 h2
  have r1 := hts _ (t3w (w := .stringRef RX3 87 "no such party") 33 (by decide +kernel))
  have r2 := hts _ (t3w (w := .stringRef RX3 125 "no such question") 63 (by decide +kernel))
  obtain ⟨c3, kC, hfc, -⟩ := Cond.instantiable_spec (htg _ nw_X3.2.1)
  obtain ⟨-, -, -, sa1, -, -, -, -, -, v1⟩ := Cond.stringRef_spec hfc r1
  obtain ⟨-, -, -, sa2, -, -, -, -, -, v2⟩ := Cond.stringRef_spec hfc r2
  refine ⟨sa1, sa2, vk_R.of r1 v1, vk_R.of r2 v2, va_Nw.of rfl (hts _ (t2w (w := .declares (Bundle.initS nxR)) 238 (by decide +kernel))), va_Nw.of rfl (hts _ (t3w (w := .declares (Bundle.initS "java/lang/Exception")) 0 (by decide +kernel))), va_Nw.of rfl (hts _ (t3w (w := .declares (Bundle.initS Bundle.tN)) 2 (by decide +kernel))), va_Nw.of rfl (hts _ (t2w (w := .castable nxN nxN) 236 (by decide +kernel))), vx_Zqof (hts _ (t3w (w := .laysStatic Bundle.tN "UNASSIGNED_STACK" Bundle.steD) 21 (by decide +kernel))) (hts _ (t1w (w := .initialized Bundle.tN) 7 (by decide +kernel))) (hs (.isRef (.static Bundle.tN "UNASSIGNED_STACK" Bundle.steD)) (by decide +kernel)) hA, vx_Zqof (hts _ (t3w (w := .laysStatic Bundle.tN "SUPPRESSED_SENTINEL" Bundle.listD) 23 (by decide +kernel))) (hts _ (t1w (w := .initialized Bundle.tN) 7 (by decide +kernel))) (hs (.isRef (.static Bundle.tN "SUPPRESSED_SENTINEL" Bundle.listD)) (by decide +kernel)) hA⟩
abbrev aF : Nat → Nat → Int32 := (mvN (u2 (u2 (u2 (u2 (mvN (u2 (u2 (u2 (mvN (u2 (u2 (u2 (u2 zA 3 0 250) 3 1 400) 3 2 600) 18 12 0) 0 18 5) 17 5 0) 17 6 0) 17 7 45) 0 17 0) 103 0 45) 103 1 250) 103 2 400) 103 3 600) 0 19 100)
abbrev dF9 : Nat → Bool := dmS [120, 100, 114, 113, 112, 111, 110, 109, 108, 107, 106, 105, 104, 103, 102, 101, 0, 5, 16, 15, 14, 13, 12, 11, 10, 9, 8, 7, 6, 4, 3, 2, 1]
theorem st_LV : LV 0 0 (aF 101) (aF 102) (aF 103) dF9 aF zR := by
  refine ⟨⟨⟨by decide, by decide, by decide, fun i hi => absurd hi (Nat.not_lt_zero _), fun i hi => absurd hi (Nat.not_lt_zero _)⟩, by decide, by decide, by decide, by decide, fun i hi => absurd hi (Nat.not_lt_zero _), fun i hi => absurd hi (Nat.not_lt_zero _)⟩, ⟨fun n n1 n2 => ?_, by decide, by decide, by decide, by decide⟩, ⟨rfl, rfl, rfl⟩, ⟨fun i hi => absurd hi (Nat.not_lt_zero _), fun i hi => absurd hi (Nat.not_lt_zero _), ⟨45, by decide, by decide⟩, fun k hk => ?_⟩, fun i k m e => (by cases e), fun i _ hi => ?_, fun j _ hj => ?_, by decide, by decide, by decide⟩
  · exact (show ∀ n, n < 115 → 100 ≤ n → dF9 n = true by decide) n n2 n1
  · match k, hk with
    | 0, _ => exact ⟨250, by decide, by decide⟩
    | 1, _ => exact ⟨400, by decide, by decide⟩
    | 2, _ => exact ⟨600, by decide, by decide⟩
  · exact (show ∀ i, i < 10 → dF9 (20 + i) = false by decide) i hi
  · exact (show ∀ j, j < 70 → dF9 (30 + j) = false by decide) j hj
set_option maxHeartbeats 4000000 in
set_option maxRecDepth 100000 in
theorem law_start {E : EN} {bb L sa1 sa2 : Nat} {xs : Nat → Int32} {ad : Nat → Nat} (hgo : gOK (eG E)) (hK9 : XK (eS E)) (hlt : (eL E).stackTraces = false) (hF : XE (eB E) sa1 sa2 (eS E)) (LW : LX E bb L xs) (hend : ∀ (cl sl : Nat) (ad : Nat → Nat) (dm : Nat → Bool) (a : Nat → Nat → Int32) (b : Nat → Nat → Int64) (r : Nat → Nat → Option Nat) (lo : List (Option Value)), cl ≤ 601024 → sl ≤ 7293034 → G E cl sl ad dm a b r 760 lo [.int 1]) : G E 0 0 ad (dmS []) zA zB zR 0 [some (.ref bb), none, none, none, none, none, none] [] := by
  obtain ⟨C, -, -, -, hRc, hRs, hL, hN⟩ := id LW
  refine m_newo (n := 17) (ci := 6) (ty := tyX3) (q := 3) C dL_law_0 rfl rfl in_X3 tyX3_ok nw_X3 rfl (by decide) nr_0 ⟨rfl, rfl, rfl⟩ dz_X3 (by decide) ⟨by rw [hRc]; decide, by rw [hRs]; decide⟩ (fun ad1 h1 => ?_)
  refine g_dup (q := 4) C dL_law_3 rfl rfl ?_
  refine g_callIX (q := 7) (lev' := 2) (mc := 16) (ms := 496) C XK_ok hK9 ci_L_15 (m_X3_init hgo) (by decide) dL_law_4 rfl rfl rfl (Nat.le_of_ble_eq_true rfl) ⟨by rw [hRc]; decide, by rw [hRs]; decide⟩ (fun v ad2 dm2 a2 b2 r2 hp => ?_)
  obtain ⟨rfl, e17, rfl, rfl, rfl, rfl⟩ := hp
  change G E _ _ ad2 _ _ _ _ 7 _ [.ref (ad1 17)]
  rw [← e17]
  refine m_name (n := 17) (m := 0) (ci := 6) (cj := 3) (a' := (mvN (u2 (u2 (u2 (mvN (u2 (u2 (u2 (u2 zA 3 0 250) 3 1 400) 3 2 600) 18 12 0) 0 18 5) 17 5 0) 17 6 0) 17 7 45) 0 17 0)) (b' := (mvN (mvN (u2 zB 18 11 0) 0 18 5) 0 17 0)) (r' := zR) (by decide) (by decide) rfl rfl rfl hgo.2.2.1 hgo.2.2.2.1 (by decide) (by repeat (first | exact nr_0 | refine nr_u2 ?_ (by decide))) rfl (fun i i1 i2 => ⟨by unfold mvN; rw [if_neg i2, if_neg i1], by unfold mvN; rw [if_neg i2, if_neg i1], by repeat rw [u2_n i1]⟩) ?_
  have e0 : va_up ad2 0 (ad2 17) 0 = ad2 17 := va_up_self _ _ _
  generalize va_up ad2 0 (ad2 17) = ad3 at e0
  rw [← e0]
  refine g_astore_1 (q := 8) C dL_law_7 rfl (by rw [hN]; decide) rfl ?_
  refine m_newo (n := 19) (ci := 7) (ty := tyX4) (q := 11) C dL_law_8 rfl rfl in_X4 tyX4_ok nw_X4 rfl (by decide) nr_0 ⟨rfl, rfl, rfl⟩ dz_X4 (by decide) ⟨by rw [hRc]; decide, by rw [hRs]; decide⟩ (fun ad4 h4 => ?_)
  rw [← h4 0 (by decide)]
  refine g_dup (q := 12) C dL_law_11 rfl rfl ?_
  refine g_callIX (q := 15) (lev' := 1) (mc := 14) (ms := 1392) C XK_ok hK9 ci_L_18 m_X4_init (by decide) dL_law_12 rfl rfl rfl (Nat.le_of_ble_eq_true rfl) ⟨by rw [hRc]; decide, by rw [hRs]; decide⟩ (fun v ad5 dm5 a5 b5 r5 hp => ?_)
  obtain ⟨rfl, e5, rfl, rfl, rfl, rfl⟩ := hp
  change G E _ _ ad5 _ _ _ _ 15 _ [.ref (ad4 19)]
  rw [← e5 19 (by decide), ← e5 0 (by decide)]
  refine m_name (n := 19) (m := 100) (ci := 7) (cj := 4) (a' := aF) (b' := (mvN (mvN (mvN (u2 zB 18 11 0) 0 18 5) 0 17 0) 0 19 100)) (r' := zR) (by decide) (by decide) rfl rfl rfl hgo.2.2.2.2.1 hgo.2.2.2.2.2 (by decide) (by repeat (first | exact nr_0 | refine nr_u2 ?_ (by decide))) rfl (fun i i1 i2 => ⟨by unfold aF mvN; rw [if_neg i2, if_neg i1], by unfold mvN; rw [if_neg i2, if_neg i1], by repeat rw [u2_n i1]⟩) ?_
  have e6 : va_up ad5 100 (ad5 19) 100 = ad5 19 := va_up_self _ _ _
  have e7 : va_up ad5 100 (ad5 19) 0 = ad5 0 := va_up_ne _ _ (by decide)
  generalize va_up ad5 100 (ad5 19) = ad6 at e6 e7
  rw [← e6, ← e7]
  refine g_astore_2 (q := 16) C dL_law_15 rfl (by rw [hN]; decide) rfl ?_
  refine g_iconst (v := 1) (q := 17) C dL_law_16 rfl (by decide) ?_
  refine m_newl (n := 120) (q := 19) C dL_law_17 rfl rfl (by decide) nr_0 rfl rfl (by decide) ⟨by rw [hRc]; decide, by rw [hRs]; decide⟩ (fun ad7 h7 => ?_)
  rw [← h7 0 (by decide), ← h7 100 (by decide)]
  refine g_astore_3 (q := 20) C dL_law_19 rfl (by rw [hN]; decide) rfl ?_
  refine g_iconst (v := 0) (q := 21) C dL_law_20 rfl (by decide) ?_
  refine g_istore_4 (q := 23) C dL_law_21 rfl (by rw [hN]; decide) rfl ?_
  refine g_wide (cl' := 100 + 2 * 0) (sl' := 3000 + 18 * 0) (by decide) (by decide) ?_
  exact law_loop hlt hF LW hend L 0 ad7 _ _ _ _ none none (by omega) (by omega) ⟨0, 0, _, _, _, st_LV⟩
/-- from the entry, for every script of at most 3584 ints, the law comes to its end with true -/
theorem whole_start {p : Program} {e : Env} {s : State} {m : MethodId} {below : List Frame} {meth : Method} {c : Code} (l : Launch) (hlt : l.stackTraces = false) {b L : Nat} {xs : Nat → Int32} (hL : L ≤ 3584) (C0 : lw_At p s m meth c b L xs) : W p l e room_1 s m #[Value.ref b] below meth c s.heap [] 0 0 (lw_Z below #[Value.ref b] s) (entryFrame m ([Value.ref b] : List Value).toArray 7) := by
  obtain ⟨hx, hb, hr, hml, hown, hts, hX, hbl, hlk, hgv⟩ := C0
  obtain ⟨g, hgo, hK⟩ := st_K hts
  obtain ⟨sa1, sa2, hE⟩ := st_XE hts hgv
  have htg : ∀ w ∈ gd, w.before #[Value.ref b] s = true := fun w hw => hts w (List.mem_filter.mp hw).1
  have LW : LX (g, s.heap.size, (p, l, e, room_1, s, m, #[Value.ref b], below, meth, c), 7, lw_Z below #[Value.ref b] s) b L xs := ⟨⟨hx, hb, hml, hown, htg, hK, (show 100 ≤ 2048 by decide), (show 40 * 100 ≤ 84000 by decide)⟩, hX, hbl, hbl, rfl, rfl, hL, rfl⟩
  have key := law_start (ad := fun _ => 0) hgo (st_XK hts) hlt hE LW (fun cl sl ad dm a b9 r lo h1 h2 H L9 ls hW hS hl => W.widen h1 h2 (va_forget hS.2.2 (lw_ret hx hb hr hlk dL_law_760)))
  have hl9 := lv_entry [Value.ref b] (n := 7) (Nat.le_of_ble_eq_true rfl)
  rw [lg_entry_eq]
  exact key s.heap [] _ ⟨Nat.le_refl _, fun n hn => (by cases hn), fun n k hn => (by cases hn)⟩ va_S.rf hl9
end L59

set_option maxHeartbeats 4000000 in
theorem lw_walk (l : Launch) (hlt : l.stackTraces = false) (b : Addr) (xs : List Int32) : MetFree l x (headSpec (Jvm.Cond.code x code maxLocals ret :: tables_1) room_1) (lw_P b xs) (fun _ _ _ _ _ => True) lw_Q := by
  refine MetFree.of_bodyS (code := code) (maxLocals := maxLocals) (ret := ret) (by decide) ?_ ?_
  · intro args s m h hn
    obtain ⟨meth, c, h1, h2, h3, h4, h5, h6, -, -⟩ := Cond.code_spec hn (atoms_spec (ws := Jvm.Cond.code x code maxLocals ret :: tables_1) h _ List.mem_cons_self)
    exact ⟨meth, c, h1, h2, h3, h4, h5, h6⟩
  · intro p e s m args below meth c s₁ B hml0 hP _
    obtain ⟨rfl, hx, hbd, hgv⟩ := hP
    obtain ⟨scr, harrAt, hlist, hof, hsmall⟩ := hx
    obtain ⟨hcb, hkn, -, -⟩ := State.arrayAt?_spec harrAt
    have hown : s.vm.findClass R_law = some m.cls := findClass_of_methodNamed B.named
    have hts0 : ∀ c ∈ (Jvm.Cond.code x code maxLocals ret :: tables_1), c.before #[Value.ref b] s = true := atoms_spec (ws := Jvm.Cond.code x code maxLocals ret :: tables_1) B.pre
    have hts : ∀ w ∈ lw_tbl, w.before #[Value.ref b] s = true := k2_hts_sels lw_privs (fun w hw => hts0 w (List.mem_cons_of_mem _ hw)) lw_privs_ok
    have hml : c.maxLocals = 7 := B.maxLocals_eq (hts0 _ List.mem_cons_self)
    have X₀ : Stand p l e room_1 s m #[Value.ref b] below meth c s₁ [] 0 0 := Stand.of_body B
    have hh0 : s₁.heap = s.heap := by rw [B.state]; rfl
    have hsz : scr.slots.size = xs.length := by rw [← Array.length_toList, hlist, List.length_map]
    have hval : ∀ j : Nat, j < xs.length → scr.slots[j]? = some (.int (xs.getD j 0)) := fun j hj => by
      rw [← Array.getElem?_toList, hlist]
      simp [hj]
    have hbl : b < s.heap.size := (Array.getElem?_eq_some_iff.mp hcb).1
    have hX : va_X b xs.length (fun j => xs.getD j 0) s s.heap := ⟨scr, hcb, hof, hkn, hsz, hval⟩
    have K : W p l e room_1 s m #[Value.ref b] below meth c s₁.heap [] 0 0 (lw_Z below #[Value.ref b] s) (entryFrame m ([Value.ref b] : List Value).toArray 7) := by
      rw [hh0]
      exact whole_start l hlt hbd ⟨B.exec, B.bytes, B.returns, hml, hown, hts, hX, hbl, B.notSynchronized, hgv⟩
    obtain ⟨t, a1, o, b1, b2, b3⟩ := K s₁ rfl X₀
    exact ⟨t, o, a1, b1, b2, b3⟩
theorem lw_pre_spec {args : Array Value} {s : State} (h : (Jvm.Cond.and given_1 narrow_1).before args s = true) (hr : rest_1_c.before args s = true) : ∃ (b : Addr) (xs : List Int32), lw_P b xs args s := by
  have hs := flat_of_before _ h
  have hq := flat_of_before _ hr
  have hc : (Cond.count 1).before args s = true := hs _ (by decide +kernel)
  have harr : (Cond.arrayOf (.arg 0) .int).before args s = true := hs _ (by decide +kernel)
  have hle : (Cond.le (.length (.arg 0)) (.int 3584)).before args s = true := hs _ (by decide +kernel)
  have hlen : (Cond.isInt (.length (.arg 0))).before args s = true := hq _ (by decide +kernel)
  have hall : (Cond.all (.arg 0) (.isInt (.elem (.arg 0) (.index 0)))).before args s = true := hq _ (by decide +kernel)
  obtain ⟨b, xs, hb, hx⟩ := State.ints_of_pre rfl harr hlen hall
  have hsm : xs.length < 2 ^ 31 := hx.choose_spec.2.2.2
  have hev : (Term.length (.arg 0)).eval args s none [] s = some (.int xs.length.toInt32) := hx.length_eval hb
  have hv := Cond.le_ints hev (show (Term.int 3584).eval args s none [] s = some (.int 3584) from rfl)
  have hd : xs.length.toInt32 ≤ 3584 := by
    simpa [Cond.before, Cond.holds, hv] using hle
  have hN : xs.length ≤ 3584 := (Int32.ofNat_le_ofNat hsm (by decide)).mp (show Int32.ofNat xs.length ≤ Int32.ofNat 3584 from hd)
  exact ⟨b, xs, Cond.one_arg hc (show args[0]? = some (.ref b) from hb), hx, hN, h⟩
theorem lw_comes (l : Launch) (hlt : l.stackTraces = false) : Comes l x (Jvm.Cond.code x code maxLocals ret :: tables_1) room_1 (fun tb e args s => Calls_1 tb e args s ∧ rest_1 tb e args s ∧ Pre_1 tb e args s)
    (fun _ _ args s o t => lw_Q args s o t) := by
  intro p e ha hc hk s m args below hf hfit hheap happ hpre
  obtain ⟨b, xs, hP⟩ := lw_pre_spec hpre.2.2 hpre.2.1
  obtain ⟨k, o, h1, h2, h3, hQ⟩ := lw_walk l hlt b xs p e ha hc hk s m args below hf ((Spec.applies_iff_loose hf).mp happ).1 hP trivial
  exact ⟨k, o, h1, h2, h3, hQ⟩
theorem lw_frame {s t : State} {o : Outcome} {args : Array Value} (h : Framed s o t [] 601024 7293034) :
    Framed s o t (fieldLocs frame_1_writes args s ++ arrayLocs frame_1_arrays args s ++ staticLocs frame_1_statics s) 601024 7293034 := h
theorem lw_limb (L : Cond) (hL : ∀ (args : Array Value) (s t : State), L.after args s (.returned (some (.int 1))) t = true) :
    ArmFor flags0 classFile x code maxLocals ret World_1 tables_1 room_1 Calls_1 rest_1 Pre_1
      (fun tb e a s o t => postC L tb e a s o t ∧ Framed s o t (fieldLocs frame_1_writes a s ++ arrayLocs frame_1_arrays a s ++ staticLocs frame_1_statics s) 601024 7293034) := by
  intro l hl1 hl2 hl3 p e ha hc hk s m args below hf hfit hheap happ hpre
  have hlt : l.stackTraces = false := by
    first
    | (unfold Launch.stackTraces; rw [hl1]; decide)
    | (unfold Launch.stackTraces; rw [hl2]; decide)
    | (unfold Launch.stackTraces; rw [hl3]; decide)
  obtain ⟨k, o, h1, h2, h3, rfl, hF⟩ := lw_comes l hlt p e ha hc hk s m args below hf hfit hheap happ hpre
  exact ⟨k, _, h1, h2, h3, hL args s _, lw_frame hF⟩
theorem i_vc : Claimed_1_1 ∧ Claimed_1_2 := ⟨lw_limb limb_1_1 (fun args s t => by simp [limb_1_1, Cond.after, Cond.holds, Cond.value]), lw_limb limb_1_2 (fun args s t => Cond.after_iff.mpr (by
  first | (rw [show limb_1_2 = Cond.eq .result (.int 1) from rfl, Cond.eq_ints (x := 1) (y := 1) rfl rfl]; simp; done) | (simp [limb_1_2, Cond.value, Term.eval]; done)))⟩

