/-! making: the three objects and their rows; 5, 6, 7 are the classes while they are made -/
section N49
variable {E : EN} {cc : ByteArray} {own : String} {lev cl sl : Nat} {ad : Nat → Nat} {dm : Nat → Bool} {a : Nat → Nat → Int32} {b : Nat → Nat → Int64} {r : Nat → Nat → Option Nat} {pc q : Nat} {lo : List (Option Value)} {rest : List Value}
def dmS (S : List Nat) : Nat → Bool := fun n => S.contains n
def okN (n i : Nat) : Bool := match ly i with
  | .inl ci => !(kds ci).contains (n + 3)
  | .inr _ => true
def nwS (S : List Nat) (n : Nat) : Bool := !S.contains n && S.all (okN n)
theorem dmS_up {S : List Nat} {n : Nat} : va_up (dmS S) n true = dmS (n :: S) := by
  funext i
  by_cases e : i = n
  · subst e
    rw [va_up_self]
    simp [dmS]
  · rw [va_up_ne _ _ e]
    simp [dmS, e]
theorem nwS_1 {S : List Nat} {n : Nat} (h : nwS S n = true) : dmS S n = false := by
  unfold nwS at h
  rw [Bool.and_eq_true] at h
  cases h9 : dmS S n with
  | false => rfl
  | true =>
    unfold dmS at h9
    rw [h9] at h
    exact absurd h.1 (by decide)
theorem nwS_2 {S : List Nat} {n i ci : Nat} (h : nwS S n = true) (hi : dmS S i = true) (hl : ly i = .inl ci) : n + 3 ∉ kds ci := by
  unfold nwS at h
  rw [Bool.and_eq_true] at h
  have h1 := List.all_eq_true.mp h.2 i (by unfold dmS at hi; exact List.contains_iff_mem.mp hi)
  unfold okN at h1
  rw [hl] at h1
  intro hm
  have : (kds ci).contains (n + 3) = true := List.contains_iff_mem.mpr hm
  dsimp only at h1
  rw [this] at h1
  cases h1
theorem nr_0 {dm : Nat → Bool} {n : Nat} : noref (fun _ _ => none) dm n := fun i k _ e => by cases e
theorem nr_u2 {r : Nat → Nat → Option Nat} {dm : Nat → Bool} {n i k : Nat} {v : Option Nat} (h : noref r dm n) (hv : v ≠ some n) : noref (u2 r i k v) dm n := fun i' k' hd e => by
  unfold u2 at e
  split at e
  · split at e
    · exact hv e
    · exact h _ _ hd e
  · exact h _ _ hd e
/-- one cell more, of a name that none of those that are there has in a place for ever -/
theorem Wd.new2 {g : GM} {bs : Nat} {H H1 : Heap} {n : Nat} (h : Wd g bs ad dm a b r H) (hn : dm n = false) (hz : H1.size = H.size + 1) (ho : ∀ q, q < H.size → H1[q]? = H[q]?) (hk : ∀ i ci, dm i = true → ly i = .inl ci → n + 3 ∉ kds ci) (hr : noref r dm n)
    (hc : va_at g.1 vwCl (H.size, ce g (va_up ad n H.size) a b r n) H1) : Wd g bs (va_up ad n H.size) (va_up dm n true) a b r H1 := by
  have hlt : ∀ i, dm i = true → ad i < H.size := fun i hi => (h.2.1 i hi).2.lt
  refine ⟨by rw [hz]; have := h.1; omega, fun i hi => ?_, fun i j hi hj e => ?_⟩
  · by_cases e : i = n
    · subst e
      rw [va_up_self]
      exact ⟨h.1, hc⟩
    · rw [va_up_ne _ _ e] at hi ⊢
      refine ⟨(h.2.1 i hi).1, ?_⟩
      rw [ce_ad (n := n) (ad := ad) (fun ci hl => hk i ci hi hl) (fun k => hr i k hi) (fun m hm => va_up_ne _ _ hm)]
      exact (h.2.1 i hi).2.kept (ho _ (hlt i hi))
  · by_cases ei : i = n
    · subst ei
      by_cases ej : j = i
      · exact ej.symm
      · rw [va_up_self, va_up_ne _ _ ej] at e
        rw [va_up_ne _ _ ej] at hj
        have := hlt j hj
        omega
    · rw [va_up_ne _ _ ei] at hi e
      by_cases ej : j = n
      · subst ej
        rw [va_up_self] at e
        have := hlt i hi
        omega
      · rw [va_up_ne _ _ ej] at hj e
        exact h.2.2 i j hi hj e
theorem m_newi {S : List Nat} {n N : Nat} {v : Int32} (C : CX E cc own lev) (d : decode cc pc = .ok (.newarray .int, 2)) (hq : pc + 2 = q) (hl : ly n = .inr (0, N)) (hS9 : nwS S n = true) (hr : noref r (dmS S) n) (ha : a n = fun _ => 0) (hv : v = nI N) (hN : N < 1000) (hc : cl + 1 ≤ (eR E).cells ∧ sl + N ≤ (eR E).slots)
    (kk : ∀ ad' : Nat → Nat, (∀ m, m ≠ n → ad' m = ad m) → G E (cl + 1) (sl + N) ad' (dmS (n :: S)) a b r q lo (.ref (ad' n) :: rest)) : G E cl sl ad (dmS S) a b r pc lo (.int v :: rest) := fun H L ls hW hS hl' => by
  subst hq
  subst hv
  obtain ⟨hx, hb, hml, hown, hts, hK, hf, hlc⟩ := C
  refine va_newaK (atype := .int) hx hb (hts _ ac_I) rfl d rfl (nI_pos (by omega)) (nI_clamp (by omega)) (by show N * 4 ≤ _; omega) hc.1 hc.2 rfl fun H1 cA e1 z1 o1 hAr hNm => ?_
  have hcA : cA = (eG E).2.1 := Option.some.inj (hNm.symm.trans (hK.2 0 _ rfl).2)
  subst hcA
  have hW1 := hW.new2 (nwS_1 hS9) z1 o1 (fun i ci hi hl2 => nwS_2 hS9 hi hl2) hr (by rw [ce_i hl, ha]; exact e1)
  rw [dmS_up] at hW1
  have h9 := kk (va_up ad n H.size) (fun m hm => va_up_ne _ _ hm) H1 L ls hW1 (hS.grow z1 o1) hl'
  rw [va_up_self] at h9
  exact h9
theorem ac_J : Cond.arrayClass .long ∈ gd := gd_1 72 (by decide +kernel) rfl
theorem m_newl {S : List Nat} {n N : Nat} {v : Int32} (C : CX E cc own lev) (d : decode cc pc = .ok (.newarray .long, 2)) (hq : pc + 2 = q) (hl : ly n = .inr (1, N)) (hS9 : nwS S n = true) (hr : noref r (dmS S) n) (ha : b n = fun _ => 0) (hv : v = nI N) (hN : N < 1000) (hc : cl + 1 ≤ (eR E).cells ∧ sl + N ≤ (eR E).slots)
    (kk : ∀ ad' : Nat → Nat, (∀ m, m ≠ n → ad' m = ad m) → G E (cl + 1) (sl + N) ad' (dmS (n :: S)) a b r q lo (.ref (ad' n) :: rest)) : G E cl sl ad (dmS S) a b r pc lo (.int v :: rest) := fun H L ls hW hS hl' => by
  subst hq
  subst hv
  obtain ⟨hx, hb, hml, hown, hts, hK, hf, hlc⟩ := C
  refine va_newaK (atype := .long) hx hb (hts _ ac_J) rfl d rfl (nI_pos (by omega)) (nI_clamp (by omega)) (by show N * 8 ≤ _; omega) hc.1 hc.2 rfl fun H1 cA e1 z1 o1 hAr hNm => ?_
  have hcA : cA = (eG E).2.2.1 := Option.some.inj (hNm.symm.trans (hK.2 1 _ rfl).2)
  subst hcA
  have hW1 := hW.new2 (nwS_1 hS9) z1 o1 (fun i ci hi hl2 => nwS_2 hS9 hi hl2) hr (by rw [ce_l hl, ha]; exact e1)
  rw [dmS_up] at hW1
  have h9 := kk (va_up ad n H.size) (fun m hm => va_up_ne _ _ hm) H1 L ls hW1 (hS.grow z1 o1) hl'
  rw [va_up_self] at h9
  exact h9
theorem m_newaF {S : List Nat} {n N idx : Nat} {v : Int32} (C : CX E cc own lev) (ho : va_AO RX0 (eS E)) (hw : Cond.classLink own idx RX0 ∈ gd) (d : decode cc pc = .ok (.anewarray idx, 3)) (hq : pc + 3 = q) (hl : ly n = .inr (2, N)) (hS9 : nwS S n = true) (hr : noref r (dmS S) n) (ha : r n = fun _ => none) (hv : v = nI N) (hN : N < 1000) (hc : cl + 1 ≤ (eR E).cells ∧ sl + N ≤ (eR E).slots)
    (kk : ∀ ad' : Nat → Nat, (∀ m, m ≠ n → ad' m = ad m) → G E (cl + 1) (sl + N) ad' (dmS (n :: S)) a b r q lo (.ref (ad' n) :: rest)) : G E cl sl ad (dmS S) a b r pc lo (.int v :: rest) := fun H L ls hW hS hl' => by
  subst hq
  subst hv
  obtain ⟨hx, hb, hml, hown, hts, hK, hf, hlc⟩ := C
  have hcl9 := nI_clamp (n := N) (by omega)
  refine W.anew hx hb hown (hts _ hw) (va_AO.use ho) rfl d rfl (nI_pos (by omega)) (by rw [hcl9]; omega) hc.1 (by rw [hcl9]; exact hc.2) fun cA kA comp f1 f2 f3 f4 => ?_
  rw [hcl9]
  generalize hH1 : H.push ({ cls := cA, slots := Array.replicate N .null, vm := .none } : Cell) = H1
  have z1 : H1.size = H.size + 1 := by rw [← hH1, Array.size_push]
  have e1 : H1[H.size]? = some (arrV cA N (fun _ => .null)) := by rw [← hH1, Array.getElem?_push_size, ← arrV_new]
  have o1 : ∀ q : Nat, q < H.size → H1[q]? = H[q]? := fun q hq => by rw [← hH1, Array.getElem?_push, if_neg (Nat.ne_of_lt hq)]
  have hcA : cA = (eG E).2.2.2.1 := by
    obtain ⟨kA', comp', -, -, -, h4⟩ := (hK.2 2 _ rfl).2
    exact Option.some.inj (f1.symm.trans h4)
  subst hcA
  have hW1 := hW.new2 (nwS_1 hS9) z1 o1 (fun i ci hi hl2 => nwS_2 hS9 hi hl2) hr (by rw [ce_f hl, ha]; exact e1)
  rw [dmS_up] at hW1
  have h9 := kk (va_up ad n H.size) (fun m hm => va_up_ne _ _ hm) H1 L ls hW1 (hS.grow z1 o1) hl'
  rw [va_up_self] at h9
  exact h9
theorem m_newaP {S : List Nat} {n N idx : Nat} {v : Int32} (C : CX E cc own lev) (ho : va_AO RX2 (eS E)) (hw : Cond.classLink own idx RX2 ∈ gd) (d : decode cc pc = .ok (.anewarray idx, 3)) (hq : pc + 3 = q) (hl : ly n = .inr (3, N)) (hS9 : nwS S n = true) (hr : noref r (dmS S) n) (ha : r n = fun _ => none) (hv : v = nI N) (hN : N < 1000) (hc : cl + 1 ≤ (eR E).cells ∧ sl + N ≤ (eR E).slots)
    (kk : ∀ ad' : Nat → Nat, (∀ m, m ≠ n → ad' m = ad m) → G E (cl + 1) (sl + N) ad' (dmS (n :: S)) a b r q lo (.ref (ad' n) :: rest)) : G E cl sl ad (dmS S) a b r pc lo (.int v :: rest) := fun H L ls hW hS hl' => by
  subst hq
  subst hv
  obtain ⟨hx, hb, hml, hown, hts, hK, hf, hlc⟩ := C
  have hcl9 := nI_clamp (n := N) (by omega)
  refine W.anew hx hb hown (hts _ hw) (va_AO.use ho) rfl d rfl (nI_pos (by omega)) (by rw [hcl9]; omega) hc.1 (by rw [hcl9]; exact hc.2) fun cA kA comp f1 f2 f3 f4 => ?_
  rw [hcl9]
  generalize hH1 : H.push ({ cls := cA, slots := Array.replicate N .null, vm := .none } : Cell) = H1
  have z1 : H1.size = H.size + 1 := by rw [← hH1, Array.size_push]
  have e1 : H1[H.size]? = some (arrV cA N (fun _ => .null)) := by rw [← hH1, Array.getElem?_push_size, ← arrV_new]
  have o1 : ∀ q : Nat, q < H.size → H1[q]? = H[q]? := fun q hq => by rw [← hH1, Array.getElem?_push, if_neg (Nat.ne_of_lt hq)]
  have hcA : cA = (eG E).2.2.2.2 := by
    obtain ⟨kA', comp', -, -, -, h4⟩ := (hK.2 3 _ rfl).2
    exact Option.some.inj (f1.symm.trans h4)
  subst hcA
  have hW1 := hW.new2 (nwS_1 hS9) z1 o1 (fun i ci hi hl2 => nwS_2 hS9 hi hl2) hr (by rw [ce_p hl, ha]; exact e1)
  rw [dmS_up] at hW1
  have h9 := kk (va_up ad n H.size) (fun m hm => va_up_ne _ _ hm) H1 L ls hW1 (hS.grow z1 o1) hl'
  rw [va_up_self] at h9
  exact h9
/-- a new object of a class that is being made -/
theorem m_newo {S : List Nat} {n ci idx N : Nat} {Cn : String} {T : u_T} {ty : Nat → FieldType} (C : CX E cc own lev) (d : decode cc pc = .ok (.new idx, 3)) (hq : pc + 3 = q) (hc1 : vwCl[ci]? = some (Cn, T, N)) (hin : ∀ w ∈ u_ws Cn T N, w ∈ gd) (hty : ∀ k, k < N → parseFieldDescriptor (T k).2.2.1 = some (ty k)) (hw : Cond.classLink own idx Cn ∈ gd ∧ Cond.instantiable Cn N ∈ gd ∧ Cond.initialized Cn ∈ gd) (hl : ly n = .inl ci) (hS9 : nwS S n = true) (hr : noref r (dmS S) n) (ha : a n = (fun _ => 0) ∧ b n = (fun _ => 0) ∧ r n = fun _ => none)
    (hz : ∀ j, j < N → defaultValue (ty j) = vp_V (vls (fun _ => 0) (fun _ => 0) (fun _ => 0) (fun _ => none) 0 (kds ci)) j) (hcs : ∀ t ∈ kds ci, t < 3) (hc : cl + 1 ≤ (eR E).cells ∧ sl + N ≤ (eR E).slots)
    (kk : ∀ ad' : Nat → Nat, (∀ m, m ≠ n → ad' m = ad m) → G E (cl + 1) (sl + N) ad' (dmS (n :: S)) a b r q lo (.ref (ad' n) :: rest)) : G E cl sl ad (dmS S) a b r pc lo rest := fun H L ls hW hS hl' => by
  subst hq
  obtain ⟨hx, hb, hml, hown, hts, hK, hf, hlc⟩ := C
  have hKn := hK.1 ci _ hc1
  refine W.newcK hx hb hown (hts _ hw.1) (hts _ hw.2.1) (hts _ hw.2.2) rfl d hc.1 hc.2 hKn.2.1 rfl fun H1 kC hkC e1 z1 o1 => ?_
  have e9 : vls (va_up ad n H.size) (fun _ => 0) (fun _ => 0) (fun _ => none) 0 (kds ci) = vls (fun _ => 0) (fun _ => 0) (fun _ => 0) (fun _ => none) 0 (kds ci) := by
    have key : ∀ (ts : List Nat) (k : Nat), (∀ t ∈ ts, t < 3) → vls (va_up ad n H.size) (fun _ => 0) (fun _ => 0) (fun _ => none) k ts = vls (fun _ => 0) (fun _ => 0) (fun _ => 0) (fun _ => none) k ts := by
      intro ts
      induction ts with
      | nil => intro k _; rfl
      | cons t ts ih =>
        intro k ht
        simp only [vls]
        rw [ih (k + 1) (fun z hz => ht z (List.mem_cons_of_mem _ hz))]
        have ht0 := ht t List.mem_cons_self
        match t, ht0 with
        | 0, _ => rfl
        | 1, _ => rfl
        | 2, _ => rfl
    exact key _ 0 hcs
  have hW1 := hW.new2 (nwS_1 hS9) z1 o1 (fun i ci hi hl2 => nwS_2 hS9 hi hl2) hr (by
    rw [ce_o hl, ha.1, ha.2.1, ha.2.2, e9]
    exact ⟨_, hc1, (u_born ty hts hin hKn hkC e1 hty).to hz⟩)
  rw [dmS_up] at hW1
  have h9 := kk (va_up ad n H.size) (fun m hm => va_up_ne _ _ hm) H1 L ls hW1 (hS.grow z1 o1) hl'
  rw [va_up_self] at h9
  exact h9
/-- made: from now on under its own name -/
def mvN {α : Type} (f : Nat → Nat → α) (z : α) (n m : Nat) : Nat → Nat → α := fun i => if i = m then f n else if i = n then fun _ => z else f i
def dmv (S : List Nat) (n m : Nat) : List Nat := m :: S.filter (fun i => i != n && i != m)
theorem dmv_1 {S : List Nat} {n m i : Nat} (h : dmS (dmv S n m) i = true) : i = m ∨ (dmS S i = true ∧ i ≠ n ∧ i ≠ m) := by
  unfold dmS dmv at h
  rw [List.contains_iff_mem, List.mem_cons, List.mem_filter] at h
  rcases h with h | ⟨h1, h2⟩
  · exact Or.inl h
  · simp at h2
    exact Or.inr ⟨List.contains_iff_mem.mpr h1, h2.1, h2.2⟩
theorem m_name {S : List Nat} {n m ci cj : Nat} {st : List Value} {a' : Nat → Nat → Int32} {b' : Nat → Nat → Int64} {r' : Nat → Nat → Option Nat} (hn : dmS S n = true) (hne : n ≠ m) (hln : ly n = .inl ci) (hlm : ly m = .inl cj) (hrow : vwCl[ci]? = vwCl[cj]?) (hg1 : (eG E).1.1 ci = (eG E).1.1 cj) (hg2 : (eG E).1.2 ci = (eG E).1.2 cj) (hk : S.all (fun i => i == n || okN m i) = true) (hr : noref r (dmS S) m) (hv : vls (va_up ad m (ad n)) (a' m) (b' m) (r' m) 0 (kds cj) = vls ad (a n) (b n) (r n) 0 (kds ci)) (hs : ∀ i, i ≠ n → i ≠ m → a i = a' i ∧ b i = b' i ∧ r i = r' i)
    (kk : G E cl sl (va_up ad m (ad n)) (dmS (dmv S n m)) a' b' r' pc lo st) : G E cl sl ad (dmS S) a b r pc lo st := fun H L ls hW hS hl => by
  refine kk H L ls ⟨hW.1, fun i hi => ?_, fun i j hi hj e => ?_⟩ hS hl
  · rcases dmv_1 hi with h | ⟨h1, h2, h3⟩
    · subst h
      rw [va_up_self]
      refine ⟨(hW.2.1 n hn).1, ?_⟩
      have h9 := (hW.2.1 n hn).2
      rw [ce_o hln] at h9
      rw [ce_o hlm, hv]
      obtain ⟨q9, g1, g2⟩ := h9
      refine ⟨q9, hrow ▸ g1, ?_⟩
      dsimp only at g2 ⊢
      rw [← hg1, ← hg2]
      exact g2
    · rw [va_up_ne _ _ h3]
      obtain ⟨s1, s2, s3⟩ := hs i h2 h3
      refine ⟨(hW.2.1 i h1).1, ?_⟩
      rw [← ce_cong s1 s2 s3, ce_ad (n := m) (ad := ad) (fun cz hz hm => ?_) (fun k => hr i k h1) (fun z hz => va_up_ne _ _ hz)]
      · exact (hW.2.1 i h1).2
      · have h8 := List.all_eq_true.mp hk i (by unfold dmS at h1; exact List.contains_iff_mem.mp h1)
        rw [Bool.or_eq_true] at h8
        rcases h8 with h8 | h8
        · exact h2 (by simpa using h8)
        · unfold okN at h8
          rw [hz] at h8
          have : (kds cz).contains (m + 3) = true := List.contains_iff_mem.mpr hm
          dsimp only at h8
          rw [this] at h8
          cases h8
  · rcases dmv_1 hi with h | ⟨h1, h2, h3⟩
    · rcases dmv_1 hj with h' | ⟨h1', h2', h3'⟩
      · rw [h, h']
      · subst h
        rw [va_up_self, va_up_ne _ _ h3'] at e
        exact absurd (hW.2.2 n j hn h1' e).symm h2'
    · rcases dmv_1 hj with h' | ⟨h1', h2', h3'⟩
      · subst h'
        rw [va_up_self, va_up_ne _ _ h3] at e
        exact absurd (hW.2.2 i n h1 hn e) h2
      · rw [va_up_ne _ _ h3, va_up_ne _ _ h3'] at e
        exact hW.2.2 i j h1 h1' e
/-- contracts with words besides: what the tables say that does not hold for every list of words -/
def FOK (bs : Nat) (F : State → Prop) : Prop := (∀ (s U : State) (locs : List Loc), s.WarmedH U.vm → va_S (fun q => bs ≤ q) s.heap U.heap locs → F s → F U) ∧ ∀ (U : State) (f : JFrame) (mk : MethodId) (av : Array Value), F U → F (U.calling f mk av)
def PCX (F : State → Prop) (g : GM) (bs : Nat) (av : List Value) (ad : Nat → Nat) (dm : Nat → Bool) (a : Nat → Nat → Int32) (b : Nat → Nat → Int64) (r : Nat → Nat → Option Nat) : Array Value → State → Prop := va_Pc av (fun U => (Wd g bs ad dm a b r U.heap ∧ va_K g.1 vwCl (tysG g) U) ∧ F U)
theorem PCX_blind {F : State → Prop} {g : GM} {bs : Nat} {av : List Value} (hF : FOK bs F) : FrameBlind (PCX F g bs av ad dm a b r) := fun _ U f mk h => ⟨h.1, ⟨h.2.1.1, va_K.moved (u := U) (U := U.calling f mk _) (Vm.Alike.refl U.vm) h.2.1.2⟩, hF.2 U f mk _ h.2.2⟩
def MTX (F : State → Prop) (g : GM) (bs : Nat) (l : Launch) (y : MethodName) (cc : ByteArray) (nL : Nat) (ret : Option FieldType) (lev mc ms : Nat) (av : List Value) (ad : Nat → Nat) (dm : Nat → Bool) (a : Nat → Nat → Int32) (b : Nat → Nat → Int64) (r : Nat → Nat → Option Nat) (P : PO) : Prop :=
  Met l y (.code y cc nL ret :: gd) { frames := lev, cells := mc, slots := ms, locals := 40 * lev } (PCX F g bs av ad dm a b r) (QP g bs P) mc ms (fun q => bs ≤ q)
theorem mtx_of {F : State → Prop} {g : GM} {bs : Nat} {l : Launch} {y : MethodName} {cc : ByteArray} {nL : Nat} {ret : Option FieldType} {lev mc ms : Nat} {av : List Value} {P : PO} (hy : plainName y.cls = true) (lo : List (Option Value)) (hlo : las 0 lo = lv_args 0 av) (hlen : (lg_sl av).length ≤ nL)
    (body : ∀ E : EN, eG E = g → eB E = bs → eL E = l → eN E = nL → CX E cc y.cls lev → RT E mc ms ret P → (eR E).cells = mc → (eR E).slots = ms → (eH E).name = y.name → F (eS E) → G E 0 0 ad dm a b r 0 lo []) : MTX F g bs l y cc nL ret lev mc ms av ad dm a b r P := by
  refine Met.ofW (cc := cc) (maxL := nL) (ret := ret) hy rfl ?_
  intro p e s m args below meth c s₁ B hml hv
  obtain ⟨rfl, ⟨hW, hK⟩, hF⟩ := hv
  have hts := atoms_spec (ws := .code y cc nL ret :: gd) B.pre
  have hbody := body (g, bs, (p, l, e, { frames := lev, cells := mc, slots := ms, locals := 40 * lev }, s, m, av.toArray, below, meth, c), nL, MQ below (QP g bs P) av.toArray s mc ms (fun q => bs ≤ q)) rfl rfl rfl rfl ⟨B.exec, B.bytes, hml, findClass_of_methodNamed B.named, fun w hw => hts w (List.mem_cons_of_mem _ hw), hK, Nat.le_refl _, Nat.le_refl _⟩ ⟨rfl, B.returns, B.notSynchronized⟩ rfl rfl (name_of_methodNamed B.named B.method).1 hF
  have hl := lv_entry av (n := nL) hlen
  rw [← hlo] at hl
  rw [lg_entry_eq]
  exact hbody s.heap [] _ hW va_S.rf hl
theorem g_backS {st : List Value} {mc ms : Nat} {P : PO} {x : Array Value} (hS9 : ∀ H locs ls, Wd (eG E) (eB E) ad dm a b r H → va_S (fun q => eB E ≤ q) (eS E).heap H locs → lh ls (eN E) lo → va_Run E.2.2.1.1 (eL E) E.2.2.1.2.2.1 (eR E) (eS E) (eM E) (eA E) (eW E) (eH E) (eC E) H locs cl sl mc ms (F0 (eM E) pc ls st) rest (QP (eG E) (eB E) P x) (fun q => eB E ≤ q)) (hq : pc + 3 = q)
    (kk : ∀ v ad' dm' a' b' r', P v ad' dm' a' b' r' → G E (cl + mc) (sl + ms) ad' dm' a' b' r' q lo (v.toList ++ rest)) : G E cl sl ad dm a b r pc lo st := fun H L ls hW hS hl T hT X => by
  subst hq
  obtain ⟨v, st₀, t, T', L', h0, X', hL, e1, e2, ⟨⟨v', ad', dm', a', b', r', hv, hP, hWt⟩, hz, hk⟩, st⟩ := hS9 H L ls hW hS hl T hT X
  cases hv
  rw [h0] at hz hk
  obtain ⟨t2, a1, b1⟩ := kk v ad' dm' a' b' r' hP T'.heap (L ++ L') ls (by rw [e1]; exact hWt) ⟨Nat.le_trans hS.1 (by rw [e1]; exact hz), fun q h1 h2 => by rw [e1, hk q (Nat.lt_of_lt_of_le h1 hS.1) h2]; exact hS.2.1 q h1 h2, fun q hq => by
      rcases List.mem_append.mp hq with h | h
      · exact hS.2.2 q h
      · exact hL q h⟩ hl T' rfl X'
  exact ⟨t2, st t2 a1, b1⟩
theorem g_callIX {F : State → Prop} {idx nLy n lev' mc ms bb : Nat} {y : MethodName} {cy : ByteArray} {As st : List Value} {P : PO} (C : CX E cc own lev) (hF : FOK (eB E) F) (hFs : F (eS E)) (w : WI own idx y cy nLy n) (hM : MTX F (eG E) (eB E) (eL E) y cy nLy none lev' mc ms (.ref bb :: As) ad dm a b r P) (hlev : lev' < lev) (d : decode cc pc = .ok (.invokespecial idx, 3)) (hq : pc + 3 = q) (hn : As.length = n) (hst : st = As.reverse ++ .ref bb :: rest) (hr : (rest.map fun v => v.category).sum ≤ 8) (hcs : cl + mc ≤ (eR E).cells ∧ sl + ms ≤ (eR E).slots)
    (kk : ∀ v ad' dm' a' b' r', P v ad' dm' a' b' r' → G E (cl + mc) (sl + ms) ad' dm' a' b' r' q lo (v.toList ++ rest)) : G E cl sl ad dm a b r pc lo st := by
  obtain ⟨⟨w1, w2, w3, w4⟩, w5, w6, w7⟩ := w
  obtain ⟨hx, hb, hml, hown, hts, hK, hf, hlc⟩ := C
  subst hst
  refine g_backS (x := (Value.ref bb :: As).toArray) (fun H L ls hW hS hl' => ?_) hq kk
  exact va_runI (As := As) (rest := rest) (b := bb) ⟨hx, hb, hml, hown, hts⟩ hM (cwI n hts (good_sub (in_cons w2)) rfl rfl rfl (hts _ w1) (hts _ w5) (hts _ w6) w7 w3 (by constructor <;> dsimp only <;> omega)) ⟨PCX_blind hF, fun U hU hWm => ⟨rfl, ⟨by rw [hU]; exact hW, va_K.moved hWm.alike hK⟩, hF.1 _ _ L hWm (by rw [hU]; exact hS) hFs⟩⟩ rfl hn hl'.1 rfl (lv_room hr) d hcs
theorem g_callIN {F : State → Prop} {idx nLy n lev' mc ms bb : Nat} {y : MethodName} {host : String} {cy : ByteArray} {As st : List Value} {P : PO} (C : CX E cc own lev) (hF : FOK (eB E) F) (hFs : F (eS E)) (w : W0 y cy nLy none n ∧ Cond.instanceMethod y ∈ gd ∧ y.name = "<init>") (hN9 : va_Nw (.methodLinkNest own idx y host) (eS E)) (hM : MTX F (eG E) (eB E) (eL E) y cy nLy none lev' mc ms (.ref bb :: As) ad dm a b r P) (hlev : lev' < lev) (d : decode cc pc = .ok (.invokespecial idx, 3)) (hq : pc + 3 = q) (hn : As.length = n) (hst : st = As.reverse ++ .ref bb :: rest) (hr : (rest.map fun v => v.category).sum ≤ 8) (hcs : cl + mc ≤ (eR E).cells ∧ sl + ms ≤ (eR E).slots)
    (kk : ∀ v ad' dm' a' b' r', P v ad' dm' a' b' r' → G E (cl + mc) (sl + ms) ad' dm' a' b' r' q lo (v.toList ++ rest)) : G E cl sl ad dm a b r pc lo st := by
  obtain ⟨⟨w1, w2, w3, w4⟩, w6, w7⟩ := w
  obtain ⟨hx, hb, hml, hown, hts, hK, hf, hlc⟩ := C
  subst hst
  refine g_backS (x := (Value.ref bb :: As).toArray) (fun H L ls hW hS hl' => ?_) hq kk
  exact va_runIN (As := As) (rest := rest) (b := bb) ⟨hx, hb, hml, hown, hts⟩ hM ⟨va_cnB n hts (good_sub (in_cons w2)) rfl rfl rfl hN9 (hts _ w1) w3 (by constructor <;> dsimp only <;> omega), w7, hts _ w6⟩ ⟨PCX_blind hF, fun U hU hWm => ⟨rfl, ⟨by rw [hU]; exact hW, va_K.moved hWm.alike hK⟩, hF.1 _ _ L hWm (by rw [hU]; exact hS) hFs⟩⟩ rfl hn hl'.1 rfl (lv_room hr) d hcs
end N49
theorem n_X1_11 : FP RX1 11 5 0 2 true (.array (.object "TooMany$Party")) := ⟨RX1, TX1, 13, tyX1, rfl, in_X1, gd_1 31 (by decide +kernel) rfl, by decide, rfl, rfl, tyX1_ok, nmX1, rfl, rfl, rfl⟩
theorem n_X1_17 : FP RX1 17 5 1 2 true (.array .int) := ⟨RX1, TX1, 13, tyX1, rfl, in_X1, gd_1 32 (by decide +kernel) rfl, by decide, rfl, rfl, tyX1_ok, nmX1, rfl, rfl, rfl⟩
theorem n_X1_21 : FP RX1 21 5 2 2 true (.array .int) := ⟨RX1, TX1, 13, tyX1, rfl, in_X1, gd_1 33 (by decide +kernel) rfl, by decide, rfl, rfl, tyX1_ok, nmX1, rfl, rfl, rfl⟩
theorem n_X1_24 : FP RX1 24 5 3 2 true (.array .int) := ⟨RX1, TX1, 13, tyX1, rfl, in_X1, gd_1 34 (by decide +kernel) rfl, by decide, rfl, rfl, tyX1_ok, nmX1, rfl, rfl, rfl⟩
theorem n_X1_27 : FP RX1 27 5 4 2 true (.array .int) := ⟨RX1, TX1, 13, tyX1, rfl, in_X1, gd_1 35 (by decide +kernel) rfl, by decide, rfl, rfl, tyX1_ok, nmX1, rfl, rfl, rfl⟩
theorem n_X1_30 : FP RX1 30 5 5 2 true (.array .int) := ⟨RX1, TX1, 13, tyX1, rfl, in_X1, gd_1 36 (by decide +kernel) rfl, by decide, rfl, rfl, tyX1_ok, nmX1, rfl, rfl, rfl⟩
theorem n_X1_33 : FP RX1 33 5 6 2 true (.array .int) := ⟨RX1, TX1, 13, tyX1, rfl, in_X1, gd_1 37 (by decide +kernel) rfl, by decide, rfl, rfl, tyX1_ok, nmX1, rfl, rfl, rfl⟩
theorem n_X1_38 : FP RX1 38 5 7 2 true (.array (.object "TooMany$Flight")) := ⟨RX1, TX1, 13, tyX1, rfl, in_X1, gd_1 38 (by decide +kernel) rfl, by decide, rfl, rfl, tyX1_ok, nmX1, rfl, rfl, rfl⟩
theorem n_X1_42 : FP RX1 42 5 8 2 true (.array (.object "TooMany$Flight")) := ⟨RX1, TX1, 13, tyX1, rfl, in_X1, gd_1 39 (by decide +kernel) rfl, by decide, rfl, rfl, tyX1_ok, nmX1, rfl, rfl, rfl⟩
theorem n_X1_45 : FP RX1 45 5 9 2 true (.array .int) := ⟨RX1, TX1, 13, tyX1, rfl, in_X1, gd_1 40 (by decide +kernel) rfl, by decide, rfl, rfl, tyX1_ok, nmX1, rfl, rfl, rfl⟩
theorem n_X1_48 : FP RX1 48 5 10 2 true (.array .long) := ⟨RX1, TX1, 13, tyX1, rfl, in_X1, gd_1 41 (by decide +kernel) rfl, by decide, rfl, rfl, tyX1_ok, nmX1, rfl, rfl, rfl⟩
theorem n_X1_52 : FP RX1 52 5 11 1 false .long := ⟨RX1, TX1, 13, tyX1, rfl, in_X1, gd_1 42 (by decide +kernel) rfl, by decide, rfl, rfl, tyX1_ok, nmX1, rfl, rfl, rfl⟩
theorem n_X1_56 : FP RX1 56 5 12 0 false .int := ⟨RX1, TX1, 13, tyX1, rfl, in_X1, gd_1 43 (by decide +kernel) rfl, by decide, rfl, rfl, tyX1_ok, nmX1, rfl, rfl, rfl⟩
theorem n_X3_11 : FP RX3 11 6 0 2 true (.array (.object "TooMany$Flight")) := ⟨RX3, TX3, 8, tyX3, rfl, in_X3, gd_1 73 (by decide +kernel) rfl, by decide, rfl, rfl, tyX3_ok, nmX3, rfl, rfl, rfl⟩
theorem n_X3_17 : FP RX3 17 6 1 2 true (.array (.object "TooMany$Party")) := ⟨RX3, TX3, 8, tyX3, rfl, in_X3, gd_1 74 (by decide +kernel) rfl, by decide, rfl, rfl, tyX3_ok, nmX3, rfl, rfl, rfl⟩
theorem n_X3_21 : FP RX3 21 6 2 2 true (.array .int) := ⟨RX3, TX3, 8, tyX3, rfl, in_X3, gd_1 75 (by decide +kernel) rfl, by decide, rfl, rfl, tyX3_ok, nmX3, rfl, rfl, rfl⟩
theorem n_X3_25 : FP RX3 25 6 3 2 true (.array .long) := ⟨RX3, TX3, 8, tyX3, rfl, in_X3, gd_1 76 (by decide +kernel) rfl, by decide, rfl, rfl, tyX3_ok, nmX3, rfl, rfl, rfl⟩
theorem n_X3_32 : FP RX3 32 6 4 2 true (.object "TooMany$Mover") := ⟨RX3, TX3, 8, tyX3, rfl, in_X3, gd_1 77 (by decide +kernel) rfl, by decide, rfl, rfl, tyX3_ok, nmX3, rfl, rfl, rfl⟩
theorem n_X3_36 : FP RX3 36 6 5 0 false .int := ⟨RX3, TX3, 8, tyX3, rfl, in_X3, gd_1 78 (by decide +kernel) rfl, by decide, rfl, rfl, tyX3_ok, nmX3, rfl, rfl, rfl⟩
theorem n_X3_40 : FP RX3 40 6 6 0 false .int := ⟨RX3, TX3, 8, tyX3, rfl, in_X3, gd_1 79 (by decide +kernel) rfl, by decide, rfl, rfl, tyX3_ok, nmX3, rfl, rfl, rfl⟩
theorem n_X3_43 : FP RX3 43 6 7 0 false .int := ⟨RX3, TX3, 8, tyX3, rfl, in_X3, gd_1 80 (by decide +kernel) rfl, by decide, rfl, rfl, tyX3_ok, nmX3, rfl, rfl, rfl⟩
theorem n_X4_9 : FP RX4 9 7 0 2 true (.array .int) := ⟨RX4, TX4, 20, tyX4, rfl, in_X4, gd_3 70 (by decide +kernel) rfl, by decide, rfl, rfl, tyX4_ok, nmX4, rfl, rfl, rfl⟩
theorem n_X4_56 : FP RX4 56 7 1 0 false .int := ⟨RX4, TX4, 20, tyX4, rfl, in_X4, gd_3 71 (by decide +kernel) rfl, by decide, rfl, rfl, tyX4_ok, nmX4, rfl, rfl, rfl⟩
theorem n_X4_13 : FP RX4 13 7 2 2 true (.array .int) := ⟨RX4, TX4, 20, tyX4, rfl, in_X4, gd_3 72 (by decide +kernel) rfl, by decide, rfl, rfl, tyX4_ok, nmX4, rfl, rfl, rfl⟩
theorem n_X4_63 : FP RX4 63 7 3 0 false .int := ⟨RX4, TX4, 20, tyX4, rfl, in_X4, gd_3 73 (by decide +kernel) rfl, by decide, rfl, rfl, tyX4_ok, nmX4, rfl, rfl, rfl⟩
theorem n_X4_16 : FP RX4 16 7 4 2 true (.array .int) := ⟨RX4, TX4, 20, tyX4, rfl, in_X4, gd_3 74 (by decide +kernel) rfl, by decide, rfl, rfl, tyX4_ok, nmX4, rfl, rfl, rfl⟩
theorem n_X4_52 : FP RX4 52 7 5 0 false .int := ⟨RX4, TX4, 20, tyX4, rfl, in_X4, gd_3 75 (by decide +kernel) rfl, by decide, rfl, rfl, tyX4_ok, nmX4, rfl, rfl, rfl⟩
theorem n_X4_19 : FP RX4 19 7 6 2 true (.array .int) := ⟨RX4, TX4, 20, tyX4, rfl, in_X4, gd_3 76 (by decide +kernel) rfl, by decide, rfl, rfl, tyX4_ok, nmX4, rfl, rfl, rfl⟩
theorem n_X4_22 : FP RX4 22 7 7 2 true (.array .int) := ⟨RX4, TX4, 20, tyX4, rfl, in_X4, gd_3 77 (by decide +kernel) rfl, by decide, rfl, rfl, tyX4_ok, nmX4, rfl, rfl, rfl⟩
theorem n_X4_25 : FP RX4 25 7 8 2 true (.array .int) := ⟨RX4, TX4, 20, tyX4, rfl, in_X4, gd_3 78 (by decide +kernel) rfl, by decide, rfl, rfl, tyX4_ok, nmX4, rfl, rfl, rfl⟩
theorem n_X4_121 : FP RX4 121 7 9 0 false .int := ⟨RX4, TX4, 20, tyX4, rfl, in_X4, gd_3 79 (by decide +kernel) rfl, by decide, rfl, rfl, tyX4_ok, nmX4, rfl, rfl, rfl⟩
theorem n_X4_28 : FP RX4 28 7 10 2 true (.array .int) := ⟨RX4, TX4, 20, tyX4, rfl, in_X4, gd_3 80 (by decide +kernel) rfl, by decide, rfl, rfl, tyX4_ok, nmX4, rfl, rfl, rfl⟩
theorem n_X4_31 : FP RX4 31 7 11 2 true (.array .int) := ⟨RX4, TX4, 20, tyX4, rfl, in_X4, gd_3 81 (by decide +kernel) rfl, by decide, rfl, rfl, tyX4_ok, nmX4, rfl, rfl, rfl⟩
theorem n_X4_34 : FP RX4 34 7 12 2 true (.array .int) := ⟨RX4, TX4, 20, tyX4, rfl, in_X4, gd_3 82 (by decide +kernel) rfl, by decide, rfl, rfl, tyX4_ok, nmX4, rfl, rfl, rfl⟩
theorem n_X4_37 : FP RX4 37 7 13 2 true (.array .int) := ⟨RX4, TX4, 20, tyX4, rfl, in_X4, gd_3 83 (by decide +kernel) rfl, by decide, rfl, rfl, tyX4_ok, nmX4, rfl, rfl, rfl⟩
theorem n_X4_40 : FP RX4 40 7 14 2 true (.array .int) := ⟨RX4, TX4, 20, tyX4, rfl, in_X4, gd_3 84 (by decide +kernel) rfl, by decide, rfl, rfl, tyX4_ok, nmX4, rfl, rfl, rfl⟩
theorem n_X4_43 : FP RX4 43 7 15 2 true (.array .int) := ⟨RX4, TX4, 20, tyX4, rfl, in_X4, gd_3 85 (by decide +kernel) rfl, by decide, rfl, rfl, tyX4_ok, nmX4, rfl, rfl, rfl⟩
theorem n_X4_46 : FP RX4 46 7 16 2 true (.array .int) := ⟨RX4, TX4, 20, tyX4, rfl, in_X4, gd_3 86 (by decide +kernel) rfl, by decide, rfl, rfl, tyX4_ok, nmX4, rfl, rfl, rfl⟩
theorem n_X4_49 : FP RX4 49 7 17 2 true (.array .int) := ⟨RX4, TX4, 20, tyX4, rfl, in_X4, gd_3 87 (by decide +kernel) rfl, by decide, rfl, rfl, tyX4_ok, nmX4, rfl, rfl, rfl⟩
theorem n_X4_124 : FP RX4 124 7 18 0 false .int := ⟨RX4, TX4, 20, tyX4, rfl, in_X4, gd_3 88 (by decide +kernel) rfl, by decide, rfl, rfl, tyX4_ok, nmX4, rfl, rfl, rfl⟩
theorem n_X4_127 : FP RX4 127 7 19 0 false .int := ⟨RX4, TX4, 20, tyX4, rfl, in_X4, gd_3 89 (by decide +kernel) rfl, by decide, rfl, rfl, tyX4_ok, nmX4, rfl, rfl, rfl⟩
theorem dz_X1 : ∀ j, j < 13 → defaultValue (tyX1 j) = vp_V (vls (fun _ => 0) (fun _ => 0) (fun _ => 0) (fun _ => none) 0 (kds 5)) j := by decide +kernel
theorem dz_X3 : ∀ j, j < 8 → defaultValue (tyX3 j) = vp_V (vls (fun _ => 0) (fun _ => 0) (fun _ => 0) (fun _ => none) 0 (kds 6)) j := by decide +kernel
theorem dz_X4 : ∀ j, j < 20 → defaultValue (tyX4 j) = vp_V (vls (fun _ => 0) (fun _ => 0) (fun _ => 0) (fun _ => none) 0 (kds 7)) j := by decide +kernel
theorem oi_X1 : Cond.methodLink RX1 3 Lib.objectInit ∈ gd ∧ Cond.instanceMethod Lib.objectInit ∈ gd ∧ Cond.code Lib.objectInit ⟨#[0xb1]⟩ 1 none ∈ gd := ⟨gd_1 28 (by decide +kernel) rfl, gd_1 17 (by decide +kernel) rfl, gd_1 18 rfl rfl⟩
theorem oi_X3 : Cond.methodLink RX3 3 Lib.objectInit ∈ gd ∧ Cond.instanceMethod Lib.objectInit ∈ gd ∧ Cond.code Lib.objectInit ⟨#[0xb1]⟩ 1 none ∈ gd := ⟨gd_1 16 (by decide +kernel) rfl, gd_1 17 (by decide +kernel) rfl, gd_1 18 rfl rfl⟩
theorem oi_X4 : Cond.methodLink RX4 1 Lib.objectInit ∈ gd ∧ Cond.instanceMethod Lib.objectInit ∈ gd ∧ Cond.code Lib.objectInit ⟨#[0xb1]⟩ 1 none ∈ gd := ⟨gd_3 69 (by decide +kernel) rfl, gd_1 17 (by decide +kernel) rfl, gd_1 18 rfl rfl⟩
theorem nw_X1 : Cond.classLink RX3 29 RX1 ∈ gd ∧ Cond.instantiable RX1 13 ∈ gd ∧ Cond.initialized RX1 ∈ gd := ⟨gd_1 23 (by decide +kernel) rfl, gd_1 24 (by decide +kernel) rfl, gd_1 2 (by decide +kernel) rfl⟩
theorem nw_X3 : Cond.classLink RL 8 RX3 ∈ gd ∧ Cond.instantiable RX3 8 ∈ gd ∧ Cond.initialized RX3 ∈ gd := ⟨gd_1 11 (by decide +kernel) rfl, gd_1 12 (by decide +kernel) rfl, gd_1 1 (by decide +kernel) rfl⟩
theorem nw_X4 : Cond.classLink RL 16 RX4 ∈ gd ∧ Cond.instantiable RX4 20 ∈ gd ∧ Cond.initialized RX4 ∈ gd := ⟨gd_3 64 (by decide +kernel) rfl, gd_3 65 (by decide +kernel) rfl, gd_1 3 (by decide +kernel) rfl⟩
theorem w0_X1_init : W0 yX1_init cX1_init 1 none 0 := ⟨gd_1 2 (by decide +kernel) rfl, gd_1 27 rfl rfl, by decide +kernel, by decide⟩
theorem wn_X1_init : W0 yX1_init cX1_init 1 none 0 ∧ Cond.instanceMethod yX1_init ∈ gd ∧ yX1_init.name = "<init>" := ⟨w0_X1_init, gd_1 26 (by decide +kernel) rfl, rfl⟩
theorem wa_X3_9 : Cond.classLink RX3 9 RX0 ∈ gd := gd_1 19 (by decide +kernel) rfl
theorem wa_X3_15 : Cond.classLink RX3 15 RX2 ∈ gd := gd_1 21 (by decide +kernel) rfl
theorem wa_X1_9 : Cond.classLink RX1 9 RX2 ∈ gd := gd_1 29 (by decide +kernel) rfl
theorem wa_X1_36 : Cond.classLink RX1 36 RX0 ∈ gd := gd_1 30 (by decide +kernel) rfl
