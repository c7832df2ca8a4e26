/-! rows of fields and arrays, in the world's words -/
/-- a field that a class's pool number names: class number, slot, kind -/
def FF (own : String) (idx ci k t : Nat) : Prop := ∃ (Cn : String) (T : u_T) (N : Nat), vwCl[ci]? = some (Cn, T, N) ∧ (∀ w ∈ u_ws Cn T N, w ∈ gd) ∧ Cond.fieldLink own idx (T k).1 (T k).2.1 (T k).2.2.1 ∈ gd ∧ k < N ∧ (kds ci)[k]? = some t ∧ (kds ci).length = N
/-- and its type, and whether it is final -/
def FP (own : String) (idx ci k t : Nat) (fin : Bool) (ty : FieldType) : Prop := ∃ (Cn : String) (T : u_T) (N : Nat) (ty0 : Nat → FieldType), vwCl[ci]? = some (Cn, T, N) ∧ (∀ w ∈ u_ws Cn T N, w ∈ gd) ∧ Cond.fieldLink own idx (T k).1 (T k).2.1 (T k).2.2.1 ∈ gd ∧ k < N ∧ (kds ci)[k]? = some t ∧ (kds ci).length = N ∧ (∀ k, k < N → parseFieldDescriptor (T k).2.2.1 = some (ty0 k)) ∧ (∀ a, a < N → ∀ b, b < N → a ≠ b → (T a).2.1 ≠ (T b).2.1) ∧ (T k).2.2.2 = fin ∧ ty0 k = ty ∧ (T k).1 = Cn
section GH
variable {E : EN} {cc : ByteArray} {own : String} {lev cl sl : Nat} {ad : Nat → Nat} {dm : Nat → Bool} {a : Nat → Nat → Int32} {b : Nat → Nat → Int64} {r : Nat → Nat → Option Nat} {pc q : Nat} {lo : List (Option Value)} {rest : List Value}
theorem g_get {idx ci k t n : Nat} (C : CX E cc own lev) (F : FF own idx ci k t) (d : decode cc pc = .ok (.getfield idx, 3)) (hq : pc + 3 = q) (hl : ly n = .inl ci) (hd : dm n = true)
    (kk : G E cl sl ad dm a b r q lo (vl ad (a n) (b n) (r n) k t :: rest)) : G E cl sl ad dm a b r pc lo (.ref (ad n) :: rest) := fun H L ls hW hS hl' => by
  subst hq
  obtain ⟨Cn, T, N, h1, h2, h3, h4, h5, h6⟩ := F
  obtain ⟨hx, hb, hml, hown, hts, hK, -⟩ := C
  have hat := (hW.2.1 n hd).2
  rw [ce_o hl] at hat
  refine va_get (ws := [(ad n, .inr (ci, vls ad (a n) (b n) (r n) 0 (kds ci)))]) (v := vl ad (a n) (b n) (r n) k t) hx hb hts h2 hown hK (fun i z hz => ?_) 0 rfl h1 k h4 (hts _ h3) (fun _ h9 => h9) ?_ d (kk H L ls hW hS hl')
  · cases i with
    | zero => cases hz; exact hat
    | succ i => cases hz
  · have h7 := vls_get (ad := ad) (a := a n) (b := b n) (r := r n) (kds ci) 0 k t h5
    rw [Nat.zero_add] at h7
    exact h7
theorem g_geti {idx ci k n : Nat} (C : CX E cc own lev) (F : FF own idx ci k 0) (d : decode cc pc = .ok (.getfield idx, 3)) (hq : pc + 3 = q) (hl : ly n = .inl ci) (hd : dm n = true) (kk : G E cl sl ad dm a b r q lo (.int (a n k) :: rest)) : G E cl sl ad dm a b r pc lo (.ref (ad n) :: rest) := g_get C F d hq hl hd kk
theorem g_getl {idx ci k n : Nat} (C : CX E cc own lev) (F : FF own idx ci k 1) (d : decode cc pc = .ok (.getfield idx, 3)) (hq : pc + 3 = q) (hl : ly n = .inl ci) (hd : dm n = true) (kk : G E cl sl ad dm a b r q lo (.long (b n k) :: rest)) : G E cl sl ad dm a b r pc lo (.ref (ad n) :: rest) := g_get C F d hq hl hd kk
theorem g_getr {idx ci k n m : Nat} (C : CX E cc own lev) (F : FF own idx ci k 2) (d : decode cc pc = .ok (.getfield idx, 3)) (hq : pc + 3 = q) (hl : ly n = .inl ci) (hd : dm n = true) (hr : r n k = some m) (kk : G E cl sl ad dm a b r q lo (.ref (ad m) :: rest)) : G E cl sl ad dm a b r pc lo (.ref (ad n) :: rest) := g_get C F d hq hl hd (by
  show G E cl sl ad dm a b r q lo (va_rf ((r n k).map ad) :: rest)
  rw [hr]
  exact kk)
theorem g_getrN {idx ci k n : Nat} (C : CX E cc own lev) (F : FF own idx ci k 2) (d : decode cc pc = .ok (.getfield idx, 3)) (hq : pc + 3 = q) (hl : ly n = .inl ci) (hd : dm n = true) (hr : r n k = none) (kk : G E cl sl ad dm a b r q lo (.null :: rest)) : G E cl sl ad dm a b r pc lo (.ref (ad n) :: rest) := g_get C F d hq hl hd (by
  show G E cl sl ad dm a b r q lo (va_rf ((r n k).map ad) :: rest)
  rw [hr]
  exact kk)
/-- the reference that is for ever -/
theorem g_getc {idx ci k n m : Nat} (C : CX E cc own lev) (F : FF own idx ci k (m + 3)) (d : decode cc pc = .ok (.getfield idx, 3)) (hq : pc + 3 = q) (hl : ly n = .inl ci) (hd : dm n = true) (kk : G E cl sl ad dm a b r q lo (.ref (ad m) :: rest)) : G E cl sl ad dm a b r pc lo (.ref (ad n) :: rest) := g_get C F d hq hl hd kk
/-- a field is written -/
theorem g_put {idx ci k t n : Nat} {ty : FieldType} {v : Value} {a' : Nat → Nat → Int32} {b' : Nat → Nat → Int64} {r' : Nat → Nat → Option Nat} (C : CX E cc own lev) (F : FP own idx ci k t false ty) (d : decode cc pc = .ok (.putfield idx, 3)) (hq : pc + 3 = q) (hl : ly n = .inl ci) (hd : dm n = true) (hn : narrow ty v = v) (hf : fits ty v = true)
    (hs : ∀ i, i ≠ n → a i = a' i ∧ b i = b' i ∧ r i = r' i) (hv : vl ad (a' n) (b' n) (r' n) k t = v) (ho : ∀ i u, i ≠ k → vl ad (a n) (b n) (r n) i u = vl ad (a' n) (b' n) (r' n) i u)
    (kk : G E cl sl ad dm a' b' r' q lo rest) : G E cl sl ad dm a b r pc lo (v :: .ref (ad n) :: rest) := fun H L ls hW hS hl' => by
  subst hq
  obtain ⟨Cn, T, N, ty0, h1, h2, h3, h4, h5, h6, hty, hnm, hfin, hty1, hdc⟩ := F
  obtain ⟨hx, hb, hml, hown, hts, hK, -⟩ := C
  have hat := (hW.2.1 n hd).2
  rw [ce_o hl] at hat
  have hap := va_apart (own := own) hts h2 ty0 hty hnm hK h1
  obtain ⟨rr, g1, cell, q1, q2, q3, q4⟩ := hat
  have hr : rr = (Cn, T, N) := Option.some.inj (g1.symm.trans h1)
  subst hr
  obtain ⟨hSl, hfc, kC, hkC, hkind⟩ := hK.1 ci _ h1
  obtain ⟨cf, kf, fi, f, hi, hsl⟩ := hSl k h4
  have hlay := hts _ (h2 _ (u_in_lay h4))
  unfold u_lay at hlay
  rw [if_neg (by rw [hfin]; decide)] at hlay
  have hst := (u_facts hfc hkC (u_lays hts h2 h4) hi).1
  have h9 := u_store (v := v) hfc hkC hkind hlay hi (hty k h4) (by rw [hty1]; exact hn) (by rw [hty1]; exact hf)
  refine W.putK hx hb (f := f) ⟨hown, hts _ h3, ⟨_, _, _, hi⟩, hst⟩ (by rw [q2]; exact h9) q1 q3 (by rw [hsl]; exact k2_hasslot (q4 k h4)) rfl rfl d fun H' e1 e2 e3 => ?_
  rw [hsl] at e1 ⊢
  have hkl : k < (vls ad (a n) (b n) (r n) 0 (kds ci)).length := by rw [vls_len, h6]; exact h4
  have e4 : (vls ad (a n) (b n) (r n) 0 (kds ci)).set k v = vls ad (a' n) (b' n) (r' n) 0 (kds ci) := vls_set (kds ci) 0 k t h5 (by rw [Nat.zero_add]; exact hv) (fun i u hi => ho i u (by omega))
  refine kk H' _ ls (hW.st hd e2 e3 ?_ hs) (hS.put e2 e3 (hW.2.1 n hd).1) hl'
  rw [ce_o hl]
  exact ⟨_, h1, t_OB.to (V := updV (vp_V (vls ad (a n) (b n) (r n) 0 (kds ci))) k v) ⟨_, e1, q2, q3, t_set q4 hap h4 v⟩ (fun j _ => by rw [vp_updV_set hkl v j, e4])⟩
theorem vl_u2 {ad : Nat → Nat} {a : Nat → Nat → Int32} {b : Nat → Nat → Int64} {r : Nat → Nat → Option Nat} {n k i : Nat} {x : Int32} (u : Nat) (h : i ≠ k) : vl ad (a n) (b n) (r n) i u = vl ad (u2 a n k x n) (b n) (r n) i u := by
  match u with
  | 0 => simp [vl, u2, h]
  | 1 => rfl
  | 2 => rfl
  | u + 3 => rfl
theorem vl_u2l {ad : Nat → Nat} {a : Nat → Nat → Int32} {b : Nat → Nat → Int64} {r : Nat → Nat → Option Nat} {n k i : Nat} {x : Int64} (u : Nat) (h : i ≠ k) : vl ad (a n) (b n) (r n) i u = vl ad (a n) (u2 b n k x n) (r n) i u := by
  match u with
  | 0 => rfl
  | 1 => simp [vl, u2, h]
  | 2 => rfl
  | u + 3 => rfl
theorem vl_u2r {ad : Nat → Nat} {a : Nat → Nat → Int32} {b : Nat → Nat → Int64} {r : Nat → Nat → Option Nat} {n k i : Nat} {x : Option Nat} (u : Nat) (h : i ≠ k) : vl ad (a n) (b n) (r n) i u = vl ad (a n) (b n) (u2 r n k x n) i u := by
  match u with
  | 0 => rfl
  | 1 => rfl
  | 2 => simp [vl, u2, h]
  | u + 3 => rfl
theorem g_puti {idx ci k n : Nat} {x : Int32} {ty : FieldType} (C : CX E cc own lev) (F : FP own idx ci k 0 false ty) (d : decode cc pc = .ok (.putfield idx, 3)) (hq : pc + 3 = q) (hl : ly n = .inl ci) (hd : dm n = true) (hn : narrow ty (.int x) = .int x) (hf : fits ty (.int x) = true) (kk : G E cl sl ad dm (u2 a n k x) b r q lo rest) : G E cl sl ad dm a b r pc lo (.int x :: .ref (ad n) :: rest) :=
  g_put C F d hq hl hd hn hf (fun i hi => ⟨(u2_n hi).symm, rfl, rfl⟩) (by show Value.int (u2 a n k x n k) = _; rw [u2_s]) (fun i u hi => vl_u2 u hi) kk
theorem g_putl {idx ci k n : Nat} {x : Int64} {ty : FieldType} (C : CX E cc own lev) (F : FP own idx ci k 1 false ty) (d : decode cc pc = .ok (.putfield idx, 3)) (hq : pc + 3 = q) (hl : ly n = .inl ci) (hd : dm n = true) (hn : narrow ty (.long x) = .long x) (hf : fits ty (.long x) = true) (kk : G E cl sl ad dm a (u2 b n k x) r q lo rest) : G E cl sl ad dm a b r pc lo (.long x :: .ref (ad n) :: rest) :=
  g_put C F d hq hl hd hn hf (fun i hi => ⟨rfl, (u2_n hi).symm, rfl⟩) (by show Value.long (u2 b n k x n k) = _; rw [u2_s]) (fun i u hi => vl_u2l u hi) kk
theorem g_putr {idx ci k n m : Nat} {ty : FieldType} (C : CX E cc own lev) (F : FP own idx ci k 2 false ty) (d : decode cc pc = .ok (.putfield idx, 3)) (hq : pc + 3 = q) (hl : ly n = .inl ci) (hd : dm n = true) (hn : narrow ty (.ref (ad m)) = .ref (ad m)) (hf : fits ty (.ref (ad m)) = true) (kk : G E cl sl ad dm a b (u2 r n k (some m)) q lo rest) : G E cl sl ad dm a b r pc lo (.ref (ad m) :: .ref (ad n) :: rest) :=
  g_put C F d hq hl hd hn hf (fun i hi => ⟨rfl, rfl, (u2_n hi).symm⟩) (by show va_rf ((u2 r n k (some m) n k).map ad) = _; rw [u2_s]; rfl) (fun i u hi => vl_u2r u hi) kk
theorem g_putrN {idx ci k n : Nat} {ty : FieldType} (C : CX E cc own lev) (F : FP own idx ci k 2 false ty) (d : decode cc pc = .ok (.putfield idx, 3)) (hq : pc + 3 = q) (hl : ly n = .inl ci) (hd : dm n = true) (hn : narrow ty .null = .null) (hf : fits ty .null = true) (kk : G E cl sl ad dm a b (u2 r n k none) q lo rest) : G E cl sl ad dm a b r pc lo (.null :: .ref (ad n) :: rest) :=
  g_put C F d hq hl hd hn hf (fun i hi => ⟨rfl, rfl, (u2_n hi).symm⟩) (by show va_rf ((u2 r n k none n k).map ad) = _; rw [u2_s]; rfl) (fun i u hi => vl_u2r u hi) kk
/-- rows of ints, of longs, of references -/
theorem Wd.one {g : GM} {bs : Nat} {H : Heap} (h : Wd g bs ad dm a b r H) {n : Nat} (hd : dm n = true) {e : va_E} (he : ce g ad a b r n = e) : va_P g.1 vwCl [(ad n, e)] H := by
  intro i z hz
  cases i with
  | zero => cases hz; rw [← he]; exact (h.2.1 n hd).2
  | succ i => cases hz
theorem g_iald {n len : Nat} {i : Int32} (C : CX E cc own lev) (d : decode cc pc = .ok (.iaload, 1)) (hq : pc + 1 = q) (hl : ly n = .inr (0, len)) (hd : dm n = true) (hin : vp_in i len) (kk : G E cl sl ad dm a b r q lo (.int (a n i.toNatClampNeg) :: rest)) : G E cl sl ad dm a b r pc lo (.int i :: .ref (ad n) :: rest) := fun H L ls hW hS hl' => by
  subst hq
  exact va_iald C.1 C.2.1 C.2.2.2.2.2.1 (hW.one hd (ce_i hl)) 0 0 rfl rfl hin d (kk H L ls hW hS hl')
theorem g_lald {n len : Nat} {i : Int32} (C : CX E cc own lev) (d : decode cc pc = .ok (.laload, 1)) (hq : pc + 1 = q) (hl : ly n = .inr (1, len)) (hd : dm n = true) (hin : vp_in i len) (kk : G E cl sl ad dm a b r q lo (.long (b n i.toNatClampNeg) :: rest)) : G E cl sl ad dm a b r pc lo (.int i :: .ref (ad n) :: rest) := fun H L ls hW hS hl' => by
  subst hq
  exact va_lald C.1 C.2.1 C.2.2.2.2.2.1 (hW.one hd (ce_l hl)) 0 1 rfl rfl hin d (kk H L ls hW hS hl')
theorem g_aald2 {n len : Nat} {i : Int32} (C : CX E cc own lev) (d : decode cc pc = .ok (.aaload, 1)) (hq : pc + 1 = q) (hl : ly n = .inr (2, len)) (hd : dm n = true) (hin : vp_in i len) (kk : G E cl sl ad dm a b r q lo (va_rf ((r n i.toNatClampNeg).map ad) :: rest)) : G E cl sl ad dm a b r pc lo (.int i :: .ref (ad n) :: rest) := fun H L ls hW hS hl' => by
  subst hq
  exact va_aldq C.1 C.2.1 C.2.2.2.2.2.1 (hW.one hd (ce_f hl)) 0 2 rfl rfl hin d (kk H L ls hW hS hl')
theorem g_aald3 {n len : Nat} {i : Int32} (C : CX E cc own lev) (d : decode cc pc = .ok (.aaload, 1)) (hq : pc + 1 = q) (hl : ly n = .inr (3, len)) (hd : dm n = true) (hin : vp_in i len) (kk : G E cl sl ad dm a b r q lo (va_rf ((r n i.toNatClampNeg).map ad) :: rest)) : G E cl sl ad dm a b r pc lo (.int i :: .ref (ad n) :: rest) := fun H L ls hW hS hl' => by
  subst hq
  exact va_aldq C.1 C.2.1 C.2.2.2.2.2.1 (hW.one hd (ce_p hl)) 0 3 rfl rfl hin d (kk H L ls hW hS hl')
/-- a row of references, the place by its number, what is there known -/
theorem g_aaF {n len j m : Nat} {i : Int32} (C : CX E cc own lev) (d : decode cc pc = .ok (.aaload, 1)) (hq : pc + 1 = q) (hl : ly n = .inr (2, len)) (hd : dm n = true) (hi : i = nI j) (hj : j < len) (h31 : len < 2 ^ 31) (hr : r n j = some m) (kk : G E cl sl ad dm a b r q lo (.ref (ad m) :: rest)) : G E cl sl ad dm a b r pc lo (.int i :: .ref (ad n) :: rest) := by
  subst hi
  refine g_aald2 C d hq hl hd (vp_in_nI hj h31) ?_
  rw [nI_clamp (by omega), hr]
  exact kk
theorem g_aaFN {n len j : Nat} {i : Int32} (C : CX E cc own lev) (d : decode cc pc = .ok (.aaload, 1)) (hq : pc + 1 = q) (hl : ly n = .inr (2, len)) (hd : dm n = true) (hi : i = nI j) (hj : j < len) (h31 : len < 2 ^ 31) (hr : r n j = none) (kk : G E cl sl ad dm a b r q lo (.null :: rest)) : G E cl sl ad dm a b r pc lo (.int i :: .ref (ad n) :: rest) := by
  subst hi
  refine g_aald2 C d hq hl hd (vp_in_nI hj h31) ?_
  rw [nI_clamp (by omega), hr]
  exact kk
theorem g_aaP {n len j m : Nat} {i : Int32} (C : CX E cc own lev) (d : decode cc pc = .ok (.aaload, 1)) (hq : pc + 1 = q) (hl : ly n = .inr (3, len)) (hd : dm n = true) (hi : i = nI j) (hj : j < len) (h31 : len < 2 ^ 31) (hr : r n j = some m) (kk : G E cl sl ad dm a b r q lo (.ref (ad m) :: rest)) : G E cl sl ad dm a b r pc lo (.int i :: .ref (ad n) :: rest) := by
  subst hi
  refine g_aald3 C d hq hl hd (vp_in_nI hj h31) ?_
  rw [nI_clamp (by omega), hr]
  exact kk
theorem g_ia {n len j : Nat} {i : Int32} (C : CX E cc own lev) (d : decode cc pc = .ok (.iaload, 1)) (hq : pc + 1 = q) (hl : ly n = .inr (0, len)) (hd : dm n = true) (hi : i = nI j) (hj : j < len) (h31 : len < 2 ^ 31) (kk : G E cl sl ad dm a b r q lo (.int (a n j) :: rest)) : G E cl sl ad dm a b r pc lo (.int i :: .ref (ad n) :: rest) := by
  subst hi
  refine g_iald C d hq hl hd (vp_in_nI hj h31) ?_
  rw [nI_clamp (by omega)]
  exact kk
theorem g_la {n len j : Nat} {i : Int32} (C : CX E cc own lev) (d : decode cc pc = .ok (.laload, 1)) (hq : pc + 1 = q) (hl : ly n = .inr (1, len)) (hd : dm n = true) (hi : i = nI j) (hj : j < len) (h31 : len < 2 ^ 31) (kk : G E cl sl ad dm a b r q lo (.long (b n j) :: rest)) : G E cl sl ad dm a b r pc lo (.int i :: .ref (ad n) :: rest) := by
  subst hi
  refine g_lald C d hq hl hd (vp_in_nI hj h31) ?_
  rw [nI_clamp (by omega)]
  exact kk
theorem g_alen {n t len : Nat} {v : Int32} (C : CX E cc own lev) (d : decode cc pc = .ok (.arraylength, 1)) (hq : pc + 1 = q) (hl : ly n = .inr (t, len)) (ht : t < 2) (hd : dm n = true) (hv : Int32.ofNat len = v) (kk : G E cl sl ad dm a b r q lo (.int v :: rest)) : G E cl sl ad dm a b r pc lo (.ref (ad n) :: rest) := fun H L ls hW hS hl' => by
  subst hq
  match t, ht, hl with
  | 0, _, hl => exact va_alen C.1 C.2.1 C.2.2.2.2.2.1 (hW.one hd (ce_i hl)) 0 0 rfl rfl hv d (kk H L ls hW hS hl')
  | 1, _, hl => exact va_alen C.1 C.2.1 C.2.2.2.2.2.1 (hW.one hd (ce_l hl)) 0 1 rfl rfl hv d (kk H L ls hW hS hl')
theorem u2_row {α : Type} {f : Nat → Nat → α} {n k : Nat} {v : α} : u2 f n k v n = fun j => if j = k then v else f n j := by
  funext j
  simp [u2]
theorem g_iast {n len j : Nat} {i x : Int32} (C : CX E cc own lev) (d : decode cc pc = .ok (.iastore, 1)) (hq : pc + 1 = q) (hl : ly n = .inr (0, len)) (hd : dm n = true) (hi : i = nI j) (hj : j < len) (h31 : len < 2 ^ 31) (kk : G E cl sl ad dm (u2 a n j x) b r q lo rest) : G E cl sl ad dm a b r pc lo (.int x :: .int i :: .ref (ad n) :: rest) := fun H L ls hW hS hl' => by
  subst hq
  subst hi
  have hat := (hW.2.1 n hd).2
  rw [ce_i hl] at hat
  refine W.iast C.1 C.2.1 hat ((C.2.2.2.2.2.1.2 0 _ rfl).1 len (fun j => .int (a n j))) (fun q => by cases q) (by show ¬ (_ ∨ (arrV _ _ _).slots.size ≤ _); rw [arrV_size]; exact vp_in_nI hj h31) rfl rfl d fun H1 e z oq => ?_
  refine kk H1 _ ls (hW.st hd z oq ?_ (fun i hi => ⟨(u2_n hi).symm, rfl, rfl⟩)) (hS.put z oq (hW.2.1 n hd).1) hl'
  rw [ce_i hl]
  show H1[ad n]? = some (vp_cell _ _)
  rw [e, nI_clamp (by omega), vp_cell_i, vp_cell_i, arrV_store]
  congr 2
  funext q
  by_cases hq : q = j <;> simp [updV, u2, hq]
theorem g_last {n len j : Nat} {i : Int32} {x : Int64} (C : CX E cc own lev) (d : decode cc pc = .ok (.lastore, 1)) (hq : pc + 1 = q) (hl : ly n = .inr (1, len)) (hd : dm n = true) (hi : i = nI j) (hj : j < len) (h31 : len < 2 ^ 31) (kk : G E cl sl ad dm a (u2 b n j x) r q lo rest) : G E cl sl ad dm a b r pc lo (.long x :: .int i :: .ref (ad n) :: rest) := fun H L ls hW hS hl' => by
  subst hq
  subst hi
  have hat := (hW.2.1 n hd).2
  rw [ce_l hl] at hat
  refine W.last C.1 C.2.1 hat ((C.2.2.2.2.2.1.2 1 _ rfl).1 len (fun j => .long (b n j))) (fun q => by cases q) (by show ¬ (_ ∨ (arrV _ _ _).slots.size ≤ _); rw [arrV_size]; exact vp_in_nI hj h31) rfl rfl d fun H1 e z oq => ?_
  refine kk H1 _ ls (hW.st hd z oq ?_ (fun i hi => ⟨rfl, (u2_n hi).symm, rfl⟩)) (hS.put z oq (hW.2.1 n hd).1) hl'
  rw [ce_l hl]
  show H1[ad n]? = some (vp_cell _ _)
  rw [e, nI_clamp (by omega), vp_cell_l, vp_cell_l, arrV_store]
  congr 2
  funext q
  by_cases hq : q = j <;> simp [updV, u2, hq]
theorem g_aastK {n len j m t ci : Nat} {cA : ClassId} {rr : vw_C} {i : Int32} (C : CX E cc own lev) (d : decode cc pc = .ok (.aastore, 1)) (hq : pc + 1 = q) (hce : ∀ r : Nat → Nat → Option Nat, ce (eG E) ad a b r n = .inl (cA, len, .inr (.inr (.inr (.inr (fun k => (r n k).map ad)))))) (ht : (tysG (eG E))[t]? = some (cA, .object rr.1)) (hc : vwCl[ci]? = some rr) (hd : dm n = true) (hm : dm m = true) (hlm : ly m = .inl ci) (hi : i = nI j) (hj : j < len) (h31 : len < 2 ^ 31) (kk : G E cl sl ad dm a b (u2 r n j (some m)) q lo rest) : G E cl sl ad dm a b r pc lo (.ref (ad m) :: .int i :: .ref (ad n) :: rest) := fun H L ls hW hS hl' => by
  subst hq
  subst hi
  obtain ⟨hx, hb, -, -, -, hK, -⟩ := C
  have hat := (hW.2.1 n hd).2
  rw [hce] at hat
  have hav := (hW.2.1 m hm).2
  rw [ce_o hlm] at hav
  obtain ⟨q', g0, cell, g1, g2, g3, -⟩ := hav
  have hlt : (nI j).toNatClampNeg < len := by rw [nI_clamp (by omega)]; exact hj
  have hcls := (hK.1 ci rr hc).2
  obtain ⟨kA, comp, k1, k2, k3, -⟩ := (hK.2 t _ ht).2
  have hcomp : comp = (eG E).1.1 ci := Option.some.inj (k3.symm.trans hcls.1)
  subst hcomp
  obtain ⟨kC, hkC, -⟩ := hcls.2
  refine W.aast hx hb hat (fun q h => by cases h) (fun h => by cases h) k1 k2 rfl hkC ⟨fun q => (vp_in_nI hj h31) (Or.inl q), by show _ < (arrV _ _ _).slots.size; rw [arrV_size]; exact hlt⟩ g1 (fun q h => by rw [g3] at h; cases h) (by rw [g2]; exact hkC) (by rw [g2]; exact va_assign hcls) rfl rfl d fun H1 e z oq => ?_
  refine kk H1 _ ls (hW.st hd z oq ?_ (fun i hi => ⟨rfl, rfl, (u2_n hi).symm⟩)) (hS.put z oq (hW.2.1 n hd).1) hl'
  rw [hce]
  show H1[ad n]? = some (vp_cell _ _)
  rw [e, nI_clamp (by omega), vp_cell_q, vp_cell_q, arrV_store]
  congr 2
  funext q
  by_cases hq : q = j <;> simp [updV, u2, hq, va_rf]
theorem g_aastF {n len j m : Nat} {i : Int32} (C : CX E cc own lev) (d : decode cc pc = .ok (.aastore, 1)) (hq : pc + 1 = q) (hl : ly n = .inr (2, len)) (hd : dm n = true) (hm : dm m = true) (hlm : ly m = .inl 0) (hi : i = nI j) (hj : j < len) (h31 : len < 2 ^ 31) (kk : G E cl sl ad dm a b (u2 r n j (some m)) q lo rest) : G E cl sl ad dm a b r pc lo (.ref (ad m) :: .int i :: .ref (ad n) :: rest) := g_aastK (t := 2) C d hq (fun _ => ce_f hl) rfl rfl hd hm hlm hi hj h31 kk
theorem g_aastP {n len j m : Nat} {i : Int32} (C : CX E cc own lev) (d : decode cc pc = .ok (.aastore, 1)) (hq : pc + 1 = q) (hl : ly n = .inr (3, len)) (hd : dm n = true) (hm : dm m = true) (hlm : ly m = .inl 2) (hi : i = nI j) (hj : j < len) (h31 : len < 2 ^ 31) (kk : G E cl sl ad dm a b (u2 r n j (some m)) q lo rest) : G E cl sl ad dm a b r pc lo (.ref (ad m) :: .int i :: .ref (ad n) :: rest) := g_aastK (t := 3) C d hq (fun _ => ce_p hl) rfl rfl hd hm hlm hi hj h31 kk
theorem g_aastFN {n len j : Nat} {i : Int32} (C : CX E cc own lev) (d : decode cc pc = .ok (.aastore, 1)) (hq : pc + 1 = q) (hl : ly n = .inr (2, len)) (hd : dm n = true) (hi : i = nI j) (hj : j < len) (h31 : len < 2 ^ 31) (kk : G E cl sl ad dm a b (u2 r n j none) q lo rest) : G E cl sl ad dm a b r pc lo (.null :: .int i :: .ref (ad n) :: rest) := fun H L ls hW hS hl' => by
  subst hq
  subst hi
  have hat := (hW.2.1 n hd).2
  rw [ce_f hl] at hat
  refine va_WaastN (C := RX0) C.1 C.2.1 hat ((C.2.2.2.2.2.1.2 2 _ rfl).1 len (fun j => va_rf ((r n j).map ad))) (fun q => by cases q) (by show ¬ (_ ∨ (arrV _ _ _).slots.size ≤ _); rw [arrV_size]; exact vp_in_nI hj h31) rfl rfl d fun H1 e z oq => ?_
  refine kk H1 _ ls (hW.st hd z oq ?_ (fun i hi => ⟨rfl, rfl, (u2_n hi).symm⟩)) (hS.put z oq (hW.2.1 n hd).1) hl'
  rw [ce_f hl]
  show H1[ad n]? = some (vp_cell _ _)
  rw [e, nI_clamp (by omega), vp_cell_q, vp_cell_q, arrV_store]
  congr 2
  funext q
  by_cases hq : q = j <;> simp [updV, u2, hq, va_rf]
end GH
