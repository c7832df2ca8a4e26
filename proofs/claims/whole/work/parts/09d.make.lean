/-! cells that are made; final fields -/
/-- a new name's slots -/
def upz {α : Type} (f : Nat → Nat → α) (n : Nat) (z : α) : Nat → Nat → α := fun i j => if i = n then z else f i j
theorem upz_n {α : Type} {f : Nat → Nat → α} {n i : Nat} {z : α} (h : i ≠ n) : upz f n z i = f i := by
  funext j
  simp [upz, h]
theorem upz_s {α : Type} {f : Nat → Nat → α} {n : Nat} {z : α} : upz f n z n = fun _ => z := by
  funext j
  simp [upz]
/-- no reference leads to a name -/
def noref (r : Nat → Nat → Option Nat) (dm : Nat → Bool) (n : Nat) : Prop := ∀ i k, dm i = true → r i k ≠ some n
theorem ce_ad {g : GM} {ad ad' : Nat → Nat} {a : Nat → Nat → Int32} {b : Nat → Nat → Int64} {r : Nat → Nat → Option Nat} {n i : Nat} (hk : ∀ ci, ly i = .inl ci → n + 3 ∉ kds ci) (hr : ∀ k, r i k ≠ some n) (h : ∀ m, m ≠ n → ad' m = ad m) : ce g ad' a b r i = ce g ad a b r i := by
  have hm : ∀ k, (r i k).map ad' = (r i k).map ad := fun k => by
    cases hk9 : r i k with
    | none => rfl
    | some m => exact congrArg some (h m (fun e => hr k (by rw [hk9, e])))
  unfold ce
  cases hl : ly i with
  | inl ci =>
    dsimp only
    have key : ∀ (ts : List Nat) (k : Nat), n + 3 ∉ ts → vls ad' (a i) (b i) (r i) k ts = vls ad (a i) (b i) (r i) k ts := by
      intro ts
      induction ts with
      | nil => intro k _; rfl
      | cons t ts ih =>
        intro k hn
        simp only [vls]
        rw [ih (k + 1) (fun z => hn (List.mem_cons_of_mem _ z))]
        have h9 : vl ad' (a i) (b i) (r i) k t = vl ad (a i) (b i) (r i) k t := by
          match t, hn with
          | 0, _ => rfl
          | 1, _ => rfl
          | 2, _ => simp only [vl]; rw [hm]
          | t + 3, hn => simp only [vl]; rw [h t (fun e => hn (by rw [e]; exact List.mem_cons_self))]
        rw [h9]
    rw [key _ _ (hk ci hl)]
  | inr x =>
    obtain ⟨t, len⟩ := x
    match t with
    | 0 => rfl
    | 1 => rfl
    | 2 => simp only [hm]
    | t + 3 => simp only [hm]
section GN
variable {E : EN} {cc : ByteArray} {own : String} {lev cl sl : Nat} {ad : Nat → Nat} {dm : Nat → Bool} {a : Nat → Nat → Int32} {b : Nat → Nat → Int64} {r : Nat → Nat → Option Nat} {pc q : Nat} {lo : List (Option Value)} {rest : List Value}
theorem g_dm {dm' : Nat → Bool} {st : List Value} (h : ∀ n, dm' n = true → dm n = true) (k : G E cl sl ad dm' a b r pc lo st) : G E cl sl ad dm a b r pc lo st := fun H L ls hW hS hl => k H L ls ⟨hW.1, fun n hn => hW.2.1 n (h n hn), fun n m hn hm => hW.2.2 n m (h n hn) (h m hm)⟩ hS hl
/-- the world with one cell more -/
theorem Wd.new {g : GM} {bs : Nat} {H H1 : Heap} {n : Nat} {a' : Nat → Nat → Int32} {b' : Nat → Nat → Int64} {r' : Nat → Nat → Option Nat} (h : Wd g bs ad dm a b r H) (hn : dm n = false) (hz : H1.size = H.size + 1) (ho : ∀ q, q < H.size → H1[q]? = H[q]?) (hk : ∀ ci, n + 3 ∉ kds ci) (hr : noref r dm n) (hs : ∀ i, i ≠ n → a i = a' i ∧ b i = b' i ∧ r i = r' i)
    (hc : va_at g.1 vwCl (H.size, ce g (va_up ad n H.size) a' b' r' n) H1) : Wd g bs (va_up ad n H.size) (va_up dm n true) a' b' r' H1 := by
  have hlt : ∀ i, dm i = true → ad i < H.size := fun i hi => (h.2.1 i hi).2.lt
  have hne : ∀ i, dm i = true → i ≠ n := fun i hi e => by rw [e, hn] at hi; cases hi
  refine ⟨by rw [hz]; have := h.1; omega, fun i hi => ?_, fun i j hi hj e => ?_⟩
  · by_cases e : i = n
    · subst e
      rw [va_up_self]
      exact ⟨h.1, hc⟩
    · rw [va_up_ne _ _ e] at hi ⊢
      obtain ⟨s1, s2, s3⟩ := hs i e
      refine ⟨(h.2.1 i hi).1, ?_⟩
      rw [← ce_cong s1 s2 s3, ce_ad (n := n) (fun ci _ => hk ci) (fun k => hr i k hi) (fun m hm => va_up_ne _ _ hm)]
      exact (h.2.1 i hi).2.kept (ho _ (hlt i hi))
  · by_cases ei : i = n
    · subst ei
      by_cases ej : j = i
      · exact ej.symm
      · rw [va_up_self, va_up_ne _ _ ej] at e
        rw [va_up_ne _ _ ej] at hj
        have := hlt j hj
        omega
    · rw [va_up_ne _ _ ei] at hi e
      by_cases ej : j = n
      · subst ej
        rw [va_up_self] at e
        have := hlt i hi
        omega
      · rw [va_up_ne _ _ ej] at hj e
        exact h.2.2 i j hi hj e
/-- at the end: a cell that was made and is forgotten -/
theorem g_fin {n : Nat} {ad0 : Nat → Nat} {dm0 : Nat → Bool} {a0 : Nat → Nat → Int32} {b0 : Nat → Nat → Int64} {r0 : Nat → Nat → Option Nat} {st : List Value} (hdm : dm0 n = false) (h : ∀ i, dm0 i = true → dm i = true ∧ a i = a0 i ∧ b i = b0 i ∧ r i = r0 i) (had : ∀ m, m ≠ n → ad m = ad0 m) (hk : ∀ ci, n + 3 ∉ kds ci) (hr : noref r0 dm0 n) (k : G E cl sl ad0 dm0 a0 b0 r0 pc [] st) : G E cl sl ad dm a b r pc lo st := fun H L ls hW hS hl => by
  have hne : ∀ i, dm0 i = true → i ≠ n := fun i hi e => by rw [e, hdm] at hi; cases hi
  refine k H L ls ⟨hW.1, fun i hi => ?_, fun i j hi hj e => ?_⟩ hS ⟨hl.1, hl.2.1, fun q hq => by cases hq⟩
  · obtain ⟨h1, s1, s2, s3⟩ := h i hi
    rw [← had i (hne i hi)]
    refine ⟨(hW.2.1 i h1).1, ?_⟩
    have h9 := (hW.2.1 i h1).2
    rw [ce_cong s1 s2 s3, ce_ad (n := n) (ad := ad0) (fun ci _ => hk ci) (fun k => hr i k hi) had] at h9
    exact h9
  · exact hW.2.2 i j (h i hi).1 (h j hj).1 (by rw [had i (hne i hi), had j (hne j hj)]; exact e)
theorem va_S.grow {A : Nat → Prop} {H0 H H1 : Heap} {locs : List Loc} (h : va_S A H0 H locs) (hz : H1.size = H.size + 1) (ho : ∀ q, q < H.size → H1[q]? = H[q]?) : va_S A H0 H1 locs := ⟨by have := h.1; omega, fun q h1 h2 => (ho q (Nat.lt_of_lt_of_le h1 h.1)).trans (h.2.1 q h1 h2), h.2.2⟩
/-- a new row of ints -/
theorem g_newi {n N : Nat} {v : Int32} (C : CX E cc own lev) (d : decode cc pc = .ok (.newarray .int, 2)) (hq : pc + 2 = q) (hw : Cond.arrayClass .int ∈ gd) (hl : ly n = .inr (0, N)) (hn : dm n = false) (hk : ∀ ci, n + 3 ∉ kds ci) (hr : noref r dm n) (hv : v = nI N) (hN : N < 1000) (hc : cl + 1 ≤ (eR E).cells ∧ sl + N ≤ (eR E).slots)
    (kk : ∀ ad' : Nat → Nat, (∀ m, m ≠ n → ad' m = ad m) → G E (cl + 1) (sl + N) ad' (va_up dm n true) (upz a n 0) b r q lo (.ref (ad' n) :: rest)) : G E cl sl ad dm a b r pc lo (.int v :: rest) := fun H L ls hW hS hl' => by
  subst hq
  subst hv
  obtain ⟨hx, hb, hml, hown, hts, hK, hf, hlc⟩ := C
  refine va_newaK (atype := .int) hx hb (hts _ hw) rfl d rfl (nI_pos (by omega)) (nI_clamp (by omega)) (by show N * 4 ≤ _; omega) hc.1 hc.2 rfl fun H1 cA e1 z1 o1 hAr hNm => ?_
  have hcA : cA = (eG E).2.1 := Option.some.inj (hNm.symm.trans (hK.2 0 _ rfl).2)
  subst hcA
  have h9 := kk (va_up ad n H.size) (fun m hm => va_up_ne _ _ hm) H1 L ls (hW.new hn z1 o1 hk hr (fun i hi => ⟨(upz_n hi).symm, rfl, rfl⟩) (by rw [ce_i hl, upz_s]; exact e1)) (hS.grow z1 o1) hl'
  rw [va_up_self] at h9
  exact h9
/-- a new object of a class -/
theorem g_newo {n ci idx N : Nat} {Cn : String} {T : u_T} {ty : Nat → FieldType} (C : CX E cc own lev) (d : decode cc pc = .ok (.new idx, 3)) (hq : pc + 3 = q) (hc1 : vwCl[ci]? = some (Cn, T, N)) (hin : ∀ w ∈ u_ws Cn T N, w ∈ gd) (hty : ∀ k, k < N → parseFieldDescriptor (T k).2.2.1 = some (ty k)) (hw : Cond.classLink own idx Cn ∈ gd ∧ Cond.instantiable Cn N ∈ gd ∧ Cond.initialized Cn ∈ gd) (hl : ly n = .inl ci) (hn : dm n = false) (hk : ∀ ci, n + 3 ∉ kds ci) (hr : noref r dm n)
    (hz : ∀ j, j < N → defaultValue (ty j) = vp_V (vls (fun _ => 0) (fun _ => 0) (fun _ => 0) (fun _ => none) 0 (kds ci)) j) (hcs : ∀ t ∈ kds ci, t < 3) (hc : cl + 1 ≤ (eR E).cells ∧ sl + N ≤ (eR E).slots)
    (kk : ∀ ad' : Nat → Nat, (∀ m, m ≠ n → ad' m = ad m) → G E (cl + 1) (sl + N) ad' (va_up dm n true) (upz a n 0) (upz b n 0) (upz r n none) q lo (.ref (ad' n) :: rest)) : G E cl sl ad dm a b r pc lo rest := fun H L ls hW hS hl' => by
  subst hq
  obtain ⟨hx, hb, hml, hown, hts, hK, hf, hlc⟩ := C
  have hKn := hK.1 ci _ hc1
  refine W.newcK hx hb hown (hts _ hw.1) (hts _ hw.2.1) (hts _ hw.2.2) rfl d hc.1 hc.2 hKn.2.1 rfl fun H1 kC hkC e1 z1 o1 => ?_
  have e9 : vls (va_up ad n H.size) (fun _ => 0) (fun _ => 0) (fun _ => none) 0 (kds ci) = vls (fun _ => 0) (fun _ => 0) (fun _ => 0) (fun _ => none) 0 (kds ci) := by
    have key : ∀ (ts : List Nat) (k : Nat), (∀ t ∈ ts, t < 3) → vls (va_up ad n H.size) (fun _ => 0) (fun _ => 0) (fun _ => none) k ts = vls (fun _ => 0) (fun _ => 0) (fun _ => 0) (fun _ => none) k ts := by
      intro ts
      induction ts with
      | nil => intro k _; rfl
      | cons t ts ih =>
        intro k ht
        simp only [vls]
        rw [ih (k + 1) (fun z hz => ht z (List.mem_cons_of_mem _ hz))]
        have ht0 := ht t List.mem_cons_self
        match t, ht0 with
        | 0, _ => rfl
        | 1, _ => rfl
        | 2, _ => rfl
    exact key _ 0 hcs
  have h9 := kk (va_up ad n H.size) (fun m hm => va_up_ne _ _ hm) H1 L ls (hW.new hn z1 o1 hk hr (fun i hi => ⟨(upz_n hi).symm, (upz_n hi).symm, (upz_n hi).symm⟩) (by
    rw [ce_o hl, upz_s, upz_s, upz_s, e9]
    exact ⟨_, hc1, (u_born ty hts hin hKn hkC e1 hty).to hz⟩)) (hS.grow z1 o1) hl'
  rw [va_up_self] at h9
  exact h9
/-- a final field, in a constructor -/
theorem g_putF {idx ci k t n : Nat} {ty : FieldType} {v : Value} {a' : Nat → Nat → Int32} {b' : Nat → Nat → Int64} {r' : Nat → Nat → Option Nat} (C : CX E cc own lev) (F : FP own idx ci k t true ty) (d : decode cc pc = .ok (.putfield idx, 3)) (hq : pc + 3 = q) (hl : ly n = .inl ci) (hd : dm n = true) (hn : narrow ty v = v) (hf : fits ty v = true) (hin : (eH E).name = "<init>" ∧ (vwCl[ci]?).map (·.1) = some own)
    (hs : ∀ i, i ≠ n → a i = a' i ∧ b i = b' i ∧ r i = r' i) (hv : vl ad (a' n) (b' n) (r' n) k t = v) (ho : ∀ i u, i ≠ k → vl ad (a n) (b n) (r n) i u = vl ad (a' n) (b' n) (r' n) i u)
    (kk : G E cl sl ad dm a' b' r' q lo rest) : G E cl sl ad dm a b r pc lo (v :: .ref (ad n) :: rest) := fun H L ls hW hS hl' => by
  subst hq
  obtain ⟨Cn, T, N, ty0, h1, h2, h3, h4, h5, h6, hty, hnm, hfin, hty1, hdc⟩ := F
  obtain ⟨hx, hb, hml, hown, hts, hK, -⟩ := C
  have hCn : Cn = own := by have := hin.2; rw [h1] at this; exact Option.some.inj this
  have hat := (hW.2.1 n hd).2
  rw [ce_o hl] at hat
  have hap := va_apart (own := own) hts h2 ty0 hty hnm hK h1
  obtain ⟨rr, g1, cell, q1, q2, q3, q4⟩ := hat
  have hr : rr = (Cn, T, N) := Option.some.inj (g1.symm.trans h1)
  subst hr
  obtain ⟨hSl, hfc, kC, hkC, hkind⟩ := hK.1 ci _ h1
  obtain ⟨cf, kf, fi, f, hi, hsl⟩ := hSl k h4
  have hlay := hts _ (h2 _ (u_in_lay h4))
  unfold u_lay at hlay
  rw [if_pos hfin] at hlay
  have hst := (u_facts hfc hkC (u_lays hts h2 h4) hi).1
  have hcf : (eM E).cls = cf := by
    obtain ⟨_, _, c', _, _, _, -, -, hf', -, -, -, hown2, -⟩ := Cond.laysFinal_spec hlay
    have e1 : c' = cf := by have := hi.symm.trans hf'; simp at this; exact this.1.symm
    rw [hdc, hCn] at hown2
    rw [← e1]; exact Option.some.inj (hown.symm.trans hown2)
  have h9 := u_fits (v := v) hfc hkC hkind (Or.inr hlay) hi (hty k h4) (by rw [hty1]; exact hn) (by rw [hty1]; exact hf)
  refine W.putFinK hx hb hown (hts _ h3) hi hst hcf hin.1 (by rw [q2]; exact h9) q1 q3 (by rw [hsl]; exact k2_hasslot (q4 k h4)) rfl rfl d fun H' e1 e2 e3 => ?_
  rw [hsl] at e1 ⊢
  have hkl : k < (vls ad (a n) (b n) (r n) 0 (kds ci)).length := by rw [vls_len, h6]; exact h4
  have e4 : (vls ad (a n) (b n) (r n) 0 (kds ci)).set k v = vls ad (a' n) (b' n) (r' n) 0 (kds ci) := vls_set (kds ci) 0 k t h5 (by rw [Nat.zero_add]; exact hv) (fun i u hi => ho i u (by omega))
  refine kk H' _ ls (hW.st hd e2 e3 ?_ hs) (hS.put e2 e3 (hW.2.1 n hd).1) hl'
  rw [ce_o hl]
  exact ⟨_, h1, t_OB.to (V := updV (vp_V (vls ad (a n) (b n) (r n) 0 (kds ci))) k v) ⟨_, e1, q2, q3, t_set q4 hap h4 v⟩ (fun j _ => by rw [vp_updV_set hkl v j, e4])⟩
theorem g_putFi {idx ci k n : Nat} {x : Int32} {ty : FieldType} (C : CX E cc own lev) (F : FP own idx ci k 0 true ty) (d : decode cc pc = .ok (.putfield idx, 3)) (hq : pc + 3 = q) (hl : ly n = .inl ci) (hd : dm n = true) (hn : narrow ty (.int x) = .int x) (hf : fits ty (.int x) = true) (hin : (eH E).name = "<init>" ∧ (vwCl[ci]?).map (·.1) = some own) (kk : G E cl sl ad dm (u2 a n k x) b r q lo rest) : G E cl sl ad dm a b r pc lo (.int x :: .ref (ad n) :: rest) :=
  g_putF C F d hq hl hd hn hf hin (fun i hi => ⟨(u2_n hi).symm, rfl, rfl⟩) (by show Value.int (u2 a n k x n k) = _; rw [u2_s]) (fun i u hi => vl_u2 u hi) kk
theorem g_putFr {idx ci k n m : Nat} {ty : FieldType} (C : CX E cc own lev) (F : FP own idx ci k 2 true ty) (d : decode cc pc = .ok (.putfield idx, 3)) (hq : pc + 3 = q) (hl : ly n = .inl ci) (hd : dm n = true) (hn : narrow ty (.ref (ad m)) = .ref (ad m)) (hf : fits ty (.ref (ad m)) = true) (hin : (eH E).name = "<init>" ∧ (vwCl[ci]?).map (·.1) = some own) (kk : G E cl sl ad dm a b (u2 r n k (some m)) q lo rest) : G E cl sl ad dm a b r pc lo (.ref (ad m) :: .ref (ad n) :: rest) :=
  g_putF C F d hq hl hd hn hf hin (fun i hi => ⟨rfl, rfl, (u2_n hi).symm⟩) (by show va_rf ((u2 r n k (some m) n k).map ad) = _; rw [u2_s]; rfl) (fun i u hi => vl_u2r u hi) kk
/-- Object's constructor -/
theorem g_oinit {idx n : Nat} (C : CX E cc own lev) (w : Cond.methodLink own idx Lib.objectInit ∈ gd ∧ Cond.instanceMethod Lib.objectInit ∈ gd ∧ Cond.code Lib.objectInit ⟨#[0xb1]⟩ 1 none ∈ gd) (d : decode cc pc = .ok (.invokespecial idx, 3)) (hq : pc + 3 = q) (hlev : 0 < lev) (hr : (rest.map fun v => v.category).sum ≤ 8) (kk : G E cl sl ad dm a b r q lo rest) : G E cl sl ad dm a b r pc lo (.ref n :: rest) := fun H L ls hW hS hl => by
  subst hq
  obtain ⟨hx, hb, hml, hown, hts, hK, hf, hlc⟩ := C
  exact W.objInit hx hb hown (hts _ w.1) (hts _ w.2.1) (hts _ w.2.2) rfl (hl.1.trans hml.symm) rfl d (by omega) (by have := lv_room (m := eM E) (pc := pc) (ls := ls) (rest := .ref n :: rest) hr; omega) (kk H L ls hW hS hl)
end GN
theorem ac_I : Cond.arrayClass .int ∈ gd := gd_1 71 (by decide +kernel) rfl
theorem kds_far {n : Nat} (h : 115 ≤ n) : ∀ ci, n + 3 ∉ kds ci := by
  intro ci hm
  have key : ∀ t ∈ kds ci, t < 118 := by
    match ci with
    | 0 => decide
    | 1 => decide
    | 2 => decide
    | 3 => decide
    | 4 => decide
    | 5 => decide
    | 6 => decide
    | _ + 7 => show ∀ t ∈ [2, 0, 2, 0, 2, 0, 2, 2, 2, 0, 2, 2, 2, 2, 2, 2, 2, 2, 0, 0], t < 118; decide
  have := key _ hm
  omega
theorem kds_obj {n : Nat} (h : 17 ≤ n) (h2 : n < 100) : ∀ ci, n + 3 ∉ kds ci := by
  intro ci hm
  have key : ∀ t ∈ kds ci, t < 20 ∨ 104 ≤ t := by
    match ci with
    | 0 => decide
    | 1 => decide
    | 2 => decide
    | 3 => decide
    | 4 => decide
    | 5 => decide
    | 6 => decide
    | _ + 7 => show ∀ t ∈ [2, 0, 2, 0, 2, 0, 2, 2, 2, 0, 2, 2, 2, 2, 2, 2, 2, 2, 0, 0], t < 20 ∨ 104 ≤ t; decide
  have := key _ hm
  omega
/-- references lead to the class's own cells -/
def NR (r : Nat → Nat → Option Nat) : Prop := ∀ i k m, r i k = some m → m < 100
theorem NR.no {r : Nat → Nat → Option Nat} {dm : Nat → Bool} {n : Nat} (h : NR r) (hn : 100 ≤ n) : noref r dm n := fun i k _ e => by
  have := h i k n e
  omega
