/-! THE WORLD: every cell that the law makes has a NAME (a number); a state is: the address of each name (ad), which names there are (dm), and what their slots hold: ints (a), longs (b), references as names (r). -/
def gd : List Cond := lw_tbl.filter goodWord
theorem gd_of {w : Cond} (h : w ∈ lw_tbl) (hg : goodWord w = true) : w ∈ gd := List.mem_filter.mpr ⟨h, hg⟩
theorem gd_1 {w : Cond} (i : Nat) (h : tables_1_1[i]? = some w) (hg : goodWord w = true) : w ∈ gd := gd_of (List.mem_append_right _ (List.mem_append_left _ (List.mem_of_getElem? h))) hg
theorem gd_2 {w : Cond} (i : Nat) (h : tables_1_2[i]? = some w) (hg : goodWord w = true) : w ∈ gd := gd_of (List.mem_append_right _ (List.mem_append_right _ (List.mem_append_left _ (List.mem_of_getElem? h)))) hg
theorem gd_3 {w : Cond} (i : Nat) (h : tables_1_3[i]? = some w) (hg : goodWord w = true) : w ∈ gd := gd_of (List.mem_append_right _ (List.mem_append_right _ (List.mem_append_right _ (List.mem_append_left _ (List.mem_of_getElem? h))))) hg
theorem gd_4 {w : Cond} (i : Nat) (h : tables_1_4[i]? = some w) (hg : goodWord w = true) : w ∈ gd := gd_of (List.mem_append_right _ (List.mem_append_right _ (List.mem_append_right _ (List.mem_append_right _ (List.mem_of_getElem? h))))) hg
theorem gd_s {w : Cond} (i : Nat) (h : (k2_sels lw_privs)[i]? = some w) (hg : goodWord w = true) : w ∈ gd := gd_of (List.mem_append_left _ (List.mem_of_getElem? h)) hg
theorem gd_good : ∀ w ∈ gd, (w.onTables && w.keeps) = true ∨ ∃ ty, w = .arrayClass ty := fun _ h => good_of_word (List.mem_filter.mp h).2
/-- kinds of slots: 0 int, 1 long, 2 a reference, n + 3 the reference to the name n, for ever; 5, 6, 7: the classes 1, 3, 4 while they are made (names 18, 17, 19) -/
def kds : Nat → List Nat
  | 0 => [0, 0, 0, 0, 0, 0, 0, 0, 0]
  | 1 => [9, 10, 11, 12, 13, 14, 15, 16, 17, 18, 19, 1, 0]
  | 2 => [2, 0, 0, 0, 0, 0, 0, 2, 2]
  | 3 => [4, 5, 6, 7, 8, 0, 0, 0]
  | 4 => [104, 0, 105, 0, 106, 0, 107, 108, 109, 0, 110, 111, 112, 113, 114, 115, 116, 117, 0, 0]
  | 5 => [2, 2, 2, 2, 2, 2, 2, 2, 2, 2, 2, 1, 0]
  | 6 => [2, 2, 2, 2, 2, 0, 0, 0]
  | _ => [2, 0, 2, 0, 2, 0, 2, 2, 2, 0, 2, 2, 2, 2, 2, 2, 2, 2, 0, 0]
/-- of a name: an object of a class, or a row of a kind (0 int, 1 long, 2 flights, 3 parties) and a length -/
def lyX : List (Nat ⊕ Nat × Nat) := [.inl 3, .inr (2, 8), .inr (3, 20), .inr (0, 3), .inr (1, 121), .inl 1, .inr (3, 6), .inr (0, 6), .inr (0, 6), .inr (0, 6), .inr (0, 6), .inr (0, 6), .inr (0, 7), .inr (2, 72), .inr (2, 72), .inr (0, 72), .inr (1, 72), .inl 6, .inl 5, .inl 7]
def lyM : List (Nat ⊕ Nat × Nat) := [.inl 4, .inr (0, 56), .inr (0, 180), .inr (0, 4), .inr (0, 121), .inr (0, 121), .inr (0, 6), .inr (0, 432), .inr (0, 432), .inr (0, 6), .inr (0, 6), .inr (0, 8), .inr (0, 8), .inr (0, 6), .inr (0, 6), .inr (0, 0), .inr (0, 0), .inr (0, 0), .inr (0, 7), .inr (0, 9)]
def ly (n : Nat) : Nat ⊕ Nat × Nat := if n < 20 then lyX.getD n (.inr (0, 0)) else if n < 30 then .inl 0 else if n < 100 then .inl 2 else if n < 120 then lyM.getD (n - 100) (.inr (0, 0)) else .inr (1, 1)
theorem ly_F {i : Nat} (h : i < 8) : ly (20 + i) = .inl 0 := by
  unfold ly
  rw [if_neg (by omega), if_pos (by omega)]
theorem ly_P {j : Nat} (h : j < 20) : ly (30 + j) = .inl 2 := by
  unfold ly
  rw [if_neg (by omega), if_neg (by omega), if_pos (by omega)]
abbrev GM : Type := va_G × ClassId × ClassId × ClassId × ClassId
def tysG (g : GM) : List (ClassId × FieldType) := [(g.2.1, .int), (g.2.2.1, .long), (g.2.2.2.1, .object RX0), (g.2.2.2.2, .object RX2)]
def vl (ad : Nat → Nat) (a : Nat → Int32) (b : Nat → Int64) (r : Nat → Option Nat) (k : Nat) : Nat → Value
  | 0 => .int (a k)
  | 1 => .long (b k)
  | 2 => va_rf ((r k).map ad)
  | n + 3 => .ref (ad n)
def vls (ad : Nat → Nat) (a : Nat → Int32) (b : Nat → Int64) (r : Nat → Option Nat) : Nat → List Nat → List Value
  | _, [] => []
  | k, t :: ts => vl ad a b r k t :: vls ad a b r (k + 1) ts
theorem vls_len {ad : Nat → Nat} {a : Nat → Int32} {b : Nat → Int64} {r : Nat → Option Nat} : ∀ (ts : List Nat) (k : Nat), (vls ad a b r k ts).length = ts.length
  | [], _ => rfl
  | t :: ts, k => by simp [vls, vls_len ts]
theorem vls_get {ad : Nat → Nat} {a : Nat → Int32} {b : Nat → Int64} {r : Nat → Option Nat} : ∀ (ts : List Nat) (k j t : Nat), ts[j]? = some t → (vls ad a b r k ts)[j]? = some (vl ad a b r (k + j) t)
  | [], _, j, t, h => by simp at h
  | t0 :: ts, k, 0, t, h => by
    simp at h
    subst h
    simp [vls]
  | t0 :: ts, k, j + 1, t, h => by
    simp at h
    have h1 := vls_get (ad := ad) (a := a) (b := b) (r := r) ts (k + 1) j t h
    simp only [vls, List.getElem?_cons_succ]
    rw [h1, show k + 1 + j = k + (j + 1) by omega]
/-- one slot written -/
theorem vls_set {ad : Nat → Nat} {a a' : Nat → Int32} {b b' : Nat → Int64} {r r' : Nat → Option Nat} {v : Value} (ts : List Nat) (k j t : Nat) (hj : ts[j]? = some t) (hv : vl ad a' b' r' (k + j) t = v) (ho : ∀ i u, i ≠ k + j → vl ad a b r i u = vl ad a' b' r' i u) : (vls ad a b r k ts).set j v = vls ad a' b' r' k ts := by
  apply List.ext_getElem?
  intro i
  by_cases hi : i = j
  · subst hi
    rw [List.getElem?_set_self (by rw [vls_len]; exact (List.getElem?_eq_some_iff.mp hj).1), vls_get ts k i t hj, hv]
  · rw [List.getElem?_set_ne (Ne.symm hi)]
    cases h : ts[i]? with
    | none =>
      have hl : ts.length ≤ i := List.getElem?_eq_none_iff.mp h
      rw [List.getElem?_eq_none (by rw [vls_len]; exact hl), List.getElem?_eq_none (by rw [vls_len]; exact hl)]
    | some u =>
      rw [vls_get ts k i u h, vls_get ts k i u h, ho (k + i) u (by omega)]
/-- the cell of a name -/
def ce (g : GM) (ad : Nat → Nat) (a : Nat → Nat → Int32) (b : Nat → Nat → Int64) (r : Nat → Nat → Option Nat) (n : Nat) : va_E := match ly n with
  | .inl ci => .inr (ci, vls ad (a n) (b n) (r n) 0 (kds ci))
  | .inr (0, len) => .inl (g.2.1, len, .inl (a n))
  | .inr (1, len) => .inl (g.2.2.1, len, .inr (.inl (b n)))
  | .inr (2, len) => .inl (g.2.2.2.1, len, .inr (.inr (.inr (.inr (fun k => (r n k).map ad)))))
  | .inr (_ + 3, len) => .inl (g.2.2.2.2, len, .inr (.inr (.inr (.inr (fun k => (r n k).map ad)))))
theorem ce_o {g : GM} {ad : Nat → Nat} {a : Nat → Nat → Int32} {b : Nat → Nat → Int64} {r : Nat → Nat → Option Nat} {n ci : Nat} (h : ly n = .inl ci) : ce g ad a b r n = .inr (ci, vls ad (a n) (b n) (r n) 0 (kds ci)) := by unfold ce; rw [h]
theorem ce_i {g : GM} {ad : Nat → Nat} {a : Nat → Nat → Int32} {b : Nat → Nat → Int64} {r : Nat → Nat → Option Nat} {n len : Nat} (h : ly n = .inr (0, len)) : ce g ad a b r n = .inl (g.2.1, len, .inl (a n)) := by unfold ce; rw [h]
theorem ce_l {g : GM} {ad : Nat → Nat} {a : Nat → Nat → Int32} {b : Nat → Nat → Int64} {r : Nat → Nat → Option Nat} {n len : Nat} (h : ly n = .inr (1, len)) : ce g ad a b r n = .inl (g.2.2.1, len, .inr (.inl (b n))) := by unfold ce; rw [h]
theorem ce_f {g : GM} {ad : Nat → Nat} {a : Nat → Nat → Int32} {b : Nat → Nat → Int64} {r : Nat → Nat → Option Nat} {n len : Nat} (h : ly n = .inr (2, len)) : ce g ad a b r n = .inl (g.2.2.2.1, len, .inr (.inr (.inr (.inr (fun k => (r n k).map ad))))) := by unfold ce; rw [h]
theorem ce_p {g : GM} {ad : Nat → Nat} {a : Nat → Nat → Int32} {b : Nat → Nat → Int64} {r : Nat → Nat → Option Nat} {n len : Nat} (h : ly n = .inr (3, len)) : ce g ad a b r n = .inl (g.2.2.2.2, len, .inr (.inr (.inr (.inr (fun k => (r n k).map ad))))) := by unfold ce; rw [h]
/-- a cell depends on its own name's slots alone -/
theorem ce_cong {g : GM} {ad : Nat → Nat} {a a' : Nat → Nat → Int32} {b b' : Nat → Nat → Int64} {r r' : Nat → Nat → Option Nat} {n : Nat} (h1 : a n = a' n) (h2 : b n = b' n) (h3 : r n = r' n) : ce g ad a b r n = ce g ad a' b' r' n := by
  unfold ce
  rw [h1, h2, h3]
def Wd (g : GM) (bs : Nat) (ad : Nat → Nat) (dm : Nat → Bool) (a : Nat → Nat → Int32) (b : Nat → Nat → Int64) (r : Nat → Nat → Option Nat) (H : Heap) : Prop :=
  bs ≤ H.size ∧ (∀ n, dm n = true → bs ≤ ad n ∧ va_at g.1 vwCl (ad n, ce g ad a b r n) H) ∧ ∀ n k, dm n = true → dm k = true → ad n = ad k → n = k
/-- one slot of one name -/
def u2 {α : Type} (f : Nat → Nat → α) (n k : Nat) (v : α) : Nat → Nat → α := fun i j => if i = n then (if j = k then v else f i j) else f i j
theorem u2_s {α : Type} {f : Nat → Nat → α} {n k : Nat} {v : α} : u2 f n k v n k = v := by simp [u2]
theorem u2_n {α : Type} {f : Nat → Nat → α} {n k i : Nat} {v : α} (h : i ≠ n) : u2 f n k v i = f i := by
  funext j
  simp [u2, h]
theorem u2_k {α : Type} {f : Nat → Nat → α} {n k j : Nat} {v : α} (h : j ≠ k) (i : Nat) : u2 f n k v i j = f i j := by
  simp [u2, h]
/-- the world behind a store into the cell of n -/
theorem Wd.st {g : GM} {bs : Nat} {ad : Nat → Nat} {dm : Nat → Bool} {a a' : Nat → Nat → Int32} {b b' : Nat → Nat → Int64} {r r' : Nat → Nat → Option Nat} {H H1 : Heap} {n : Nat} (h : Wd g bs ad dm a b r H) (hn : dm n = true) (hz : H1.size = H.size) (ho : ∀ q, q ≠ ad n → H1[q]? = H[q]?) (hc : va_at g.1 vwCl (ad n, ce g ad a' b' r' n) H1) (hs : ∀ i, i ≠ n → a i = a' i ∧ b i = b' i ∧ r i = r' i) : Wd g bs ad dm a' b' r' H1 := by
  refine ⟨by rw [hz]; exact h.1, fun i hi => ⟨(h.2.1 i hi).1, ?_⟩, h.2.2⟩
  by_cases e : i = n
  · subst e
    exact hc
  · obtain ⟨h1, h2, h3⟩ := hs i e
    rw [← ce_cong h1 h2 h3]
    exact (h.2.1 i hi).2.kept (ho _ (fun z => e (h.2.2 i n hi hn z)))
