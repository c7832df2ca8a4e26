section X42
variable {g : GM} {bs : Nat} {l : Launch} {ad : Nat → Nat} {dm : Nat → Bool} {a : Nat → Nat → Int32} {b : Nat → Nat → Int64} {r : Nat → Nat → Option Nat} {nF nP : Nat} {fl pa nu : Nat → Int32}
variable {D : MD} {n k : Nat} {fr : Nat → Int} {q : Nat → Nat} {pl : Nat → Nat → Nat} {x : Nat → Nat} {tw : Nat → Option Nat}
/-- seats of a way given away -/
def flA (c : Nat) (s : Int32) (a : Nat → Nat → Int32) : Nat → Nat → Int32 := fun m j => if j = 8 ∧ (m = 20 + c / 9 ∨ (m = 19 + c % 9 ∧ c % 9 ≠ 0)) then a m j - s else a m j
theorem flA_n {c m : Nat} {s : Int32} (h : m < 20 ∨ 29 ≤ m) (hc : c / 9 < 9) : flA c s a m = a m := by
  funext j
  unfold flA
  rw [if_neg (by omega)]
theorem flA_1 {c : Nat} {s : Int32} (h : c % 9 = 0) : u2 a (20 + c / 9) 8 (a (20 + c / 9) 8 - s) = flA c s a := by
  funext m j
  unfold flA u2
  by_cases e : m = 20 + c / 9
  · subst e
    by_cases e2 : j = 8
    · subst e2; rw [if_pos rfl, if_pos rfl, if_pos ⟨rfl, Or.inl rfl⟩]
    · rw [if_pos rfl, if_neg e2, if_neg (fun z => e2 z.1)]
  · rw [if_neg e, if_neg (by omega)]
theorem flA_2 {c fb : Nat} {s : Int32} (h : c % 9 = fb + 1) (hne : fb ≠ c / 9) : u2 (u2 a (20 + c / 9) 8 (a (20 + c / 9) 8 - s)) (20 + fb) 8 (u2 a (20 + c / 9) 8 (a (20 + c / 9) 8 - s) (20 + fb) 8 - s) = flA c s a := by
  rw [u2_n (show 20 + fb ≠ 20 + c / 9 by omega)]
  funext m j
  unfold flA u2
  by_cases e1 : m = 20 + fb
  · subst e1
    by_cases e2 : j = 8
    · subst e2; rw [if_pos rfl, if_pos rfl, if_pos ⟨rfl, Or.inr (by omega)⟩]
    · rw [if_pos rfl, if_neg e2, if_neg (show ¬ 20 + fb = 20 + c / 9 by omega), if_neg (fun z => e2 z.1)]
  · rw [if_neg e1]
    by_cases e : m = 20 + c / 9
    · subst e
      by_cases e2 : j = 8
      · subst e2; rw [if_pos rfl, if_pos rfl, if_pos ⟨rfl, Or.inl rfl⟩]
      · rw [if_pos rfl, if_neg e2, if_neg (fun z => e2 z.1)]
    · rw [if_neg e, if_neg (by omega)]
theorem i32_back (v s : Int32) : v - s - -s = v := by
  rw [Int32.sub_eq_add_neg (v - s), Int32.neg_neg, Int32.sub_add_cancel]
theorem flA_back {c m : Nat} {s : Int32} {a1 : Nat → Nat → Int32} (h : a1 m = flA c s a m) : flA c (-s) a1 m = a m := by
  funext j
  show (if j = 8 ∧ (m = 20 + c / 9 ∨ (m = 19 + c % 9 ∧ c % 9 ≠ 0)) then a1 m j - -s else a1 m j) = a m j
  rw [h]
  show (if j = 8 ∧ (m = 20 + c / 9 ∨ (m = 19 + c % 9 ∧ c % 9 ≠ 0)) then (if j = 8 ∧ (m = 20 + c / 9 ∨ (m = 19 + c % 9 ∧ c % 9 ≠ 0)) then a m j - s else a m j) - -s else (if j = 8 ∧ (m = 20 + c / 9 ∨ (m = 19 + c % 9 ∧ c % 9 ≠ 0)) then a m j - s else a m j)) = a m j
  split
  · exact i32_back _ _
  · rfl
theorem m_X1_fill (I : IX dm nF nP) (hD : Dok D n) (hco : CO D n nF) (M : XM D n nP q pl a b r) {i w : Nat} (hi : i < n) (hw : w < D.2.1 i) (s : Int32) : MT g bs l yX1_fill cX1_fill 3 none 0 0 0 [.ref (ad 5), .int (nI (12 * i + w)), .int s] ad dm a b r (PX none ad dm (flA (D.2.2.1 i (pl i w)) s a) b r) := by
  obtain ⟨c1, c2, c3⟩ := hco i hi _ (M.2.2 i hi w hw).1
  rcases hb9 : D.2.2.1 i (pl i w) % 9 with _ | fb
  · rw [← flA_1 hb9]
    exact m_X1_fill_n I hD hco M hi hw s hb9
  · rw [← flA_2 hb9 (by omega)]
    exact m_X1_fill_r I hD hco M hi hw s hb9 (by omega)
/-- the state of the choosing -/
def CHS (D : MD) (n nF nP : Nat) (fr : Nat → Int) (q : Nat → Nat) (pl : Nat → Nat → Nat) (tw : Nat → Option Nat) (x : Nat → Nat) (i : Nat) (a : Nat → Nat → Int32) (b : Nat → Nat → Int64) (r : Nat → Nat → Option Nat) : Prop := XM D n nP q pl a b r ∧ XF D nF fr x i a ∧ XP D n a ∧ (∀ j, j < n → a 8 j = twI (tw j)) ∧ ∀ j, j < i → ENC D pl (a 10 j) j (x j)
def XBs (D : MD) (n nF : Nat) (fr : Nat → Int) (pl : Nat → Nat → Nat) (a : Nat → Nat → Int32) (b : Nat → Nat → Int64) (sc : Nat) : Prop := b 5 11 = lN sc ∧ ∃ z, cn D n z ∧ fe D nF (capI fr) n z ∧ sm D z n = sc ∧ ∀ j, j < n → ENC D pl (a 11 j) j (z j)
def TWok (D : MD) (n : Nat) (tw : Nat → Option Nat) : Prop := ∀ i, i < n → ∀ t, tw i = some t → t < i ∧ D.2.2.2.2 t < D.2.2.2.2 i ∧ D.1 t = D.1 i ∧ D.2.1 t = D.2.1 i ∧ (∀ p, D.2.2.1 t p = D.2.2.1 i p) ∧ ∀ p, D.2.2.2.1 t p = D.2.2.2.1 i p
def CF (i : Nat) (a : Nat → Nat → Int32) (b : Nat → Nat → Int64) (a' : Nat → Nat → Int32) (b' : Nat → Nat → Int64) : Prop := (∀ m, m ≠ 10 → m ≠ 11 → a' m = a m) ∧ (∀ j, j < i → a' 10 j = a 10 j) ∧ ∀ m, m ≠ 5 → b' m = b m
theorem CF.rf {i : Nat} : CF i a b a b := ⟨fun _ _ _ => rfl, fun _ _ => rfl, fun _ _ => rfl⟩
theorem XM.frm {a' : Nat → Nat → Int32} {b' : Nat → Nat → Int64} (M : XM D n nP q pl a b r) (h : ∀ m, m ≠ 10 → m ≠ 11 → (m < 20 ∨ 29 ≤ m) → a' m = a m) (hb : b' 16 = b 16) : XM D n nP q pl a' b' r := by
  refine ⟨by rw [h 5 (by decide) (by decide) (by decide)]; exact M.1, fun i hi => ?_, fun i hi w hw => ?_⟩
  · rw [h 9 (by decide) (by decide) (by decide), h (30 + q i) (by omega) (by omega) (by omega)]
    exact M.2.1 i hi
  · rw [h 15 (by decide) (by decide) (by decide), hb]
    exact M.2.2 i hi w hw
theorem CHS.frm {a' : Nat → Nat → Int32} {b' : Nat → Nat → Int64} {i : Nat} (S : CHS D n nF nP fr q pl tw x i a b r) (h : CF i a b a' b') : CHS D n nF nP fr q pl tw x i a' b' r := by
  obtain ⟨M, Fx, hP, hT, hE⟩ := S
  refine ⟨M.frm (fun m m1 m2 _ => h.1 m m1 m2) (h.2.2 16 (by decide)), fun f hf => by rw [h.1 (20 + f) (by omega) (by omega)]; exact Fx f hf, fun i hi => by rw [h.1 12 (by decide) (by decide)]; exact hP i hi, fun j hj => by rw [h.1 8 (by decide) (by decide)]; exact hT j hj, fun j hj => by rw [h.2.1 j hj]; exact hE j hj⟩
theorem XBs.frm {a' : Nat → Nat → Int32} {sc : Nat} (h : XBs D n nF fr pl a b sc) (h2 : a' 11 = a 11) : XBs D n nF fr pl a' b sc := by
  obtain ⟨h1, z, z1, z2, z3, z4⟩ := h
  exact ⟨h1, z, z1, z2, z3, by rw [h2]; exact z4⟩
theorem XBs.lt {sc : Nat} (hD : Dok D n) (h : XBs D n nF fr pl a b sc) : sc < 2 ^ 60 := by
  obtain ⟨h1, z, z1, z2, z3, z4⟩ := h
  have := sm_le hD (y := z) (Nat.le_refl n)
  omega
theorem sm_u {i p : Nat} : sm D (u1 x i p) (i + 1) = sm D x i + mW D i p := by
  have e1 : sm D (u1 x i p) (i + 1) = sm D (u1 x i p) i + mW D i (u1 x i p i) := rfl
  rw [e1, u1_s, sm_cong (z := x) (fun k hk => u1_n (by omega))]
theorem fit_t {i p f : Nat} (hf : fitb D fr x k i p = true) (hu : D.2.2.1 i p / 9 = f ∨ D.2.2.1 i p % 9 = f + 1) : us D f x k + D.1 i ≤ capI fr f := by
  unfold fitb at hf
  simp at hf
  rcases hu with hu | hu
  · rw [← hu]; exact hf.1
  · rcases hf.2 with h | h
    · omega
    · rw [hu] at h; exact h
theorem i32_sub {v : Int32} {s : Nat} (h : (s : Int) ≤ v.toInt) (hs : s < 1000) : (v - nI s).toInt = v.toInt - (s : Int) := by
  have h1 : (nI s).toInt = (s : Int) := nI_toInt (by omega)
  have h2 := v.toInt_lt
  have h3 := v.le_toInt
  rw [Int32.toInt_sub, h1]
  rw [Int.bmod_eq_of_le (by omega) (by omega)]
/-- the next one has this way -/
theorem CHS.up {i w : Nat} {a1 : Nat → Nat → Int32} (hD : Dok D n) (hco : CO D n nF) (hnF : nF ≤ 8) (hi : i < n) (hw : w < D.2.1 i) (S : CHS D n nF nP fr q pl tw x i a b r) (hf : fitb D fr x i i (pl i w) = true) (h1 : a1 = flA (D.2.2.1 i (pl i w)) (nI (D.1 i)) (u2 a 10 i (nI w))) : CHS D n nF nP fr q pl tw (u1 x i (pl i w)) (i + 1) a1 b r := by
  obtain ⟨M, Fx, hP, hT, hE⟩ := S
  obtain ⟨p1, -⟩ := M.2.2 i hi w hw
  obtain ⟨c1, c2, c3⟩ := hco i hi _ p1
  obtain ⟨d1, d2, -⟩ := hD.2 i hi
  have hA : ∀ m, m ≠ 10 → (m < 20 ∨ 29 ≤ m) → a1 m = a m := fun m m1 m2 => by rw [h1, flA_n m2 (by omega), u2_n m1]
  have hA10 : a1 10 = u2 a 10 i (nI w) 10 := by rw [h1, flA_n (by decide) (by omega)]
  refine ⟨M.frm (fun m m1 _ m2 => hA m m1 m2) rfl, fun f hf2 => ?_, fun j hj => by rw [hA 12 (by decide) (by decide)]; exact hP j hj, fun j hj => by rw [hA 8 (by decide) (by decide)]; exact hT j hj, fun j hj => ?_⟩
  · have F1 := Fx f hf2
    rw [h1, us_u]
    unfold flA
    rw [u2_n (show 20 + f ≠ 10 by omega)]
    by_cases hu : D.2.2.1 i (pl i w) / 9 = f ∨ D.2.2.1 i (pl i w) % 9 = f + 1
    · have h9 := fit_t hf hu
      rw [if_pos (by omega), i32_sub (by unfold capI at h9; omega) (by omega), F1, uW, if_pos ⟨p1, hu⟩]
      omega
    · rw [if_neg (by omega), F1, uW, if_neg (fun z => hu z.2)]
      rfl
  · rw [hA10]
    by_cases e : j = i
    · subst e
      rw [u2_s, u1_s]
      exact Or.inl ⟨p1, w, hw, rfl, rfl⟩
    · rw [u2_k e, u1_n e]
      exact hE j (by omega)
theorem CHS.no {i : Nat} (hD : Dok D n) (hi : i < n) (S : CHS D n nF nP fr q pl tw x i a b r) : CHS D n nF nP fr q pl tw (u1 x i 15) (i + 1) (u2 a 10 i (nI (D.2.1 i))) b r := by
  obtain ⟨M, Fx, hP, hT, hE⟩ := S
  refine ⟨M.frm (fun m m1 _ m2 => u2_n m1) rfl, fun f hf2 => ?_, fun j hj => by rw [u2_n (by decide)]; exact hP j hj, fun j hj => by rw [u2_n (by decide)]; exact hT j hj, fun j hj => ?_⟩
  · rw [us_u, uW_15 hD hi, u2_n (by omega)]
    exact Fx f hf2
  · by_cases e : j = i
    · subst e
      rw [u2_s, u1_s]
      exact Or.inr ⟨rfl, rfl⟩
    · rw [u2_k e, u1_n e]
      exact hE j (by omega)
theorem us_up {i p : Nat} (hu : ∀ f, f < nF → us D f x i ≤ capI fr f) (hf : fitb D fr x i i p = true) : ∀ f, f < nF → us D f (u1 x i p) (i + 1) ≤ capI fr f := fun f hf2 => by
  rw [us_u]
  by_cases h : p < D.2.1 i ∧ (D.2.2.1 i p / 9 = f ∨ D.2.2.1 i p % 9 = f + 1)
  · rw [uW, if_pos h]
    exact fit_t hf h.2
  · rw [uW, if_neg h]
    exact hu f hf2
theorem CF.up {i c : Nat} {s v : Int32} {a1 a2 : Nat → Nat → Int32} {b1 b2 : Nat → Nat → Int64} (hc : c / 9 < 9) (hc2 : c % 9 ≤ 8) (h : CF i a b a1 b1) (h2 : CF (i + 1) (flA c s (u2 a1 10 i v)) b1 a2 b2) : CF i a b (flA c (-s) a2) b2 := by
  refine ⟨fun m m1 m2 => ?_, fun j hj => ?_, fun m hm => by rw [h2.2.2 m hm]; exact h.2.2 m hm⟩
  · rw [flA_back (h2.1 m m1 m2), u2_n m1]
    exact h.1 m m1 m2
  · rw [flA_n (by decide) hc, h2.2.1 j (by omega), flA_n (by decide) hc, u2_k (by omega)]
    exact h.2.1 j hj
theorem CF.no {i : Nat} {v : Int32} {a1 a2 : Nat → Nat → Int32} {b1 b2 : Nat → Nat → Int64} (h : CF i a b a1 b1) (h2 : CF (i + 1) (u2 a1 10 i v) b1 a2 b2) : CF i a b a2 b2 := by
  refine ⟨fun m m1 m2 => ?_, fun j hj => ?_, fun m hm => by rw [h2.2.2 m hm]; exact h.2.2 m hm⟩
  · rw [h2.1 m m1 m2, u2_n m1]
    exact h.1 m m1 m2
  · rw [h2.2.1 j (by omega), u2_k (by omega)]
    exact h.2.1 j hj
def tpl (tw : Nat → Option Nat) (x : Nat → Nat) (i : Nat) : Nat := match tw i with
  | none => 0
  | some t => x t
theorem tpl_le (hD : Dok D n) (htw : TWok D n tw) {i : Nat} (hi : i < n) (hc : cn D i x) : tpl tw x i ≤ 15 := by
  unfold tpl
  rcases h : tw i with _ | t
  · exact Nat.zero_le _
  · obtain ⟨h1, -⟩ := htw i hi t h
    have h2 := (hD.2 t (by omega)).2.2.1
    have := hc t h1
    show x t ≤ 15
    omega
theorem m_X1_twinPlace (I : IX dm nF nP) (hD : Dok D n) (hco : CO D n nF) (htw : TWok D n tw) {i : Nat} (S : CHS D n nF nP fr q pl tw x i a b r) (hi : i < n) : MT g bs l yX1_twinPlace cX1_twinPlace 3 (some .int) 0 0 0 [.ref (ad 5), .int (nI i)] ad dm a b r (PX (some (.int (nI (tpl tw x i)))) ad dm a b r) := by
  have h1 := S.2.2.2.1 i hi
  unfold tpl
  rcases h : tw i with _ | t
  · rw [h] at h1
    exact m_X1_twinPlace_n I hD hco S.1 hi h1
  · obtain ⟨h2, -⟩ := htw i hi t h
    rw [h] at h1
    exact m_X1_twinPlace_s I hD hco S.1 hi h2 h1 (S.2.2.2.2 t h2)
theorem tpl_ok (hD : Dok D n) (htw : TWok D n tw) {i : Nat} (hi : i < n) {xs : Nat → Nat} (ho : Opt D nF (capI fr) n xs) (hx : ∀ j, j < i → xs j = x j) : tpl tw x i ≤ xs i := by
  unfold tpl
  rcases h : tw i with _ | t
  · exact Nat.zero_le _
  · obtain ⟨h1, h2, h3, h4, h5, h6⟩ := htw i hi t h
    show x t ≤ xs i
    rw [← hx t h1]
    exact no_swap hD ho (by omega) hi h2 h3 h4 h5 h6
theorem mW_pos (hD : Dok D n) {i p : Nat} (hi : i < n) (hp : p < D.2.1 i) : 0 < mW D i p := by
  obtain ⟨d1, d2, d3, d4, d5⟩ := hD.2 i hi
  have := d5 p hp
  have h1 : 0 < gW D i p := by
    unfold gW
    rw [if_pos hp]
    exact Nat.mul_pos d1 (by omega)
  unfold mW
  omega
theorem mW_0 {i p : Nat} (hp : D.2.1 i ≤ p) : mW D i p = 0 := by
  unfold mW gW dW
  rw [if_neg (by omega), if_neg (by omega), Nat.zero_mul]
theorem bhr_no (hD : Dok D n) (hpl : PLok D n pl) {i w t : Nat} (hi : i < n) {xs : Nat → Nat} (ho : Opt D nF (capI fr) n xs) (hx : ∀ j, j < i → xs j = x j) (hw : (w < D.2.1 i ∧ xs i = pl i w ∧ pl i w < D.2.1 i) ∨ (w = D.2.1 i ∧ xs i = 15)) (ht : t < w) (hpt : pl i t < D.2.1 i) (hr : ∀ f, (D.2.2.1 i (pl i t) / 9 = f ∨ D.2.2.1 i (pl i t) % 9 = f + 1) → hrb D n fr x i pl i w f = true) : False := by
  have d3 := (hD.2 i hi).2.2.1
  refine no_better ho hi hpt ?_ (fun f hf hu => ?_)
  · rcases hw with ⟨h1, h2, h3⟩ | ⟨h1, h2⟩
    · rw [h2]; exact (hpl i hi).1 t w ht h1
    · rw [h2, mW_0 (by omega)]; exact mW_pos hD hi hpt
  · have h9 := hr f hu
    unfold hrb at h9
    simp at h9
    rw [us_cong hx]
    rcases h9 with h9 | ⟨h9, h8⟩
    · exact Or.inl h9
    · rcases hw with ⟨h1, h2, h3⟩ | ⟨h1, h2⟩
      · rw [h2]; exact Or.inr ⟨h3, h8⟩
      · omega
def cP (D : MD) (n nF : Nat) (fr : Nat → Int) (pl : Nat → Nat → Nat) (x : Nat → Nat) (i sc : Nat) (ad : Nat → Nat) (dm : Nat → Bool) (a : Nat → Nat → Int32) (b : Nat → Nat → Int64) (r : Nat → Nat → Option Nat) : PO := fun v ad0 dm0 a0 b0 r0 => v = none ∧ ad0 = ad ∧ dm0 = dm ∧ r0 = r ∧ CF i a b a0 b0 ∧ ∃ sc', sc ≤ sc' ∧ XBs D n nF fr pl a0 b0 sc' ∧ ∀ xs, Opt D nF (capI fr) n xs → (∀ j, j < i → xs j = x j) → sm D xs n ≤ sc'

set_option maxHeartbeats 4000000 in
set_option maxRecDepth 100000 in
theorem m_X1_choose (I : IX dm nF nP) (hD : Dok D n) (hco : CO D n nF) (hpl : PLok D n pl) (htw : TWok D n tw) : ∀ (t i : Nat) (a : Nat → Nat → Int32) (b : Nat → Nat → Int64) (x : Nat → Nat) (sc : Nat), i + t = n → CHS D n nF nP fr q pl tw x i a b r → cn D i x → (∀ f, f < nF → us D f x i ≤ capI fr f) → XBs D n nF fr pl a b sc → MT g bs l yX1_choose cX1_choose 7 none (3 + t) 0 0 [.ref (ad 5), .int (nI i), .long (lN (sm D x i))] ad dm a b r (cP D n nF fr pl x i sc ad dm a b r) := by
  have hn6 := hD.1
  have hnF := I.1
  intro t
  induction t with
  | zero =>
    intro i a b x sc hin S hc hu hB
    have hs9 := sm_le hD (y := x) (m := i) (by omega)
    refine mt_of (by decide) [some (.ref (ad 5)), some (.int (nI i)), some (.long (lN (sm D x i))), none, none, none, none] rfl (Nat.le_of_ble_eq_true rfl) ?_
    intro E hg hbs hl hN C RT9 hcells hslots hname
    refine g_iload_1 (q := 1) C dX1_choose_0 rfl ?_
    refine g_aload_0 (q := 2) C dX1_choose_1 rfl ?_
    refine g_geti (q := 5) C f_X1_56 dX1_choose_2 rfl rfl (IX.d0 I _ (by decide)) ?_
    refine g_icmp_lt (tgt := 14) (q := 8) C dX1_choose_5 rfl (by decide) (fun c_5 => absurd c_5 (by rw [S.1.1, nI_ltI (by omega) (by omega)]; omega)) (fun c_5 => ?_)
    refine g_aload_0 (q := 9) C dX1_choose_8 rfl ?_
    refine g_lload_2 (q := 10) C dX1_choose_9 rfl ?_
    refine g_cv1g (q := 13) C cv_X1_92 dX1_choose_10 rfl rfl (IX.d0 I _ (by decide)) (m_X1_keepIfBetter I hD hco S.1 hB.1 (hB.lt hD) (by omega)) (by omega) (Nat.le_of_ble_eq_true rfl) ⟨Nat.zero_le _, Nat.zero_le _⟩ (fun v ad' dm' a' b' r' hp => ?_)
    obtain ⟨rfl, rfl, rfl, rfl, hp⟩ := hp
    change G E 0 0 _ _ a' b' _ 13 _ []
    exact g_vret C RT9 dX1_choose_13 (by
  refine ⟨rfl, rfl, rfl, rfl, ?_⟩
  rcases hp with ⟨p1, rfl, rfl⟩ | ⟨p1, p2, p3, rfl⟩
  · exact ⟨CF.rf, sc, Nat.le_refl _, hB, fun xs h1 h2 => by
      rw [sm_cong (z := x) (fun j hj => h2 j (by omega)), show n = i by omega]
      exact p1⟩
  · refine ⟨⟨fun m m1 m2 => p2 m m2, fun j hj => by rw [p2 10 (by decide)], fun m hm => u2_n hm⟩, sm D x i, by omega, ⟨u2_s, x, by rw [show i = n by omega] at hc; exact hc, fun f hf => by rw [show n = i by omega]; exact hu f hf, by rw [show n = i by omega], fun j hj => by rw [p3 j hj]; exact S.2.2.2.2 j (by omega)⟩, fun xs h1 h2 => by
      rw [sm_cong (z := x) (fun j hj => h2 j (by omega)), show i = n by omega]
      exact Nat.le_refl _⟩)
  | succ t ih =>
    intro i a b x sc hin S hc hu hB
    have hs9 := sm_le hD (y := x) (m := i) (by omega)
    refine mt_of (by decide) [some (.ref (ad 5)), some (.int (nI i)), some (.long (lN (sm D x i))), none, none, none, none] rfl (Nat.le_of_ble_eq_true rfl) ?_
    intro E hg hbs hl hN C RT9 hcells hslots hname
    subst hg hbs hl
    have hi9 : i < n := by omega
    obtain ⟨d1, d2, d3, d4, d5⟩ := hD.2 i hi9
    have htp := tpl_le hD htw hi9 hc
    have lw : ∀ (s w : Nat) (a0 : Nat → Nat → Int32) (b0 : Nat → Nat → Int64) (sc0 : Nat) (e6 : Option Value), w + s = D.2.1 i → CF i a b a0 b0 → XBs D n nF fr pl a0 b0 sc0 → sc ≤ sc0 → (∀ xs, Opt D nF (capI fr) n xs → (∀ j, j < i → xs j = x j) → (∃ w', w' < w ∧ xs i = pl i w') → sm D xs n ≤ sc0) → G E 0 0 ad dm a0 b0 r 34 [some (.ref (ad 5)), some (.int (nI i)), some (.long (lN (sm D x i))), none, some (.int (nI (tpl tw x i))), some (.int (nI w)), e6] [] := by
      intro s
      induction s with
      | zero =>
      intro w a0 b0 sc0 e6 hws hcf hB0 hsc hcov
      have S0 := S.frm hcf
      obtain ⟨n1, n2, n3, n4⟩ := S0.1.2.1 i hi9
      refine g_iload_5 (q := 36) C dX1_choose_34 rfl ?_
      refine g_aload_0 (q := 37) C dX1_choose_36 rfl ?_
      refine g_getc (q := 40) (m := 9) C f_X1_24 dX1_choose_37 rfl rfl (IX.d0 I _ (by decide)) ?_
      refine g_iload_1 (q := 41) C dX1_choose_40 rfl ?_
      refine g_ia (q := 42) C dX1_choose_41 rfl rfl (IX.d0 I _ (by decide)) rfl (by omega) (by decide) ?_
      refine g_icmp_ge (tgt := 147) (q := 45) C dX1_choose_42 rfl (by decide) (fun c_42 => ?_) (fun c_42 => absurd (by rw [n4]; exact nI_le (by omega) (by omega)) c_42)
      refine g_aload_0 (q := 148) C dX1_choose_147 rfl ?_
      refine g_iload_1 (q := 149) C dX1_choose_148 rfl ?_
      refine g_aload_0 (q := 150) C dX1_choose_149 rfl ?_
      refine g_getc (q := 153) (m := 9) C f_X1_24 dX1_choose_150 rfl rfl (IX.d0 I _ (by decide)) ?_
      refine g_iload_1 (q := 154) C dX1_choose_153 rfl ?_
      refine g_ia (q := 155) C dX1_choose_154 rfl rfl (IX.d0 I _ (by decide)) rfl (by omega) (by decide) ?_
      rw [n4]
      refine g_cv2g (q := 158) C cv_X1_108 dX1_choose_155 rfl rfl (IX.d0 I _ (by decide)) (m_X1_betterHasRoom I hD hco S0.1 S0.2.1 S0.2.2.1 hi9 (Nat.le_refl _)) (by omega) (Nat.le_of_ble_eq_true rfl) ⟨Nat.zero_le _, Nat.zero_le _⟩ (fun v ad' dm' a' b' r' hp => ?_)
      obtain ⟨q1, q2, q3, q4, q5, c9, rfl, hc9⟩ := hp
      have q1 := q1.symm
      have q2 := q2.symm
      have q3 := q3.symm
      have q4 := q4.symm
      have q5 := q5.symm
      subst q1 q2 q3 q4 q5
      change G E 0 0 _ _ _ _ _ 158 _ [.int (bI c9)]
      refine g_ifneb (tgt := 181) (q := 161) C dX1_choose_158 rfl (by decide) (fun c_158 => ?_) (fun c_158 => ?_)
      · exact g_vret C RT9 dX1_choose_181 (by
          obtain ⟨t9, t1, t2⟩ := hc9 c_158
          refine ⟨rfl, rfl, rfl, rfl, hcf, sc0, hsc, hB0, fun xs h1 h2 => ?_⟩
          rcases h1.1 i hi9 with hx | hx
          · obtain ⟨w', w1, w2⟩ := (hpl i hi9).2 _ hx
            exact hcov xs h1 h2 ⟨w', by omega, w2.symm⟩
          · exact (bhr_no hD hpl hi9 h1 h2 (Or.inr ⟨rfl, hx⟩) t1 (S0.1.2.2 i hi9 t9 t1).1 t2).elim)
      · refine g_aload_0 (q := 162) C dX1_choose_161 rfl ?_
        refine g_getc (q := 165) (m := 10) C f_X1_27 dX1_choose_162 rfl rfl (IX.d0 I _ (by decide)) ?_
        refine g_iload_1 (q := 166) C dX1_choose_165 rfl ?_
        refine g_aload_0 (q := 167) C dX1_choose_166 rfl ?_
        refine g_getc (q := 170) (m := 9) C f_X1_24 dX1_choose_167 rfl rfl (IX.d0 I _ (by decide)) ?_
        refine g_iload_1 (q := 171) C dX1_choose_170 rfl ?_
        refine g_ia (q := 172) C dX1_choose_171 rfl rfl (IX.d0 I _ (by decide)) rfl (by omega) (by decide) ?_
        rw [n4]
        refine g_iast (q := 173) C dX1_choose_172 rfl rfl (IX.d0 I _ (by decide)) rfl (by omega) (by decide) ?_
        refine g_aload_0 (q := 174) C dX1_choose_173 rfl ?_
        refine g_iload_1 (q := 175) C dX1_choose_174 rfl ?_
        refine g_iconst (v := 1) (q := 176) C dX1_choose_175 rfl (by decide) ?_
        refine g_iadd (q := 177) C dX1_choose_176 rfl ?_
        rw [nI_1]
        refine g_lload_2 (q := 178) C dX1_choose_177 rfl ?_
        refine g_cv2g (q := 181) C cv_X1_79 dX1_choose_178 rfl rfl (IX.d0 I _ (by decide)) (by
                  have h9 := ih (i + 1) (u2 a0 10 i (nI (D.2.1 i))) b0 (u1 x i 15) sc0 (by omega) (S0.no hD hi9) (cn_u hc (Or.inr rfl)) (fun f hf => by rw [us_u, uW_15 hD hi9]; exact hu f hf) (hB0.frm (u2_n (by decide)))
                  rw [sm_u, mW_0 (show D.2.1 i ≤ 15 by omega), Nat.add_zero] at h9
                  exact h9) (by omega) (Nat.le_of_ble_eq_true rfl) ⟨Nat.zero_le _, Nat.zero_le _⟩ (fun v ad' dm' a' b' r' hp => ?_)
        obtain ⟨rfl, q1, q2, q5, hf2, sc2, h1, h2, h3⟩ := hp
        have q1 := q1.symm
        have q2 := q2.symm
        have q5 := q5.symm
        subst q1 q2 q5
        change G E 0 0 _ _ a' b' _ 181 _ []
        exact g_vret C RT9 dX1_choose_181 (by
          refine ⟨rfl, rfl, rfl, rfl, hcf.no hf2, sc2, by omega, h2, fun xs y1 y2 => ?_⟩
          rcases y1.1 i hi9 with hx | hx
          · obtain ⟨w', w1, w2⟩ := (hpl i hi9).2 _ hx
            have := hcov xs y1 y2 ⟨w', by omega, w2.symm⟩
            omega
          · exact h3 xs y1 (fun j hj => by
              by_cases e : j = i
              · subst e; rw [u1_s]; exact hx
              · rw [u1_n e]; exact y2 j (by omega)))
      | succ s ihw =>
      intro w a0 b0 sc0 e6 hws hcf hB0 hsc hcov
      have S0 := S.frm hcf
      obtain ⟨n1, n2, n3, n4⟩ := S0.1.2.1 i hi9
      have hw9 : w < D.2.1 i := by omega
      obtain ⟨m1, m2, m3, m4, m5, m6⟩ := S0.1.2.2 i hi9 w hw9
      obtain ⟨c1, c2, c3⟩ := hco i hi9 _ m1
      refine g_iload_5 (q := 36) C dX1_choose_34 rfl ?_
      refine g_aload_0 (q := 37) C dX1_choose_36 rfl ?_
      refine g_getc (q := 40) (m := 9) C f_X1_24 dX1_choose_37 rfl rfl (IX.d0 I _ (by decide)) ?_
      refine g_iload_1 (q := 41) C dX1_choose_40 rfl ?_
      refine g_ia (q := 42) C dX1_choose_41 rfl rfl (IX.d0 I _ (by decide)) rfl (by omega) (by decide) ?_
      refine g_icmp_ge (tgt := 147) (q := 45) C dX1_choose_42 rfl (by decide) (fun c_42 => absurd c_42 (by rw [n4]; exact nI_ge (by omega) (by omega))) (fun c_42 => ?_)
      refine g_iload_1 (q := 46) C dX1_choose_45 rfl ?_
      refine g_bipush (v := 12) (q := 48) C dX1_choose_46 rfl (by decide) ?_
      refine g_imul (q := 49) C dX1_choose_48 rfl ?_
      refine g_iload_5 (q := 51) C dX1_choose_49 rfl ?_
      refine g_iadd (q := 52) C dX1_choose_51 rfl ?_
      rw [ix12]
      refine g_istore_6 (q := 54) C dX1_choose_52 rfl (by rw [hN]; decide) rfl ?_
      refine g_aload_0 (q := 55) C dX1_choose_54 rfl ?_
      refine g_getc (q := 58) (m := 15) C f_X1_45 dX1_choose_55 rfl rfl (IX.d0 I _ (by decide)) ?_
      refine g_iload_6 (q := 60) C dX1_choose_58 rfl ?_
      refine g_ia (q := 61) C dX1_choose_60 rfl rfl (IX.d0 I _ (by decide)) rfl (by omega) (by decide) ?_
      refine g_iload_4 (q := 63) C dX1_choose_61 rfl ?_
      refine g_icmp_lt (tgt := 141) (q := 66) C dX1_choose_63 rfl (by decide) (fun c_63 => ?_) (fun c_63 => ?_)
      · refine g_iinc_5 (v := nI (w + 1)) (q := 144) C dX1_choose_141 rfl (by rw [hN]; decide) (nI_1 w) ?_
        refine g_goto (tgt := 34) C dX1_choose_144 (by decide) ?_
        first
          | (rw [m2, nI_ltI (by omega) (by omega)] at c_63
             have hlt9 : pl i w < tpl tw x i := c_63
             refine ihw (w + 1) a0 b0 sc0 _ (by omega) hcf hB0 hsc (fun xs y1 y2 y3 => ?_)
             obtain ⟨w', w1, w2⟩ := y3
             by_cases e : w' = w
             · subst e
               have := tpl_ok hD htw hi9 y1 y2
               omega
             · exact hcov xs y1 y2 ⟨w', by omega, w2⟩)
          | (have hff9 : fitb D fr x i i (pl i w) = false := c_73
             refine ihw (w + 1) a0 b0 sc0 _ (by omega) hcf hB0 hsc (fun xs y1 y2 y3 => ?_)
             obtain ⟨w', w1, w2⟩ := y3
             by_cases e : w' = w
             · subst e
               have h9 := fit_y hD hco hi9 (Nat.le_refl i) y1.2.1 y2 (by rw [w2]; exact m1)
               rw [w2, hff9] at h9
               cases h9
             · exact hcov xs y1 y2 ⟨w', by omega, w2⟩)
          | (have hct9 : c9 = true := c_83
             refine ihw (w + 1) a0 b0 sc0 _ (by omega) hcf hB0 hsc (fun xs y1 y2 y3 => ?_)
             obtain ⟨w', w1, w2⟩ := y3
             by_cases e : w' = w
             · subst e
               obtain ⟨t9, t1, t2⟩ := hc9 hct9
               exact (bhr_no hD hpl hi9 y1 y2 (Or.inl ⟨hw9, w2, m1⟩) t1 (S0.1.2.2 i hi9 t9 (by omega)).1 t2).elim
             · exact hcov xs y1 y2 ⟨w', by omega, w2⟩)
          | (refine ihw (w + 1) _ b' sc2 _ (by omega) (hcf.up (by omega) (by omega) hf2) (h2.frm (flA_n (by decide) (by omega))) (by omega) (fun xs y1 y2 y3 => ?_)
             obtain ⟨w', w1, w2⟩ := y3
             by_cases e : w' = w
             · subst e
               exact h3 xs y1 (fun j hj => by
                 by_cases e : j = i
                 · subst e; rw [u1_s]; exact w2
                 · rw [u1_n e]; exact y2 j (by omega))
             · have := hcov xs y1 y2 ⟨w', by omega, w2⟩
               omega)
      · refine g_aload_0 (q := 67) C dX1_choose_66 rfl ?_
        refine g_iload_1 (q := 68) C dX1_choose_67 rfl ?_
        refine g_iload_6 (q := 70) C dX1_choose_68 rfl ?_
        refine g_cv2i (q := 73) C cv_X1_104 dX1_choose_70 rfl rfl (IX.d0 I _ (by decide)) (m_X1_fits I hD hco S0.1 S0.2.1 hi9 hw9) (by omega) (Nat.le_of_ble_eq_true rfl) ⟨Nat.zero_le _, Nat.zero_le _⟩ ?_
        refine g_ifeqb (tgt := 141) (q := 76) C dX1_choose_73 rfl (by decide) (fun c_73 => ?_) (fun c_73 => ?_)
        · refine g_iinc_5 (v := nI (w + 1)) (q := 144) C dX1_choose_141 rfl (by rw [hN]; decide) (nI_1 w) ?_
          refine g_goto (tgt := 34) C dX1_choose_144 (by decide) ?_
          first
            | (rw [m2, nI_ltI (by omega) (by omega)] at c_63
               have hlt9 : pl i w < tpl tw x i := c_63
               refine ihw (w + 1) a0 b0 sc0 _ (by omega) hcf hB0 hsc (fun xs y1 y2 y3 => ?_)
               obtain ⟨w', w1, w2⟩ := y3
               by_cases e : w' = w
               · subst e
                 have := tpl_ok hD htw hi9 y1 y2
                 omega
               · exact hcov xs y1 y2 ⟨w', by omega, w2⟩)
            | (have hff9 : fitb D fr x i i (pl i w) = false := c_73
               refine ihw (w + 1) a0 b0 sc0 _ (by omega) hcf hB0 hsc (fun xs y1 y2 y3 => ?_)
               obtain ⟨w', w1, w2⟩ := y3
               by_cases e : w' = w
               · subst e
                 have h9 := fit_y hD hco hi9 (Nat.le_refl i) y1.2.1 y2 (by rw [w2]; exact m1)
                 rw [w2, hff9] at h9
                 cases h9
               · exact hcov xs y1 y2 ⟨w', by omega, w2⟩)
            | (have hct9 : c9 = true := c_83
               refine ihw (w + 1) a0 b0 sc0 _ (by omega) hcf hB0 hsc (fun xs y1 y2 y3 => ?_)
               obtain ⟨w', w1, w2⟩ := y3
               by_cases e : w' = w
               · subst e
                 obtain ⟨t9, t1, t2⟩ := hc9 hct9
                 exact (bhr_no hD hpl hi9 y1 y2 (Or.inl ⟨hw9, w2, m1⟩) t1 (S0.1.2.2 i hi9 t9 (by omega)).1 t2).elim
               · exact hcov xs y1 y2 ⟨w', by omega, w2⟩)
            | (refine ihw (w + 1) _ b' sc2 _ (by omega) (hcf.up (by omega) (by omega) hf2) (h2.frm (flA_n (by decide) (by omega))) (by omega) (fun xs y1 y2 y3 => ?_)
               obtain ⟨w', w1, w2⟩ := y3
               by_cases e : w' = w
               · subst e
                 exact h3 xs y1 (fun j hj => by
                   by_cases e : j = i
                   · subst e; rw [u1_s]; exact w2
                   · rw [u1_n e]; exact y2 j (by omega))
               · have := hcov xs y1 y2 ⟨w', by omega, w2⟩
                 omega)
        · refine g_aload_0 (q := 77) C dX1_choose_76 rfl ?_
          refine g_iload_1 (q := 78) C dX1_choose_77 rfl ?_
          refine g_iload_5 (q := 80) C dX1_choose_78 rfl ?_
          refine g_cv2g (q := 83) C cv_X1_108 dX1_choose_80 rfl rfl (IX.d0 I _ (by decide)) (m_X1_betterHasRoom I hD hco S0.1 S0.2.1 S0.2.2.1 hi9 (Nat.le_of_lt hw9)) (by omega) (Nat.le_of_ble_eq_true rfl) ⟨Nat.zero_le _, Nat.zero_le _⟩ (fun v ad' dm' a' b' r' hp => ?_)
          obtain ⟨q1, q2, q3, q4, q5, c9, rfl, hc9⟩ := hp
          have q1 := q1.symm
          have q2 := q2.symm
          have q3 := q3.symm
          have q4 := q4.symm
          have q5 := q5.symm
          subst q1 q2 q3 q4 q5
          change G E 0 0 _ _ _ _ _ 83 _ [.int (bI c9)]
          refine g_ifneb (tgt := 141) (q := 86) C dX1_choose_83 rfl (by decide) (fun c_83 => ?_) (fun c_83 => ?_)
          · refine g_iinc_5 (v := nI (w + 1)) (q := 144) C dX1_choose_141 rfl (by rw [hN]; decide) (nI_1 w) ?_
            refine g_goto (tgt := 34) C dX1_choose_144 (by decide) ?_
            first
              | (rw [m2, nI_ltI (by omega) (by omega)] at c_63
                 have hlt9 : pl i w < tpl tw x i := c_63
                 refine ihw (w + 1) a0 b0 sc0 _ (by omega) hcf hB0 hsc (fun xs y1 y2 y3 => ?_)
                 obtain ⟨w', w1, w2⟩ := y3
                 by_cases e : w' = w
                 · subst e
                   have := tpl_ok hD htw hi9 y1 y2
                   omega
                 · exact hcov xs y1 y2 ⟨w', by omega, w2⟩)
              | (have hff9 : fitb D fr x i i (pl i w) = false := c_73
                 refine ihw (w + 1) a0 b0 sc0 _ (by omega) hcf hB0 hsc (fun xs y1 y2 y3 => ?_)
                 obtain ⟨w', w1, w2⟩ := y3
                 by_cases e : w' = w
                 · subst e
                   have h9 := fit_y hD hco hi9 (Nat.le_refl i) y1.2.1 y2 (by rw [w2]; exact m1)
                   rw [w2, hff9] at h9
                   cases h9
                 · exact hcov xs y1 y2 ⟨w', by omega, w2⟩)
              | (have hct9 : c9 = true := c_83
                 refine ihw (w + 1) a0 b0 sc0 _ (by omega) hcf hB0 hsc (fun xs y1 y2 y3 => ?_)
                 obtain ⟨w', w1, w2⟩ := y3
                 by_cases e : w' = w
                 · subst e
                   obtain ⟨t9, t1, t2⟩ := hc9 hct9
                   exact (bhr_no hD hpl hi9 y1 y2 (Or.inl ⟨hw9, w2, m1⟩) t1 (S0.1.2.2 i hi9 t9 (by omega)).1 t2).elim
                 · exact hcov xs y1 y2 ⟨w', by omega, w2⟩)
              | (refine ihw (w + 1) _ b' sc2 _ (by omega) (hcf.up (by omega) (by omega) hf2) (h2.frm (flA_n (by decide) (by omega))) (by omega) (fun xs y1 y2 y3 => ?_)
                 obtain ⟨w', w1, w2⟩ := y3
                 by_cases e : w' = w
                 · subst e
                   exact h3 xs y1 (fun j hj => by
                     by_cases e : j = i
                     · subst e; rw [u1_s]; exact w2
                     · rw [u1_n e]; exact y2 j (by omega))
                 · have := hcov xs y1 y2 ⟨w', by omega, w2⟩
                   omega)
          · refine g_aload_0 (q := 87) C dX1_choose_86 rfl ?_
            refine g_getc (q := 90) (m := 10) C f_X1_27 dX1_choose_87 rfl rfl (IX.d0 I _ (by decide)) ?_
            refine g_iload_1 (q := 91) C dX1_choose_90 rfl ?_
            refine g_iload_5 (q := 93) C dX1_choose_91 rfl ?_
            refine g_iast (q := 94) C dX1_choose_93 rfl rfl (IX.d0 I _ (by decide)) rfl (by omega) (by decide) ?_
            refine g_aload_0 (q := 95) C dX1_choose_94 rfl ?_
            refine g_iload_6 (q := 97) C dX1_choose_95 rfl ?_
            refine g_aload_0 (q := 98) C dX1_choose_97 rfl ?_
            refine g_getc (q := 101) (m := 6) C f_X1_11 dX1_choose_98 rfl rfl (IX.d0 I _ (by decide)) ?_
            refine g_iload_1 (q := 102) C dX1_choose_101 rfl ?_
            refine g_aaP (q := 103) C dX1_choose_102 rfl rfl (IX.d0 I _ (by decide)) rfl (by omega) (by decide) n1 ?_
            refine g_geti (q := 106) C f_X1_76 dX1_choose_103 rfl (IX.lp I (by assumption)) (IX.dp I (by assumption)) ?_
            rw [u2_n (show 30 + q i ≠ 10 by omega), n3]
            refine g_cv2v (q := 109) C cv_X1_111 dX1_choose_106 rfl rfl (IX.d0 I _ (by decide)) (m_X1_fill I hD hco (S0.1.frm (fun m m1 _ m2 => u2_n m1) rfl) hi9 hw9 (nI (D.1 i))) (by omega) (Nat.le_of_ble_eq_true rfl) ⟨Nat.zero_le _, Nat.zero_le _⟩ ?_
            refine g_aload_0 (q := 110) C dX1_choose_109 rfl ?_
            refine g_iload_1 (q := 111) C dX1_choose_110 rfl ?_
            refine g_iconst (v := 1) (q := 112) C dX1_choose_111 rfl (by decide) ?_
            refine g_iadd (q := 113) C dX1_choose_112 rfl ?_
            rw [nI_1]
            refine g_lload_2 (q := 114) C dX1_choose_113 rfl ?_
            refine g_aload_0 (q := 115) C dX1_choose_114 rfl ?_
            refine g_getc (q := 118) (m := 16) C f_X1_48 dX1_choose_115 rfl rfl (IX.d0 I _ (by decide)) ?_
            refine g_iload_6 (q := 120) C dX1_choose_118 rfl ?_
            refine g_la (q := 121) C dX1_choose_120 rfl rfl (IX.d0 I _ (by decide)) rfl (by omega) (by decide) ?_
            rw [m3]
            refine g_ladd (q := 122) C dX1_choose_121 rfl ?_
            rw [lN_add]
            refine g_cv2g (q := 125) C cv_X1_79 dX1_choose_122 rfl rfl (IX.d0 I _ (by decide)) (by
                  have h9 := ih (i + 1) (flA (D.2.2.1 i (pl i w)) (nI (D.1 i)) (u2 a0 10 i (nI w))) b0 (u1 x i (pl i w)) sc0 (by omega) (S0.up hD hco I.1 hi9 hw9 c_73 rfl) (cn_u hc (Or.inl m1)) (us_up hu c_73) (hB0.frm (by rw [flA_n (by decide) (by omega), u2_n (by decide)]))
                  rw [sm_u] at h9
                  exact h9) (by omega) (Nat.le_of_ble_eq_true rfl) ⟨Nat.zero_le _, Nat.zero_le _⟩ (fun v ad' dm' a' b' r' hp => ?_)
            obtain ⟨rfl, q1, q2, q5, hf2, sc2, h1, h2, h3⟩ := hp
            have q1 := q1.symm
            have q2 := q2.symm
            have q5 := q5.symm
            subst q1 q2 q5
            change G E 0 0 _ _ a' b' _ 125 _ []
            have S2 := (S0.up hD hco I.1 hi9 hw9 c_73 rfl).frm hf2
            obtain ⟨-, -, k3, -⟩ := S2.1.2.1 i hi9
            refine g_aload_0 (q := 126) C dX1_choose_125 rfl ?_
            refine g_iload_6 (q := 128) C dX1_choose_126 rfl ?_
            refine g_aload_0 (q := 129) C dX1_choose_128 rfl ?_
            refine g_getc (q := 132) (m := 6) C f_X1_11 dX1_choose_129 rfl rfl (IX.d0 I _ (by decide)) ?_
            refine g_iload_1 (q := 133) C dX1_choose_132 rfl ?_
            refine g_aaP (q := 134) C dX1_choose_133 rfl rfl (IX.d0 I _ (by decide)) rfl (by omega) (by decide) n1 ?_
            refine g_geti (q := 137) C f_X1_76 dX1_choose_134 rfl (IX.lp I (by assumption)) (IX.dp I (by assumption)) ?_
            rw [k3]
            refine g_ineg (q := 138) C dX1_choose_137 rfl ?_
            refine g_cv2v (q := 141) C cv_X1_111 dX1_choose_138 rfl rfl (IX.d0 I _ (by decide)) (m_X1_fill I hD hco S2.1 hi9 hw9 (-(nI (D.1 i)))) (by omega) (Nat.le_of_ble_eq_true rfl) ⟨Nat.zero_le _, Nat.zero_le _⟩ ?_
            refine g_iinc_5 (v := nI (w + 1)) (q := 144) C dX1_choose_141 rfl (by rw [hN]; decide) (nI_1 w) ?_
            refine g_goto (tgt := 34) C dX1_choose_144 (by decide) ?_
            first
              | (rw [m2, nI_ltI (by omega) (by omega)] at c_63
                 have hlt9 : pl i w < tpl tw x i := c_63
                 refine ihw (w + 1) a0 b0 sc0 _ (by omega) hcf hB0 hsc (fun xs y1 y2 y3 => ?_)
                 obtain ⟨w', w1, w2⟩ := y3
                 by_cases e : w' = w
                 · subst e
                   have := tpl_ok hD htw hi9 y1 y2
                   omega
                 · exact hcov xs y1 y2 ⟨w', by omega, w2⟩)
              | (have hff9 : fitb D fr x i i (pl i w) = false := c_73
                 refine ihw (w + 1) a0 b0 sc0 _ (by omega) hcf hB0 hsc (fun xs y1 y2 y3 => ?_)
                 obtain ⟨w', w1, w2⟩ := y3
                 by_cases e : w' = w
                 · subst e
                   have h9 := fit_y hD hco hi9 (Nat.le_refl i) y1.2.1 y2 (by rw [w2]; exact m1)
                   rw [w2, hff9] at h9
                   cases h9
                 · exact hcov xs y1 y2 ⟨w', by omega, w2⟩)
              | (have hct9 : c9 = true := c_83
                 refine ihw (w + 1) a0 b0 sc0 _ (by omega) hcf hB0 hsc (fun xs y1 y2 y3 => ?_)
                 obtain ⟨w', w1, w2⟩ := y3
                 by_cases e : w' = w
                 · subst e
                   obtain ⟨t9, t1, t2⟩ := hc9 hct9
                   exact (bhr_no hD hpl hi9 y1 y2 (Or.inl ⟨hw9, w2, m1⟩) t1 (S0.1.2.2 i hi9 t9 (by omega)).1 t2).elim
                 · exact hcov xs y1 y2 ⟨w', by omega, w2⟩)
              | (refine ihw (w + 1) _ b' sc2 _ (by omega) (hcf.up (by omega) (by omega) hf2) (h2.frm (flA_n (by decide) (by omega))) (by omega) (fun xs y1 y2 y3 => ?_)
                 obtain ⟨w', w1, w2⟩ := y3
                 by_cases e : w' = w
                 · subst e
                   exact h3 xs y1 (fun j hj => by
                     by_cases e : j = i
                     · subst e; rw [u1_s]; exact w2
                     · rw [u1_n e]; exact y2 j (by omega))
                 · have := hcov xs y1 y2 ⟨w', by omega, w2⟩
                   omega)
    refine g_iload_1 (q := 1) C dX1_choose_0 rfl ?_
    refine g_aload_0 (q := 2) C dX1_choose_1 rfl ?_
    refine g_geti (q := 5) C f_X1_56 dX1_choose_2 rfl rfl (IX.d0 I _ (by decide)) ?_
    refine g_icmp_lt (tgt := 14) (q := 8) C dX1_choose_5 rfl (by decide) (fun c_5 => ?_) (fun c_5 => absurd (by rw [S.1.1]; exact nI_lt (by omega) (by omega)) c_5)
    refine g_aload_0 (q := 15) C dX1_choose_14 rfl ?_
    refine g_iload_1 (q := 16) C dX1_choose_15 rfl ?_
    refine g_lload_2 (q := 17) C dX1_choose_16 rfl ?_
    refine g_cv2g (q := 20) C cv_X1_96 dX1_choose_17 rfl rfl (IX.d0 I _ (by decide)) (m_X1_mayBeat I hD hco S.1 hpl S.2.1 hi9 hB.1 (hB.lt hD)) (by omega) (Nat.le_of_ble_eq_true rfl) ⟨Nat.zero_le _, Nat.zero_le _⟩ (fun v ad' dm' a' b' r' hp => ?_)
    obtain ⟨q1, q2, q3, q4, q5, c9, rfl, hc9⟩ := hp
    have q1 := q1.symm
    have q2 := q2.symm
    have q3 := q3.symm
    have q4 := q4.symm
    have q5 := q5.symm
    subst q1 q2 q3 q4 q5
    change G E 0 0 _ _ _ _ _ 20 _ [.int (bI c9)]
    refine g_ifneb (tgt := 24) (q := 23) C dX1_choose_20 rfl (by decide) (fun c_20 => ?_) (fun c_20 => ?_)
    · refine g_aload_0 (q := 25) C dX1_choose_24 rfl ?_
      refine g_iload_1 (q := 26) C dX1_choose_25 rfl ?_
      refine g_cv1i (q := 29) C cv_X1_100 dX1_choose_26 rfl rfl (IX.d0 I _ (by decide)) (m_X1_twinPlace I hD hco htw S hi9) (by omega) (Nat.le_of_ble_eq_true rfl) ⟨Nat.zero_le _, Nat.zero_le _⟩ ?_
      refine g_istore_4 (q := 31) C dX1_choose_29 rfl (by rw [hN]; decide) rfl ?_
      refine g_iconst (v := 0) (q := 32) C dX1_choose_31 rfl (by decide) ?_
      refine g_istore_5 (q := 34) C dX1_choose_32 rfl (by rw [hN]; decide) rfl ?_
      exact lw (D.2.1 i) 0 a b sc _ (by omega) CF.rf hB (Nat.le_refl _) (fun xs _ _ h => by obtain ⟨w, h, _⟩ := h; omega)
    · exact g_vret C RT9 dX1_choose_23 ⟨rfl, rfl, rfl, rfl, CF.rf, sc, Nat.le_refl _, hB, fun xs h1 h2 => hc9 c_20 xs h1.1 h1.2.1 h2⟩
end X42
