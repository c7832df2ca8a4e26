/-! the class's state, changed -/
def RB (nF nP : Nat) (r : Nat → Nat → Option Nat) : Prop := ∀ i k m, r i k = some m → (20 ≤ m ∧ m < 20 + nF) ∨ (30 ≤ m ∧ m < 30 + nP)
section X18
variable {dm : Nat → Bool} {a : Nat → Nat → Int32} {r : Nat → Nat → Option Nat} {nF nP : Nat} {fl pa nu : Nat → Int32}
theorem RB.NR (h : RB nF nP r) (h1 : nF ≤ 8) (h2 : nP ≤ 20) : NR r := fun i k m e => by
  rcases h i k m e with h | h <;> omega
theorem rb_u2 (h : RB nF nP r) {n k : Nat} {v : Option Nat} (hv : ∀ m, v = some m → (20 ≤ m ∧ m < 20 + nF) ∨ (30 ≤ m ∧ m < 30 + nP)) : RB nF nP (u2 r n k v) := fun i j m e => by
  unfold u2 at e
  split at e
  · split at e
    · exact hv m e
    · exact h _ _ _ e
  · exact h _ _ _ e
theorem rb_none (h : RB nF nP r) {n k : Nat} : RB nF nP (u2 r n k none) := rb_u2 h (fun m e => by cases e)
theorem wr.rng {o : Option Nat} {v : Int32} (h : wr o nF v) : ∀ m, o = some m → (20 ≤ m ∧ m < 20 + nF) ∨ (30 ≤ m ∧ m < 30 + nP) := fun m e => by
  rcases h with ⟨h, -⟩ | ⟨i, hi, h, -⟩
  · rw [h] at e; cases e
  · rw [h] at e; cases e; exact Or.inl ⟨by omega, by omega⟩
/-- one party's state, coin and way -/
def paU (pa : Nat → Int32) (j : Nat) (x y v7 v8 : Int32) : Nat → Int32 := fun k => if k = 9 * j + 8 then v8 else if k = 9 * j + 7 then v7 else if k = 9 * j + 6 then y else if k = 9 * j + 5 then x else pa k
theorem paU_o {j k : Nat} {x y v7 v8 : Int32} (h : k < 9 * j + 5 ∨ 9 * j + 8 < k) : paU pa j x y v7 v8 k = pa k := by
  unfold paU
  rw [if_neg (by omega), if_neg (by omega), if_neg (by omega), if_neg (by omega)]
theorem paU_8 {j : Nat} {x y v7 v8 : Int32} : paU pa j x y v7 v8 (9 * j + 8) = v8 := by simp [paU]
theorem paU_7 {j : Nat} {x y v7 v8 : Int32} : paU pa j x y v7 v8 (9 * j + 7) = v7 := by simp [paU]
theorem paU_6 {j : Nat} {x y v7 v8 : Int32} : paU pa j x y v7 v8 (9 * j + 6) = y := by simp [paU]
theorem paU_5 {j : Nat} {x y v7 v8 : Int32} : paU pa j x y v7 v8 (9 * j + 5) = x := by simp [paU]
theorem gv_paU {j : Nat} {x y : Int32} : gvP pa j x y = paU pa j x y (-1) (-1) := rfl
theorem u2_id {α : Type} {f : Nat → Nat → α} {n k : Nat} : u2 f n k (f n k) = f := by
  funext i j
  unfold u2
  split
  · split
    · next h1 h2 => rw [h1, h2]
    · rfl
  · rfl
theorem XR.pup (X : XR nF nP fl pa nu dm a r) {j : Nat} (hj : j < nP) {x y v7 v8 : Int32} {o7 o8 : Option Nat} (h7 : wr o7 nF v7) (h8 : wr o8 nF v8) : XR nF nP fl (paU pa j x y v7 v8) nu dm (u2 (u2 a (30 + j) 5 x) (30 + j) 6 y) (u2 (u2 r (30 + j) 7 o7) (30 + j) 8 o8) := by
  have I := X.1
  have hnF := I.1
  have ha : ∀ n, n ≠ 30 + j → u2 (u2 a (30 + j) 5 x) (30 + j) 6 y n = a n := fun n h => by rw [u2_n h, u2_n h]
  have hr : ∀ n, n ≠ 30 + j → u2 (u2 r (30 + j) 7 o7) (30 + j) 8 o8 n = r n := fun n h => by rw [u2_n h, u2_n h]
  refine ⟨I, by rw [ha 0 (by omega)]; exact X.nF, by rw [ha 0 (by omega)]; exact X.nP, by rw [ha 0 (by omega)]; exact X.ch, fun k hk => by rw [ha 3 (by omega)]; exact X.fe hk, fun i hi => ⟨by rw [hr 1 (by omega)]; exact X.rf hi, by rw [ha (20 + i) (by omega)]; exact X.no hi, fun k hk => by rw [ha (20 + i) (by omega)]; exact X.fk hi hk⟩, fun q hq => ?_⟩
  obtain ⟨rq, ⟨o, ho, ro, eo⟩, ek, w7, w8⟩ := X.2.2.2.2.2.2 q hq
  by_cases e : q = j
  · subst e
    refine ⟨by rw [hr 2 (by omega)]; exact rq, ⟨o, ho, by rw [u2_k (by decide), u2_k (by decide)]; exact ro, by rw [paU_o (by omega)]; exact eo⟩, fun k h1 h2 => ?_, by rw [paU_7, u2_k (by decide), u2_s]; exact h7, by rw [paU_8, u2_s]; exact h8⟩
    by_cases k6 : k = 6
    · subst k6; rw [u2_s, paU_6]
    · by_cases k5 : k = 5
      · subst k5; rw [u2_k (by decide), u2_s, paU_5]
      · rw [u2_k k6, u2_k k5, paU_o (by omega)]
        exact ek k h1 h2
  · refine ⟨by rw [hr 2 (by omega)]; exact rq, ⟨o, ho, by rw [hr (30 + q) (by omega)]; exact ro, by rw [paU_o (by omega)]; exact eo⟩, fun k h1 h2 => by rw [ha (30 + q) (by omega), paU_o (by omega)]; exact ek k h1 h2, by rw [hr (30 + q) (by omega), paU_o (by omega)]; exact w7, by rw [hr (30 + q) (by omega), paU_o (by omega)]; exact w8⟩
/-- state and coin alone -/
theorem XR.pua (X : XR nF nP fl pa nu dm a r) {j : Nat} (hj : j < nP) {x y : Int32} : XR nF nP fl (paU pa j x y (pa (9 * j + 7)) (pa (9 * j + 8))) nu dm (u2 (u2 a (30 + j) 5 x) (30 + j) 6 y) r := by
  have h := X.pup hj (x := x) (y := y) (X.2.2.2.2.2.2 j hj).2.2.2.1 (X.2.2.2.2.2.2 j hj).2.2.2.2
  rw [u2_id, u2_id] at h
  exact h
/-- the way alone -/
theorem XR.pur (X : XR nF nP fl pa nu dm a r) {j : Nat} (hj : j < nP) {v7 v8 : Int32} {o7 o8 : Option Nat} (h7 : wr o7 nF v7) (h8 : wr o8 nF v8) : XR nF nP fl (fun k => if k = 9 * j + 8 then v8 else if k = 9 * j + 7 then v7 else pa k) nu dm a (u2 (u2 r (30 + j) 7 o7) (30 + j) 8 o8) := by
  obtain ⟨o, ho, ro, eo, e1, e2, e3, e4, e5, e6, w7, w8⟩ := X.pt hj
  have h := X.pup hj (x := a (30 + j) 5) (y := a (30 + j) 6) h7 h8
  rw [u2_id, u2_id] at h
  have e : paU pa j (a (30 + j) 5) (a (30 + j) 6) v7 v8 = (fun k => if k = 9 * j + 8 then v8 else if k = 9 * j + 7 then v7 else pa k) := by
    funext k
    unfold paU
    by_cases h8 : k = 9 * j + 8
    · rw [if_pos h8, if_pos h8]
    · by_cases h7 : k = 9 * j + 7
      · rw [if_neg h8, if_pos h7, if_neg h8, if_pos h7]
      · rw [if_neg h8, if_neg h7, if_neg h8, if_neg h7]
        by_cases h6 : k = 9 * j + 6
        · rw [if_pos h6, h6, e6]
        · rw [if_neg h6]
          by_cases h5 : k = 9 * j + 5
          · rw [if_pos h5, h5, e5]
          · rw [if_neg h5]
  rw [e] at h
  exact h
theorem u2_dn {α : Type} {f : Nat → Nat → α} {n k n2 k2 i : Nat} {v v2 : α} (h : i ≠ n) (h2 : i ≠ n2) : u2 (u2 f n k v) n2 k2 v2 i = f i := by rw [u2_n h2, u2_n h]
end X18
