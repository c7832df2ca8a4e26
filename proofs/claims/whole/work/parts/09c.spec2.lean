/-! facts of the specification's words -/
theorem w1_a {fl : Nat → Int32} {own i : Nat} (h : nI i = nI own) (hi : i < 8) (ho : own < 8) : w1 fl own i = false := by
  have e : i = own := (nI_eq (by omega) (by omega)).mp h
  simp [w1, e]
theorem w1_b {fl : Nat → Int32} {own i : Nat} (h : fl (7 * i + 6) = 1) : w1 fl own i = false := by simp [w1, h]
theorem w1_c {fl : Nat → Int32} {own i : Nat} (h : ¬ fl (7 * i) = fl (7 * own)) : w1 fl own i = false := by simp [w1, h]
theorem w1_d {fl : Nat → Int32} {own i : Nat} (h : ¬ fl (7 * own + 2) ≤ fl (7 * i + 2)) : w1 fl own i = false := by
  have h2 : fl (7 * i + 2) < fl (7 * own + 2) := Int32.not_le.mp h
  simp [w1, h2]
theorem w1_t {fl : Nat → Int32} {own i : Nat} (h : ¬ nI i = nI own) (h1 : ¬ fl (7 * i + 6) = 1) (h2 : fl (7 * i) = fl (7 * own)) (h3 : fl (7 * own + 2) ≤ fl (7 * i + 2)) : w1 fl own i = true := by
  have e : i ≠ own := fun z => h (by rw [z])
  have h4 : ¬ fl (7 * i + 2) < fl (7 * own + 2) := Int32.not_lt.mpr h3
  simp [w1, e, h1, h2, h3]
theorem w2_b {fl nu : Nat → Int32} {i j : Nat} (h : fl (7 * j + 6) = 1) : w2 fl nu i j = false := by simp [w2, h]
theorem w2_c {fl nu : Nat → Int32} {i j : Nat} (h : ¬ fl (7 * j) = fl (7 * i + 1)) : w2 fl nu i j = false := by simp [w2, h]
theorem w2_d {fl nu : Nat → Int32} {i j : Nat} (h : ¬ fl (7 * i + 3) + nu 0 ≤ fl (7 * j + 2)) : w2 fl nu i j = false := by
  have h2 : fl (7 * j + 2) < fl (7 * i + 3) + nu 0 := Int32.not_le.mp h
  simp [w2, h2]
theorem w2_t {fl nu : Nat → Int32} {i j : Nat} (h1 : ¬ fl (7 * j + 6) = 1) (h2 : fl (7 * j) = fl (7 * i + 1)) (h3 : fl (7 * i + 3) + nu 0 ≤ fl (7 * j + 2)) : w2 fl nu i j = true := by
  simp [w2, h1, h2, h3]
theorem lb_f1 {fl nu : Nat → Int32} {nF own : Nat} {x y : Int32} (h : fok nF x = false) : -1 = lbI fl nu nF own x y := by simp [lbI, h]
theorem lb_w1 {fl nu : Nat → Int32} {nF own i : Nat} {y : Int32} (hi : i < nF) (hn : nF ≤ 8) (h : w1 fl own i = false) : -1 = lbI fl nu nF own (nI i) y := by
  rw [lbI, if_pos (fok_i hi (by omega)), cN_nI (by omega)]
  simp [lbS, wyS, h]
theorem lb_f2 {fl nu : Nat → Int32} {nF own i : Nat} {y : Int32} (hi : i < nF) (hn : nF ≤ 8) (h0 : ¬ y = -1) (h : fok nF y = false) : -1 = lbI fl nu nF own (nI i) y := by
  rw [lbI, if_pos (fok_i hi (by omega)), if_neg h0, if_neg (by rw [h]; decide)]
theorem nI_m1 {j : Nat} (hj : j < 2 ^ 31) : ¬ nI j = -1 := fun e => by
  have h := congrArg Int32.toInt e
  rw [nI_toInt hj] at h
  have : (-1 : Int32).toInt = -1 := rfl
  omega
theorem lb_w2 {fl nu : Nat → Int32} {nF own i j : Nat} (hi : i < nF) (hj : j < nF) (hn : nF ≤ 8) (h : w2 fl nu i j = false) : -1 = lbI fl nu nF own (nI i) (nI j) := by
  rw [lbI, if_pos (fok_i hi (by omega)), if_neg (nI_m1 (by omega)), if_pos (fok_i hj (by omega)), cN_nI (by omega), cN_nI (by omega)]
  simp [lbS, wyS, h]
theorem lb_1n {fl nu : Nat → Int32} {nF own i : Nat} {y : Int32} (hi : i < nF) (hn : nF ≤ 8) (h1 : w1 fl own i = true) (h0 : y = -1) (h : ¬ fl (7 * i + 1) = fl (7 * own + 1)) : -1 = lbI fl nu nF own (nI i) y := by
  rw [lbI, if_pos (fok_i hi (by omega)), if_pos h0, cN_nI (by omega)]
  simp [lbS, wyS, h1, h]
theorem lb_1y {fl nu : Nat → Int32} {nF own i : Nat} {y : Int32} (hi : i < nF) (hn : nF ≤ 8) (h1 : w1 fl own i = true) (h0 : y = -1) (h : fl (7 * i + 1) = fl (7 * own + 1)) : ltS fl own i = lbI fl nu nF own (nI i) y := by
  rw [lbI, if_pos (fok_i hi (by omega)), if_pos h0, cN_nI (by omega)]
  simp [lbS, wyS, h1, h]
theorem lb_2n {fl nu : Nat → Int32} {nF own i j : Nat} (hi : i < nF) (hj : j < nF) (hn : nF ≤ 8) (h1 : w1 fl own i = true) (h2 : w2 fl nu i j = true) (h : ¬ fl (7 * j + 1) = fl (7 * own + 1)) : -1 = lbI fl nu nF own (nI i) (nI j) := by
  rw [lbI, if_pos (fok_i hi (by omega)), if_neg (nI_m1 (by omega)), if_pos (fok_i hj (by omega)), cN_nI (by omega), cN_nI (by omega)]
  simp [lbS, wyS, h1, h2, h]
theorem lb_2y {fl nu : Nat → Int32} {nF own i j : Nat} (hi : i < nF) (hj : j < nF) (hn : nF ≤ 8) (h1 : w1 fl own i = true) (h2 : w2 fl nu i j = true) (h : fl (7 * j + 1) = fl (7 * own + 1)) : ltS fl own j = lbI fl nu nF own (nI i) (nI j) := by
  rw [lbI, if_pos (fok_i hi (by omega)), if_neg (nI_m1 (by omega)), if_pos (fok_i hj (by omega)), cN_nI (by omega), cN_nI (by omega)]
  simp [lbS, wyS, h1, h2, h]
/-- one row for another -/
def up1 (a : Nat → Nat → Int32) (n : Nat) (f : Nat → Int32) : Nat → Nat → Int32 := fun i => if i = n then f else a i
theorem up1_s {a : Nat → Nat → Int32} {n : Nat} {f : Nat → Int32} : up1 a n f n = f := by simp [up1]
theorem up1_n {a : Nat → Nat → Int32} {n i : Nat} {f : Nat → Int32} (h : i ≠ n) : up1 a n f i = a i := by simp [up1, h]
theorem up1_id {a : Nat → Nat → Int32} {n : Nat} : up1 a n (a n) = a := by
  funext i
  by_cases h : i = n
  · subst h; exact up1_s
  · exact up1_n h
theorem u2_up {a : Nat → Nat → Int32} {n k : Nat} {f : Nat → Int32} {v : Int32} : u2 (up1 a n f) n k v = up1 a n (fun j => if j = k then v else f j) := by
  funext i j
  by_cases h : i = n <;> simp [u2, up1, h]
theorem u2_up' {a : Nat → Nat → Int32} {n k : Nat} {v : Int32} : u2 a n k v = up1 a n (fun j => if j = k then v else a n j) := by
  funext i j
  by_cases h : i = n <;> simp [u2, up1, h]
theorem up1_up {a : Nat → Nat → Int32} {n : Nat} {f g : Nat → Int32} : up1 (up1 a n f) n g = up1 a n g := by
  funext i
  by_cases h : i = n <;> simp [up1, h]
theorem IM.up {dm : Nat → Bool} {a : Nat → Nat → Int32} {nF nP n : Nat} {f : Nat → Int32} (h : IM dm a nF nP) (hn : 100 ≠ n) : IM dm (up1 a n f) nF nP := ⟨h.1, by rw [up1_n hn]; exact h.2.1, h.2.2.1, by rw [up1_n hn]; exact h.2.2.2.1, h.2.2.2.2⟩
theorem cnc_2 {fl pa : Nat → Int32} {p : Nat} : cnc fl pa 2 p = (decide (pa (9 * p + 5) = 0) && decide (fl (7 * cN (pa (9 * p)) + 6) = 0)) := by rw [cnc, if_pos rfl]
theorem cnc_3 {fl pa : Nat → Int32} {p : Nat} : cnc fl pa 3 p = decide (pa (9 * p + 5) = 1) := by rw [cnc, if_neg (by decide), if_pos rfl]
theorem cnc_4 {fl pa : Nat → Int32} {p : Nat} : cnc fl pa 4 p = decide (pa (9 * p + 5) = 2) := by rw [cnc, if_neg (by decide), if_neg (by decide), if_pos rfl]
theorem cnc_5 {fl pa : Nat → Int32} {p : Nat} : cnc fl pa 5 p = (decide (0 < pa (9 * p + 5)) && decide (pa (9 * p + 7) ≠ -1)) := by rw [cnc, if_neg (by decide), if_neg (by decide), if_neg (by decide), if_pos rfl]
theorem unP_ge {c : Nat → Bool} {pa : Nat → Int32} : ∀ {n j : Nat}, 9 * n ≤ j → unP c pa n j = pa j
  | 0, j, _ => rfl
  | n + 1, j, h => by
    have h1 := unP_ge (c := c) (pa := pa) (n := n) (j := j) (by omega)
    unfold unP
    split
    · dsimp only
      rw [if_neg (by omega), if_neg (by omega)]
      exact h1
    · exact h1
