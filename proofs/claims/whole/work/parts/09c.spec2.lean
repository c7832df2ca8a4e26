/-! facts of the specification's words -/
theorem w1_a {fl : Nat → Int32} {own i : Nat} (h : nI i = nI own) (hi : i < 8) (ho : own < 8) : w1 fl own i = false := by
  have e : i = own := (nI_eq (by omega) (by omega)).mp h
  simp [w1, e]
theorem w1_b {fl : Nat → Int32} {own i : Nat} (h : fl (7 * i + 6) = 1) : w1 fl own i = false := by simp [w1, h]
theorem w1_c {fl : Nat → Int32} {own i : Nat} (h : ¬ fl (7 * i) = fl (7 * own)) : w1 fl own i = false := by simp [w1, h]
theorem w1_d {fl : Nat → Int32} {own i : Nat} (h : ¬ fl (7 * own + 2) ≤ fl (7 * i + 2)) : w1 fl own i = false := by
  have h2 : fl (7 * i + 2) < fl (7 * own + 2) := Int32.not_le.mp h
  simp [w1, h2]
theorem w1_t {fl : Nat → Int32} {own i : Nat} (h : ¬ nI i = nI own) (h1 : ¬ fl (7 * i + 6) = 1) (h2 : fl (7 * i) = fl (7 * own)) (h3 : fl (7 * own + 2) ≤ fl (7 * i + 2)) : w1 fl own i = true := by
  have e : i ≠ own := fun z => h (by rw [z])
  have h4 : ¬ fl (7 * i + 2) < fl (7 * own + 2) := Int32.not_lt.mpr h3
  simp [w1, e, h1, h2, h3]
theorem w2_b {fl nu : Nat → Int32} {i j : Nat} (h : fl (7 * j + 6) = 1) : w2 fl nu i j = false := by simp [w2, h]
theorem w2_c {fl nu : Nat → Int32} {i j : Nat} (h : ¬ fl (7 * j) = fl (7 * i + 1)) : w2 fl nu i j = false := by simp [w2, h]
theorem w2_d {fl nu : Nat → Int32} {i j : Nat} (h : ¬ fl (7 * i + 3) + nu 0 ≤ fl (7 * j + 2)) : w2 fl nu i j = false := by
  have h2 : fl (7 * j + 2) < fl (7 * i + 3) + nu 0 := Int32.not_le.mp h
  simp [w2, h2]
theorem w2_t {fl nu : Nat → Int32} {i j : Nat} (h1 : ¬ fl (7 * j + 6) = 1) (h2 : fl (7 * j) = fl (7 * i + 1)) (h3 : fl (7 * i + 3) + nu 0 ≤ fl (7 * j + 2)) : w2 fl nu i j = true := by
  simp [w2, h1, h2, h3]
theorem lb_f1 {fl nu : Nat → Int32} {nF own : Nat} {x y : Int32} (h : fok nF x = false) : -1 = lbI fl nu nF own x y := by simp [lbI, h]
theorem lb_w1 {fl nu : Nat → Int32} {nF own i : Nat} {y : Int32} (hi : i < nF) (hn : nF ≤ 8) (h : w1 fl own i = false) : -1 = lbI fl nu nF own (nI i) y := by
  rw [lbI, if_pos (fok_i hi (by omega)), cN_nI (by omega)]
  simp [lbS, wyS, h]
theorem lb_f2 {fl nu : Nat → Int32} {nF own i : Nat} {y : Int32} (hi : i < nF) (hn : nF ≤ 8) (h0 : ¬ y = -1) (h : fok nF y = false) : -1 = lbI fl nu nF own (nI i) y := by
  rw [lbI, if_pos (fok_i hi (by omega)), if_neg h0, if_neg (by rw [h]; decide)]
theorem nI_m1 {j : Nat} (hj : j < 2 ^ 31) : ¬ nI j = -1 := fun e => by
  have h := congrArg Int32.toInt e
  rw [nI_toInt hj] at h
  have : (-1 : Int32).toInt = -1 := rfl
  omega
theorem lb_w2 {fl nu : Nat → Int32} {nF own i j : Nat} (hi : i < nF) (hj : j < nF) (hn : nF ≤ 8) (h : w2 fl nu i j = false) : -1 = lbI fl nu nF own (nI i) (nI j) := by
  rw [lbI, if_pos (fok_i hi (by omega)), if_neg (nI_m1 (by omega)), if_pos (fok_i hj (by omega)), cN_nI (by omega), cN_nI (by omega)]
  simp [lbS, wyS, h]
theorem lb_1n {fl nu : Nat → Int32} {nF own i : Nat} {y : Int32} (hi : i < nF) (hn : nF ≤ 8) (h1 : w1 fl own i = true) (h0 : y = -1) (h : ¬ fl (7 * i + 1) = fl (7 * own + 1)) : -1 = lbI fl nu nF own (nI i) y := by
  rw [lbI, if_pos (fok_i hi (by omega)), if_pos h0, cN_nI (by omega)]
  simp [lbS, wyS, h1, h]
theorem lb_1y {fl nu : Nat → Int32} {nF own i : Nat} {y : Int32} (hi : i < nF) (hn : nF ≤ 8) (h1 : w1 fl own i = true) (h0 : y = -1) (h : fl (7 * i + 1) = fl (7 * own + 1)) : ltS fl own i = lbI fl nu nF own (nI i) y := by
  rw [lbI, if_pos (fok_i hi (by omega)), if_pos h0, cN_nI (by omega)]
  simp [lbS, wyS, h1, h]
theorem lb_2n {fl nu : Nat → Int32} {nF own i j : Nat} (hi : i < nF) (hj : j < nF) (hn : nF ≤ 8) (h1 : w1 fl own i = true) (h2 : w2 fl nu i j = true) (h : ¬ fl (7 * j + 1) = fl (7 * own + 1)) : -1 = lbI fl nu nF own (nI i) (nI j) := by
  rw [lbI, if_pos (fok_i hi (by omega)), if_neg (nI_m1 (by omega)), if_pos (fok_i hj (by omega)), cN_nI (by omega), cN_nI (by omega)]
  simp [lbS, wyS, h1, h2, h]
theorem lb_2y {fl nu : Nat → Int32} {nF own i j : Nat} (hi : i < nF) (hj : j < nF) (hn : nF ≤ 8) (h1 : w1 fl own i = true) (h2 : w2 fl nu i j = true) (h : fl (7 * j + 1) = fl (7 * own + 1)) : ltS fl own j = lbI fl nu nF own (nI i) (nI j) := by
  rw [lbI, if_pos (fok_i hi (by omega)), if_neg (nI_m1 (by omega)), if_pos (fok_i hj (by omega)), cN_nI (by omega), cN_nI (by omega)]
  simp [lbS, wyS, h1, h2, h]
