/-! THE VALUE of a + b root: a whole number, linear in a and b, whose sign is that of a + b root for all a and b that come (bounded by 2 to the 31) -/
def Pr (r : Int) : Int := if r = 2 then 1669608681642596123180 else if r = 3 then 2044844670072641933001 else if r = 5 then 2639883117590780709625 else if r = 7 then 3123551828344960826483 else 0
def val (r a b : Int) : Int := a * 1180591620717411303424 + b * Pr r
theorem val_add (r a b c d : Int) : val r (a + c) (b + d) = val r a b + val r c d := by
  unfold val
  rw [Int.add_mul, Int.add_mul]
  omega
theorem val_sub (r a b c d : Int) : val r (a - c) (b - d) = val r a b - val r c d := by
  unfold val
  rw [Int.sub_mul, Int.sub_mul]
  omega
theorem val_0 (r : Int) : val r 0 0 = 0 := by simp [val]
theorem Pr_sq {r : Int} (hr : isRoot r) : 0 ≤ Pr r ∧ Pr r < 3541774862152233910272 ∧ Pr r * Pr r ≤ r * (1180591620717411303424 * 1180591620717411303424) ∧ r * (1180591620717411303424 * 1180591620717411303424) < (Pr r + 1) * (Pr r + 1) := by
  unfold isRoot at hr
  rcases hr with e | e | e | e | e <;> subst e <;> decide
theorem lt_of_sq {a b : Int} (hb : 0 ≤ b) (h : a * a < b * b) : a < b := by
  rcases Int.lt_or_le a b with q | q
  · exact q
  · exfalso
    have h1 : b * b ≤ a * a := Int.mul_le_mul q q hb (by omega)
    omega
/-- with a > 0 and q > 0 -/
theorem val_gt {r a q : Int} (hr : isRoot r) (ha : 0 < a) (hq : 0 < q) (h : r * q * q < a * a) : q * Pr r < a * 1180591620717411303424 := by
  obtain ⟨p0, p1, p2, p3⟩ := Pr_sq hr
  apply lt_of_sq (by omega)
  have e1 : q * Pr r * (q * Pr r) = q * q * (Pr r * Pr r) := by simp only [Int.mul_assoc, Int.mul_left_comm]
  have e2 : a * 1180591620717411303424 * (a * 1180591620717411303424) = a * a * (1180591620717411303424 * 1180591620717411303424) := by simp only [Int.mul_assoc, Int.mul_left_comm]
  have h1 : q * q * (Pr r * Pr r) ≤ q * q * (r * (1180591620717411303424 * 1180591620717411303424)) := Int.mul_le_mul_of_nonneg_left p2 (Int.mul_nonneg (by omega) (by omega))
  have e3 : q * q * (r * (1180591620717411303424 * 1180591620717411303424)) = r * q * q * (1180591620717411303424 * 1180591620717411303424) := by simp only [Int.mul_assoc, Int.mul_left_comm]
  rw [e1, e2]
  rw [e3] at h1
  generalize r * q * q = u at *
  generalize a * a = w at *
  omega
theorem val_lt {r a q : Int} (hr : isRoot r) (ha : 0 ≤ a) (hq : 0 < q) (hq2 : q ≤ 2147483648) (h : a * a < r * q * q) : a * 1180591620717411303424 < q * Pr r := by
  obtain ⟨p0, p1, p2, p3⟩ := Pr_sq hr
  apply lt_of_sq (Int.mul_nonneg (by omega) p0)
  have e1 : q * Pr r * (q * Pr r) = q * q * (Pr r * Pr r) := by simp only [Int.mul_assoc, Int.mul_left_comm]
  have e2 : a * 1180591620717411303424 * (a * 1180591620717411303424) = a * a * (1180591620717411303424 * 1180591620717411303424) := by simp only [Int.mul_assoc, Int.mul_left_comm]
  have hqq : 0 ≤ q * q ∧ q * q ≤ 4611686018427387904 := sq_bd (B := 2147483648) (by omega) (by omega)
  have h1 : q * q * (r * (1180591620717411303424 * 1180591620717411303424)) ≤ q * q * ((Pr r + 1) * (Pr r + 1)) := Int.mul_le_mul_of_nonneg_left (by omega) hqq.1
  have e3 : q * q * (r * (1180591620717411303424 * 1180591620717411303424)) = r * q * q * (1180591620717411303424 * 1180591620717411303424) := by simp only [Int.mul_assoc, Int.mul_left_comm]
  have e4 : (Pr r + 1) * (Pr r + 1) = Pr r * Pr r + (2 * Pr r + 1) := by
    rw [Int.add_mul, Int.mul_add]; omega
  have h2 : q * q * (2 * Pr r + 1) ≤ 4611686018427387904 * (2 * Pr r + 1) := Int.mul_le_mul_of_nonneg_right hqq.2 (by omega)
  rw [e4, Int.mul_add] at h1
  rw [e1, e2]
  rw [e3] at h1
  generalize r * q * q = u at *
  generalize a * a = w at *
  generalize q * q * (Pr r * Pr r) = z at *
  generalize q * q * (2 * Pr r + 1) = y at *
  omega
def isg (x : Int) : Int := if 0 < x then 1 else if x < 0 then -1 else 0
theorem neg_sq (r b : Int) : r * -b * -b = r * b * b := by
  rw [Int.mul_assoc, Int.neg_mul_neg, ← Int.mul_assoc]
/-- the sign is the value's sign -/
theorem sgn_val {r a b : Int} (hr : isRoot r) (hrb : r = 0 → b = 0) (ha : -2147483648 ≤ a ∧ a ≤ 2147483648) (hb : -2147483648 ≤ b ∧ b ≤ 2147483648) : sgn r a b = isg (val r a b) := by
  obtain ⟨p0, p1, p2, p3⟩ := Pr_sq hr
  unfold sgn isg val
  by_cases c0 : r = 0 ∨ b = 0
  · rw [if_pos c0]
    have hb0 : b = 0 := c0.elim hrb id
    subst hb0
    rw [Int.zero_mul, Int.add_zero]
    repeat' split
    all_goals omega
  · rw [if_neg c0]
    have hP : 0 < Pr r := by
      unfold isRoot at hr
      rcases hr with e | e | e | e | e
      · exact absurd (Or.inl e) c0
      all_goals (subst e; decide)
    have hne := root_ne (a := a) (b := b) hr (fun e => c0 (Or.inl e)) (fun e => c0 (Or.inr e))
    rcases Int.lt_or_le 0 b with hb1 | hb1
    · have hbp : 0 < b * Pr r := Int.mul_pos hb1 hP
      rcases Int.lt_or_le a 0 with ha1 | ha1
      · rw [if_neg (by omega), if_neg (by omega), if_neg (by omega)]
        by_cases q : a * a < r * b * b
        · have := val_lt (a := -a) (q := b) hr (by omega) hb1 (by omega) (by rw [Int.neg_mul_neg]; exact q)
          rw [if_pos q, if_pos (by omega)]
        · have q2 : r * b * b < a * a := by omega
          have := val_gt (a := -a) (q := b) hr (by omega) hb1 (by rw [Int.neg_mul_neg]; exact q2)
          rw [if_neg q, if_pos q2, if_neg (by omega), if_pos (by omega)]
      · rw [if_pos ⟨ha1, hb1⟩, if_pos (by omega)]
    · have hb2 : b < 0 := by omega
      have hbn : b * Pr r < 0 := by
        have := Int.mul_pos (show 0 < -b by omega) hP
        rw [Int.neg_mul] at this
        omega
      rcases Int.lt_or_le 0 a with ha1 | ha1
      · rw [if_neg (by omega), if_neg (by omega), if_pos ha1]
        by_cases q : r * b * b < a * a
        · have := val_gt (a := a) (q := -b) hr ha1 (by omega) (by rw [neg_sq]; exact q)
          rw [Int.neg_mul] at this
          rw [if_pos q, if_pos (by omega)]
        · have q2 : a * a < r * b * b := by omega
          have := val_lt (a := a) (q := -b) hr (by omega) (by omega) (by omega) (by rw [neg_sq]; exact q2)
          rw [Int.neg_mul] at this
          rw [if_neg q, if_pos q2, if_neg (by omega), if_pos (by omega)]
      · rw [if_neg (by omega), if_pos ⟨ha1, hb2⟩, if_neg (by omega), if_pos (by omega)]
theorem sgn_neg {r a b : Int} (hr : isRoot r) (hrb : r = 0 → b = 0) (ha : -2147483648 ≤ a ∧ a ≤ 2147483648) (hb : -2147483648 ≤ b ∧ b ≤ 2147483648) : (sgn r a b < 0 ↔ val r a b < 0) ∧ (0 < sgn r a b ↔ 0 < val r a b) ∧ (sgn r a b = 0 ↔ val r a b = 0) ∧ -1 ≤ sgn r a b ∧ sgn r a b ≤ 1 := by
  rw [sgn_val hr hrb ha hb]
  unfold isg
  repeat' split
  all_goals omega
theorem val_inj0 {r a b : Int} (hr : isRoot r) (hrb : r = 0 → b = 0) (ha : -2147483648 ≤ a ∧ a ≤ 2147483648) (hb : -2147483648 ≤ b ∧ b ≤ 2147483648) (h : val r a b = 0) : a = 0 ∧ b = 0 := by
  have h1 := (sgn_neg hr hrb ha hb).2.2.1.mpr h
  unfold sgn at h1
  by_cases c0 : r = 0 ∨ b = 0
  · rw [if_pos c0] at h1
    have hb0 : b = 0 := c0.elim hrb id
    refine ⟨?_, hb0⟩
    repeat' split at h1
    all_goals omega
  · have hne := root_ne (a := a) (b := b) hr (fun e => c0 (Or.inl e)) (fun e => c0 (Or.inr e))
    rw [if_neg c0] at h1
    repeat' split at h1
    all_goals omega
theorem val_inj {r a b c d : Int} (hr : isRoot r) (hrb : r = 0 → b = 0) (hrd : r = 0 → d = 0) (ha : -1073741824 ≤ a ∧ a ≤ 1073741824) (hb : -1073741824 ≤ b ∧ b ≤ 1073741824) (hc : -1073741824 ≤ c ∧ c ≤ 1073741824) (hd : -1073741824 ≤ d ∧ d ≤ 1073741824) (h : val r a b = val r c d) : a = c ∧ b = d := by
  have h1 := val_inj0 (a := a - c) (b := b - d) hr (fun e => by rw [hrb e, hrd e]; rfl) (by omega) (by omega) (by rw [val_sub]; omega)
  omega
