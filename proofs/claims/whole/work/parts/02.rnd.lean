/-! rounding: pure arithmetic. nq_stk N D: N / D cut to a whole number whose lowest bit is set if anything was cut off at or below it -/
def nq_stk (N D : Nat) : Nat := 2 * (N / (2 * D)) + (if N % (2 * D) = 0 then 0 else 1)
theorem nq_half (N D : Nat) : nq_stk N D / 2 = N / (2 * D) := by
  unfold nq_stk; split <;> omega
theorem nq_odd (N D : Nat) : nq_stk N D % 2 = 0 ↔ N % (2 * D) = 0 := by
  unfold nq_stk; split <;> omega
theorem nq_stk_eq (w D : Nat) : nq_stk w D = if w % D = 0 then w / D else w / D / 2 * 2 + 1 := by
  unfold nq_stk
  have h1 : w / (2 * D) = w / D / 2 := by rw [Nat.div_div_eq_div_mul, Nat.mul_comm]
  have h2 : w % (2 * D) = w % D + D * (w / D % 2) := by rw [Nat.mul_comm, Nat.mod_mul]
  rw [h1, h2]
  rcases Nat.mod_two_eq_zero_or_one (w / D) with h | h
  · rw [h, Nat.mul_zero, Nat.add_zero]
    split <;> omega
  · rw [h, Nat.mul_one]
    by_cases hD : D = 0
    · subst hD; simp at h
    · rw [if_neg (by omega)]
      split <;> omega
/-- rounding sees no more of N / D than nq_stk keeps -/
theorem nq_rnd {N D j s : Nat} (hD : 0 < D) (hs : j + 2 ≤ s) : (nq_stk N D * 2 ^ j + 2 ^ (s - 1)) / 2 ^ s = (N * 2 ^ j + D * 2 ^ (s - 1)) / (D * 2 ^ s) := by
  obtain ⟨k, rfl⟩ : ∃ k, s = j + 2 + k := ⟨s - (j + 2), by omega⟩
  have e1 : (2 : Nat) ^ (j + 2 + k - 1) = 2 ^ j * (2 * 2 ^ k) := by
    rw [show j + 2 + k - 1 = j + (1 + k) by omega, Nat.pow_add, Nat.pow_add]
  have e2 : (2 : Nat) ^ (j + 2 + k) = 2 ^ j * (2 * (2 * 2 ^ k)) := by
    rw [show j + 2 + k = j + (2 + k) by omega, Nat.pow_add, Nat.pow_add]; congr 1; omega
  have hj : 0 < 2 ^ j := Nat.two_pow_pos j
  have hk : 0 < 2 ^ k := Nat.two_pow_pos k
  rw [e1, e2]
  generalize 2 ^ j = J at *
  generalize 2 ^ k = c at *
  have l1 : nq_stk N D * J + J * (2 * c) = J * (nq_stk N D + 2 * c) := by rw [Nat.mul_add, Nat.mul_comm]
  have l2 : N * J + D * (J * (2 * c)) = J * (N + 2 * D * c) := by
    rw [Nat.mul_add, Nat.mul_comm N J]; congr 1; ac_rfl
  have l3 : D * (J * (2 * (2 * c))) = J * (2 * D * (2 * c)) := by ac_rfl
  rw [l1, l2, l3, Nat.mul_div_mul_left _ _ hj, Nat.mul_div_mul_left _ _ hj]
  have r1 : (nq_stk N D + 2 * c) / (2 * (2 * c)) = (nq_stk N D / 2 + c) / (2 * c) := by rw [← Nat.div_div_eq_div_mul, Nat.add_mul_div_left _ _ (by decide)]
  have r2 : (N + 2 * D * c) / (2 * D * (2 * c)) = (N / (2 * D) + c) / (2 * c) := by rw [← Nat.div_div_eq_div_mul, Nat.add_mul_div_left _ _ (by omega)]
  rw [r1, r2, nq_half]
theorem nq_exact {N D j s : Nat} (hD : 0 < D) (hs : j + 2 ≤ s) : nq_stk N D * 2 ^ j % 2 ^ s = 0 ↔ N * 2 ^ j % (D * 2 ^ s) = 0 := by
  obtain ⟨k, rfl⟩ : ∃ k, s = j + 2 + k := ⟨s - (j + 2), by omega⟩
  have e2 : (2 : Nat) ^ (j + 2 + k) = 2 ^ j * (2 * (2 * 2 ^ k)) := by
    rw [show j + 2 + k = j + (2 + k) by omega, Nat.pow_add, Nat.pow_add]; congr 1; omega
  have hj : 0 < 2 ^ j := Nat.two_pow_pos j
  have hk : 0 < 2 ^ k := Nat.two_pow_pos k
  rw [e2]
  generalize 2 ^ j = J at *
  generalize 2 ^ k = c at *
  have l3 : D * (J * (2 * (2 * c))) = J * (2 * D * (2 * c)) := by ac_rfl
  rw [l3, Nat.mul_comm _ J, Nat.mul_comm _ J, Nat.mul_mod_mul_left, Nat.mul_mod_mul_left]
  rw [Nat.mod_mul (a := 2), Nat.mod_mul (a := 2 * D), nq_half]
  have h := nq_odd N D
  constructor
  · intro h0
    have h1 : J * (nq_stk N D % 2 + 2 * (N / (2 * D) % (2 * c))) = 0 := h0
    rcases Nat.mul_eq_zero.mp h1 with h2 | h2
    · omega
    · have a1 : nq_stk N D % 2 = 0 := by omega
      have a2 : N / (2 * D) % (2 * c) = 0 := by omega
      rw [h.mp a1, a2]; simp
  · intro h0
    rcases Nat.mul_eq_zero.mp h0 with h2 | h2
    · omega
    · have a1 : N % (2 * D) = 0 := by omega
      have a2 : 2 * D * (N / (2 * D) % (2 * c)) = 0 := by omega
      rcases Nat.mul_eq_zero.mp a2 with h3 | h3
      · omega
      · rw [h.mpr a1, h3]; simp
/-- sums and differences keep it -/
theorem nq_add {F N D : Nat} (hF : F % 2 = 0) (hD : 0 < D) : F + nq_stk N D = nq_stk (F * D + N) D := by
  obtain ⟨g, rfl⟩ : ∃ g, F = 2 * g := ⟨F / 2, by omega⟩
  unfold nq_stk
  have e : 2 * g * D + N = N + 2 * D * g := by
    rw [Nat.add_comm]; congr 1; ac_rfl
  rw [e, Nat.add_mul_div_left _ _ (by omega), Nat.add_mul_mod_self_left]
  omega
theorem nq_sub {F N D : Nat} (hF : F % 2 = 0) (hD : 0 < D) (h : N ≤ F * D) : F - nq_stk N D = nq_stk (F * D - N) D ∧ nq_stk N D ≤ F := by
  obtain ⟨g, rfl⟩ : ∃ g, F = 2 * g := ⟨F / 2, by omega⟩
  have e : 2 * g * D = 2 * D * g := by ac_rfl
  rw [e] at h ⊢
  have hdm := Nat.div_add_mod N (2 * D)
  have hml := Nat.mod_lt N (show 0 < 2 * D by omega)
  unfold nq_stk
  generalize hq : N / (2 * D) = q at *
  generalize hr : N % (2 * D) = r at *
  by_cases hz : r = 0
  · subst hz
    have hq1 : q ≤ g := by
      rcases Nat.lt_or_ge g q with c | c
      · have := Nat.mul_le_mul_left (2 * D) (show g + 1 ≤ q by omega)
        rw [Nat.mul_add] at this; omega
      · exact c
    have e2 : 2 * D * g - N = 2 * D * (g - q) := by rw [Nat.mul_sub]; omega
    rw [e2, Nat.mul_div_cancel_left _ (by omega), Nat.mul_mod_right]
    simp
    omega
  · have hq1 : q + 1 ≤ g := by
      rcases Nat.lt_or_ge q g with c | c
      · omega
      · have := Nat.mul_le_mul_left (2 * D) c
        omega
    have e2 : 2 * D * g - N = (2 * D - r) + 2 * D * (g - (q + 1)) := by
      rw [Nat.mul_sub, Nat.mul_add]
      have := Nat.mul_le_mul_left (2 * D) hq1
      rw [Nat.mul_add] at this
      omega
    rw [e2, Nat.add_mul_div_left _ _ (by omega), Nat.add_mul_mod_self_left, Nat.div_eq_of_lt (by omega), Nat.mod_eq_of_lt (by omega), if_neg hz, if_neg (by omega)]
    omega
