theorem ly_negative (f : Nat → Int64) (u o mi xe : Int32) (bi : Int64) (fa cu p1 p2 p3 : Int32) : ly_r (mf_Y_negative f u o mi xe bi fa cu p1 p2 p3) = mf_X0_negative f u o p1 p2 p3 := by
  unfold mf_Y_negative mf_X0_negative
  simp only [xj_eta8, xj_eta3]
  simp only [xj_bnd_eq, ly_one, ly_ge]
  by_cases h : mf_X0_refusalOf f u o p1 p2 p2 p3 = 0
  · rw [if_pos h, if_pos h]
    have hsz := ly_size h
    obtain ⟨n, hn, h8, hi1, hi2⟩ := ly_in f p2 hsz
    rw [show mf_Y_in f u o mi xe bi 0 0 p1 p2 = lN n from hi1, ly_val u o hn hi2, nx_vneg, ly_other hn]
    have hsg := ly_sg2 n
    have hx := nx_ex_lt n
    have hfr := nx_fr_lt hn
    by_cases c : nx_ex n = 0
    · have hM0 : nx_M n = 0 := by unfold nx_M; rw [if_pos c]
      rw [hM0, nx_storeValue0, if_pos c, show lN 0 = (0 : Int64) from rfl]
      exact ly_gives0 ..
    · rw [if_neg c, ly_exact f u o p1 p3 _ hn hsz h8 c, ly_givesv _ _ _ _ _ _ _ (ly_bits_lt (by omega) hx hfr), ly_bits_ex (by omega) hx hfr, ly_bits_sg (by omega) hx hfr, if_neg c]
      rcases (show nx_sg n = 0 ∨ nx_sg n = 1 by omega) with d | d <;> simp [d]
  · rw [if_neg h, if_neg h]; rfl
/-! sums: the larger and the smaller, of any signs -/
theorem ly_sumN {t d tl ts : Nat} (hd : ts ≤ tl * 2 ^ d) : (2 ^ 6 * 2 ^ t * (tl * 2 ^ d + ts)) / (2 ^ d * 2 ^ t) = tl * 2 ^ 6 + ts * 2 ^ 6 / 2 ^ d ∧ ((2 ^ 6 * 2 ^ t * (tl * 2 ^ d + ts)) % (2 ^ d * 2 ^ t) = 0 ↔ ts * 2 ^ 6 % 2 ^ d = 0) ∧
    (2 ^ 6 * 2 ^ t * (tl * 2 ^ d - ts)) / (2 ^ d * 2 ^ t) = tl * 2 ^ 6 - ts * 2 ^ 6 / 2 ^ d - (if ts * 2 ^ 6 % 2 ^ d = 0 then 0 else 1) ∧ ((2 ^ 6 * 2 ^ t * (tl * 2 ^ d - ts)) % (2 ^ d * 2 ^ t) = 0 ↔ ts * 2 ^ 6 % 2 ^ d = 0) := by
  have hD : 0 < 2 ^ d := Nat.two_pow_pos d
  have hT : 0 < 2 ^ t := Nat.two_pow_pos t
  have e1 : 2 ^ 6 * 2 ^ t * (tl * 2 ^ d + ts) = 2 ^ t * (ts * 2 ^ 6 + 2 ^ d * (tl * 2 ^ 6)) := by
    rw [Nat.mul_add, Nat.mul_add, Nat.add_comm]; congr 1 <;> ac_rfl
  have e2 : 2 ^ d * 2 ^ t = 2 ^ t * 2 ^ d := Nat.mul_comm _ _
  have hle : ts * 2 ^ 6 ≤ 2 ^ d * (tl * 2 ^ 6) := by
    rw [show 2 ^ d * (tl * 2 ^ 6) = tl * 2 ^ d * 2 ^ 6 by ac_rfl]; exact Nat.mul_le_mul_right _ hd
  have e3 : 2 ^ 6 * 2 ^ t * (tl * 2 ^ d - ts) = 2 ^ t * (2 ^ d * (tl * 2 ^ 6) - ts * 2 ^ 6) := by
    rw [Nat.mul_sub, Nat.mul_sub]; congr 1 <;> ac_rfl
  have z : ∀ a, 2 ^ t * a = 0 ↔ a = 0 := fun a => ⟨fun h => by rcases Nat.mul_eq_zero.mp h with c | c; omega; exact c, fun h => by rw [h, Nat.mul_zero]⟩
  rw [e1, e3, e2, Nat.mul_div_mul_left _ _ hT, Nat.mul_div_mul_left _ _ hT, Nat.mul_mod_mul_left, Nat.mul_mod_mul_left, z, z, Nat.add_mul_div_left _ _ hD, Nat.add_mul_mod_self_left]
  refine ⟨by rw [Nat.add_comm], Iff.rfl, ?_, ?_⟩
  all_goals
    have hdm := Nat.div_add_mod (ts * 2 ^ 6) (2 ^ d)
    have hml := Nat.mod_lt (ts * 2 ^ 6) hD
    generalize ts * 2 ^ 6 = y at *
    generalize tl * 2 ^ 6 = x at *
    generalize 2 ^ d = D at *
    generalize hq : y / D = q at *
    generalize hr : y % D = r at *
  · by_cases c : r = 0
    · rw [if_pos c, show D * x - y = D * (x - q) by rw [Nat.mul_sub]; omega, Nat.mul_div_cancel_left _ hD]; omega
    · have hqx : q + 1 ≤ x := by
        rcases Nat.lt_or_ge q x with k | k
        · exact k
        · have := Nat.mul_le_mul_left D k; omega
      have e : D * x - y = (D - r) + D * (x - (q + 1)) := by
        have := Nat.mul_le_mul_left D hqx
        rw [Nat.mul_sub, Nat.mul_add] at *; omega
      rw [if_neg c, e, Nat.add_mul_div_left _ _ hD, Nat.div_eq_of_lt (by omega)]; omega
  · by_cases c : r = 0
    · rw [show D * x - y = D * (x - q) by rw [Nat.mul_sub]; omega, Nat.mul_mod_right]; simp [c]
    · have hqx : q + 1 ≤ x := by
        rcases Nat.lt_or_ge q x with k | k
        · exact k
        · have := Nat.mul_le_mul_left D k; omega
      have e : D * x - y = (D - r) + D * (x - (q + 1)) := by
        have := Nat.mul_le_mul_left D hqx
        rw [Nat.mul_sub, Nat.mul_add] at *; omega
      rw [e, Nat.add_mul_mod_self_left, Nat.mod_eq_of_lt (by omega)]
      omega
