/-! class and reference: the same answers; the simple ones -/
theorem ly_isReg (r : Int32) : mf_Y_isRegister r = mf_X0_isRegister r := by
  unfold mf_Y_isRegister mf_X0_isRegister
  have e : ((7 : Int32) < r) ↔ ((8 : Int32) ≤ r) := by
    rw [Int32.lt_iff_toInt_lt, Int32.le_iff_toInt_le, show (7 : Int32).toInt = 7 by decide, show (8 : Int32).toInt = 8 by decide]; omega
  simp only [e]
theorem ly_isSize (r : Int32) : mf_Y_isSize r = mf_X0_isSize r := rfl
theorem ly_res (f : Nat → Int64) (u o mi xe : Int32) (bi : Int64) (fa cu p1 r : Int32) : mf_Y_isReserved (mf_Y_in f u o mi xe bi fa cu p1 r) = mf_X0_isReserved f u o r := by
  unfold mf_Y_isReserved mf_X0_isReserved mf_Y_in
  by_cases c : p1 = 8
  · rw [if_pos c]
  · rw [if_neg c, Int64.and_assoc, show (4294967295 : Int64) &&& 65408 = 65408 by decide]
theorem ly_two (f : Nat → Int64) (u o mi xe : Int32) (bi : Int64) (fa cu a b c d : Int32) : mf_Y_two f u o mi xe bi fa cu a b c d = mf_X0_refusalOf f u o a b c d := by
  unfold mf_Y_two mf_X0_refusalOf xj_bnd
  dsimp only
  rw [ly_isReg, ly_isReg, ly_isReg, ly_isSize, ly_res, ly_res]
theorem ly_one (f : Nat → Int64) (u o mi xe : Int32) (bi : Int64) (fa cu a b d : Int32) : mf_Y_one f u o mi xe bi fa cu a b d = mf_X0_refusalOf f u o a b b d := by
  unfold mf_Y_one mf_X0_refusalOf xj_bnd
  dsimp only
  rw [ly_isReg, ly_isReg, ly_isSize, ly_res]
  by_cases h1 : mf_X0_isSize a = 0
  · simp only [if_pos h1]
  · by_cases h2 : mf_X0_isRegister b = 0
    · simp only [if_neg h1, if_pos h2]
    · by_cases h3 : mf_X0_isReserved f u o b = 0
      · simp only [if_neg h1, if_neg h2, if_pos h3]
      · simp only [if_neg h1, if_neg h2, if_neg h3]
theorem ly_ref3 (f : Nat → Int64) (u o a b c d : Int32) : mf_X0_refusalOf f u o a b c d = 0 ∨ mf_X0_refusalOf f u o a b c d = -5 ∨ mf_X0_refusalOf f u o a b c d = -1 := by
  unfold mf_X0_refusalOf xj_bnd
  dsimp only
  (repeat' split) <;> simp
theorem ly_size {f : Nat → Int64} {u o a b c d : Int32} (h : mf_X0_refusalOf f u o a b c d = 0) : a = 4 ∨ a = 8 := by
  unfold mf_X0_refusalOf xj_bnd at h
  dsimp only at h
  by_cases h1 : mf_X0_isSize a = 0
  · rw [if_pos h1] at h; exact absurd h (by decide)
  · unfold mf_X0_isSize at h1
    by_cases c1 : a = 4
    · exact Or.inl c1
    · by_cases c2 : a = 8
      · exact Or.inr c2
      · rw [if_neg c1, if_neg c2] at h1; exact absurd rfl h1
theorem ly_ge (f : Nat → Int64) (u o a b c d : Int32) : (0 : Int32) ≤ mf_X0_refusalOf f u o a b c d ↔ mf_X0_refusalOf f u o a b c d = 0 := by
  rcases ly_ref3 f u o a b c d with h | h | h <;> rw [h] <;> decide
theorem ly_sp {size : Int32} (h : size = 4 ∨ size = 8) : ∃ s p, (size = 4 ∧ s = 39 ∧ p = 24) ∨ (size = 8 ∧ s = 7 ∧ p = 56) := by
  rcases h with h | h
  · exact ⟨39, 24, Or.inl ⟨h, rfl, rfl⟩⟩
  · exact ⟨7, 56, Or.inr ⟨h, rfl, rfl⟩⟩
/-- the bits of a register, as they are read -/
theorem ly_in (g : Nat → Int64) {size : Int32} (r : Int32) (h : size = 4 ∨ size = 8) : ∃ n, n < 2 ^ 64 ∧ (size = 8 ∨ n < 2 ^ 32) ∧ ny_in g size r = lN n ∧ (if size = 4 then g r.toNatClampNeg &&& 4294967295 else g r.toNatClampNeg) = lN n := by
  obtain ⟨n, hn, e⟩ := nb_of (g r.toNatClampNeg)
  have hm : lN n &&& (4294967295 : Int64) = lN (n % 2 ^ 32) := nb_mask (k := 32) hn (by decide)
  unfold ny_in
  rcases h with h | h
  · subst h
    exact ⟨n % 2 ^ 32, by omega, Or.inr (by omega), by rw [if_neg (by decide), e, hm], by rw [if_pos rfl, e, hm]⟩
  · subst h
    exact ⟨n, hn, Or.inl rfl, by rw [if_pos rfl, e], by rw [if_neg (by decide), e]⟩
/-- the class's value of such bits -/
def nx_M (n : Nat) : Nat := if nx_ex n = 0 then 0 else nx_ex n * 2 ^ 55 + nx_fr n
theorem nx_M_lt {n : Nat} (h : n < 2 ^ 64) : nx_M n < 2 ^ 63 := by
  have h1 := nx_ex_lt n
  have h2 := nx_fr_lt h
  unfold nx_M; split <;> omega
theorem ly_val {f : Nat → Int64} (u o : Int32) {p1 p2 : Int32} {n : Nat} (hn : n < 2 ^ 64) (hf : (if p1 = 4 then f p2.toNatClampNeg &&& 4294967295 else f p2.toNatClampNeg) = lN n) : mf_X0_valueIn f u o p1 p2 = nx_v (decide (nx_sg n ≠ 0)) (nx_M n) := by
  rw [nx_valueIn f u o p1 p2 hn hf]
  unfold nx_M
  by_cases c : nx_ex n = 0
  · rw [if_pos c, if_pos c]
    have h0 : ∀ b, (0 : Int64) = nx_v b 0 := by decide
    exact h0 _
  · rw [if_neg c, if_neg c]
theorem ly_set (f : Nat → Int64) (u o mi xe : Int32) (bi : Int64) (fa cu p1 : Int32) (p2 : Int64) : ly_r (mf_Y_set f u o mi xe bi fa cu p1 p2) = mf_X0_set f u o p1 p2 := by
  unfold mf_Y_set mf_X0_set mf_X0_isRegister xj_bnd ly_r
  dsimp only
  have e : (p1 ≤ (7 : Int32)) ↔ ¬ ((8 : Int32) ≤ p1) := by
    rw [Int32.le_iff_toInt_le, Int32.le_iff_toInt_le, show (7 : Int32).toInt = 7 by decide, show (8 : Int32).toInt = 8 by decide]; omega
  by_cases c : p1 < 0
  · simp [c]
  · by_cases d : (8 : Int32) ≤ p1
    · simp [c, d, e]
    · simp [c, d, e]
theorem ly_get (f : Nat → Int64) (u o mi xe : Int32) (bi : Int64) (fa cu p1 : Int32) : mf_Y_get f u o mi xe bi fa cu p1 = mf_X0_get f u o p1 := by
  unfold mf_Y_get mf_X0_get mf_X0_isRegister xj_bnd
  dsimp only
  have e : (p1 ≤ (7 : Int32)) ↔ ¬ ((8 : Int32) ≤ p1) := by
    rw [Int32.le_iff_toInt_le, Int32.le_iff_toInt_le, show (7 : Int32).toInt = 7 by decide, show (8 : Int32).toInt = 8 by decide]; omega
  by_cases c : p1 < 0
  · simp [c]
  · by_cases d : (8 : Int32) ≤ p1
    · simp [c, d, e]
    · simp [c, d, e]
/-- a result 0 -/
theorem ly_gives0 (f : Nat → Int64) (u o mi xe : Int32) (bi : Int64) (to : Int32) : ly_r (mf_Y_gives f u o mi xe bi 0 0 0 to) = (4, (vp_updL f to.toNatClampNeg 0, u, 0)) := by
  have h0 : mf_Y_flags (0 : Int64) = 4 := by decide +kernel
  unfold mf_Y_gives ly_r xj_bnd
  simp [h0]
theorem ly_rounds0 (f : Nat → Int64) (u o mi xe : Int32) (bi : Int64) (fa cu size below power more : Int32) : mf_Y_rounds f u o mi xe bi fa cu size below 0 power more = (0, (f, u, o, mi, xe, bi, 0, 0)) := by
  unfold mf_Y_rounds
  rw [if_pos rfl]
/-- a float that is read is written back as it was -/
theorem ly_back {n : Nat} (hn : n < 2 ^ 64) : nx_bits (nx_sg n) (nx_ex n) (nx_fr n) = n := by
  have e0 : n = n % 2 ^ 7 + n / 2 ^ 7 % 2 ^ 8 * 2 ^ 7 + n / 2 ^ 15 % 2 * 2 ^ 15 + n / 2 ^ 16 % 2 ^ 16 * 2 ^ 16 + n / 2 ^ 32 % 2 ^ 16 * 2 ^ 32 + n / 2 ^ 48 * 2 ^ 48 := by omega
  have ha : n % 2 ^ 7 < 2 ^ 7 := by omega
  have hb : n / 2 ^ 16 % 2 ^ 16 < 2 ^ 16 := by omega
  have hc : n / 2 ^ 32 % 2 ^ 16 < 2 ^ 16 := by omega
  have hd : n / 2 ^ 48 < 2 ^ 16 := by omega
  unfold nx_bits nx_sg nx_ex nx_fr
  generalize n % 2 ^ 7 = a at e0 ha ⊢
  generalize n / 2 ^ 7 % 2 ^ 8 = e at e0 ⊢
  generalize n / 2 ^ 15 % 2 = sg at e0 ⊢
  generalize n / 2 ^ 16 % 2 ^ 16 = b at e0 hb ⊢
  generalize n / 2 ^ 32 % 2 ^ 16 = c at e0 hc ⊢
  generalize n / 2 ^ 48 = d at e0 hd ⊢
  have f1 : (a * 2 ^ 48 + b * 2 ^ 32 + c * 2 ^ 16 + d) / 2 ^ 48 = a := by omega
  have f2 : (a * 2 ^ 48 + b * 2 ^ 32 + c * 2 ^ 16 + d) / 2 ^ 32 % 2 ^ 16 = b := by
    rw [show (a * 2 ^ 48 + b * 2 ^ 32 + c * 2 ^ 16 + d) / 2 ^ 32 = a * 2 ^ 16 + b by omega]; omega
  have f3 : (a * 2 ^ 48 + b * 2 ^ 32 + c * 2 ^ 16 + d) / 2 ^ 16 % 2 ^ 16 = c := by
    rw [show (a * 2 ^ 48 + b * 2 ^ 32 + c * 2 ^ 16 + d) / 2 ^ 16 = a * 2 ^ 32 + b * 2 ^ 16 + c by omega]; omega
  have f4 : (a * 2 ^ 48 + b * 2 ^ 32 + c * 2 ^ 16 + d) % 2 ^ 16 = d := by omega
  rw [f1, f2, f3, f4, e0]
  omega
