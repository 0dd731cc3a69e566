/-! class and reference: signs; what is written back as it was -/
theorem ly_fr4 {n : Nat} (h : n < 2 ^ 32) : nx_fr n % 2 ^ 32 = 0 := by
  unfold nx_fr
  rw [show n / 2 ^ 32 = 0 by omega, show n / 2 ^ 48 = 0 by omega]
  omega
theorem ly_exact (f : Nat → Int64) (u o size to : Int32) (b : Bool) {n : Nat} (hn : n < 2 ^ 64) (hsz : size = 4 ∨ size = 8) (h8 : size = 8 ∨ n < 2 ^ 32) (hex : nx_ex n ≠ 0) :
    mf_X0_storeValue f u o size to (nx_v b (nx_M n)) = ((if b then 8 else 0), (vp_updL f to.toNatClampNeg (lN (nx_bits (if b then 1 else 0) (nx_ex n) (nx_fr n))), u, 0)) := by
  obtain ⟨m1, m2, m3⟩ := nx_M_ex hn hex
  have hx := nx_ex_lt n
  have hfr := nx_fr_lt hn
  rw [nx_storeValue f u o size to b (nx_M_lt hn) m3, m1, m2]
  have hs : ∃ s m, ((size = 4 ∧ s = 39) ∨ (size ≠ 4 ∧ s = 7)) ∧ m = ((2 ^ 55 + nx_fr n) * 2 ^ 7 * 2 ^ 0 + 2 ^ (s - 1)) / 2 ^ s ∧ m * 2 ^ s = (2 ^ 55 + nx_fr n) * 2 ^ 7 ∧ (2 ^ 55 + nx_fr n) * 2 ^ 7 * 2 ^ 0 % 2 ^ s = 0 := by
    rcases hsz with h | h
    · have h4 := ly_fr4 (show n < 2 ^ 32 by rcases h8 with c | c; rw [h] at c; exact absurd c (by decide); exact c)
      exact ⟨39, _, Or.inl ⟨h, rfl⟩, rfl, by omega, by omega⟩
    · exact ⟨7, _, Or.inr ⟨by rw [h]; decide, rfl⟩, rfl, by omega, by omega⟩
  obtain ⟨s, m, hs1, hm, hm2, hm3⟩ := hs
  rw [nx_storeRounded f u o size to (if b then 1 else 0) (nI (nx_ex n)) (W := (2 ^ 55 + nx_fr n) * 2 ^ 7) (j := 0) (e := nx_ex n) hs1 (by omega) (by omega) (by decide) (nI_toInt (by omega)) (by omega) (by omega) hm]
  have hc : ¬ (2 ^ 55 + nx_fr n) * 2 ^ 7 = 2 ^ 63 := by omega
  have hE : ((nx_ex n : Int) - ((0 : Nat) : Int) + 0) = (nx_ex n : Int) := by omega
  have hF : (2 ^ 55 + nx_fr n) * 2 ^ 7 / 2 ^ 7 % 2 ^ 55 = nx_fr n := by omega
  rw [hm2, if_neg hc, if_pos hm3, hE, hF]
  unfold nx_out
  rw [if_neg (show ¬ 255 < (nx_ex n : Int) by omega), if_neg (show ¬ (nx_ex n : Int) < 1 by omega), Int.toNat_natCast]
  cases b <;> simp
theorem ly_givesv (f : Nat → Int64) (u o mi xe : Int32) (bi : Int64) (to : Int32) {n : Nat} (hn : n < 2 ^ 64) : ly_r (mf_Y_gives f u o mi xe bi 0 0 (lN n) to) = ((if nx_ex n = 0 then 4 else if nx_sg n = 0 then 0 else 8), (vp_updL f to.toNatClampNeg (lN n), u, 0)) := by
  unfold mf_Y_gives ly_r xj_bnd
  dsimp only
  rw [if_pos rfl, ly_flags hn]
theorem ly_sg2 (n : Nat) : nx_sg n < 2 := by unfold nx_sg; omega
theorem ly_flip {n : Nat} (hn : n < 2 ^ 64) : lN n ^^^ (32768 : Int64) = lN (nx_bits (1 - nx_sg n) (nx_ex n) (nx_fr n)) := by
  have h2 := ly_sg2 n
  have hx := nx_ex_lt n
  have hfr := nx_fr_lt hn
  have hb := ly_back hn
  have e1 : nx_bits (1 - nx_sg n) (nx_ex n) (nx_fr n) + nx_sg n * 2 ^ 15 = n + (1 - nx_sg n) * 2 ^ 15 := by
    have : nx_bits (1 - nx_sg n) (nx_ex n) (nx_fr n) + nx_sg n * 2 ^ 15 = nx_bits (nx_sg n) (nx_ex n) (nx_fr n) + (1 - nx_sg n) * 2 ^ 15 := by
      unfold nx_bits; omega
    rw [hb] at this; exact this
  have e2 : lN n ^^^ (32768 : Int64) = lN (n ^^^ 2 ^ 15) := by
    apply nb_inj
    rw [Int64.toBitVec_xor, nb_tb, nb_tb, show (32768 : Int64).toBitVec = BitVec.ofNat 64 (2 ^ 15) from rfl]
    apply BitVec.eq_of_toNat_eq
    rw [BitVec.toNat_xor, BitVec.toNat_ofNat, BitVec.toNat_ofNat, BitVec.toNat_ofNat, Nat.mod_eq_of_lt hn, Nat.mod_eq_of_lt (show 2 ^ 15 < 2 ^ 64 by decide), Nat.mod_eq_of_lt (Nat.xor_lt_two_pow hn (by decide))]
  have a1 : (n ^^^ 2 ^ 15) % 2 ^ 15 = n % 2 ^ 15 := by rw [Nat.xor_mod_two_pow, Nat.mod_self, Nat.xor_zero]
  have a2 : (n ^^^ 2 ^ 15) / 2 ^ 15 = (n / 2 ^ 15) ^^^ 1 := by rw [Nat.xor_div_two_pow, Nat.div_self (by decide)]
  have a3 : ((n / 2 ^ 15) ^^^ 1) / 2 ^ 1 = n / 2 ^ 15 / 2 ^ 1 := by rw [Nat.xor_div_two_pow, show 1 / 2 ^ 1 = 0 from rfl, Nat.xor_zero]
  have a4 : ((n / 2 ^ 15) ^^^ 1) % 2 = 1 - n / 2 ^ 15 % 2 := by
    have := Nat.xor_mod_two_pow (a := n / 2 ^ 15) (b := 1) (n := 1)
    rw [Nat.pow_one] at this
    rw [this]
    rcases Nat.mod_two_eq_zero_or_one (n / 2 ^ 15) with c | c <;> rw [c] <;> rfl
  rw [e2]
  congr 1
  have hsg : nx_sg n = n / 2 ^ 15 % 2 := rfl
  generalize nx_bits (1 - nx_sg n) (nx_ex n) (nx_fr n) = z at e1 ⊢
  generalize nx_sg n = gg at e1 hsg
  clear hb hx hfr e2 h2
  generalize n ^^^ 2 ^ 15 = t at a1 a2 ⊢
  generalize (n / 2 ^ 15) ^^^ 1 = w at a2 a3 a4
  omega
theorem ly_other {n : Nat} (hn : n < 2 ^ 64) : mf_Y_other (lN n) = lN (if nx_ex n = 0 then 0 else nx_bits (1 - nx_sg n) (nx_ex n) (nx_fr n)) := by
  unfold mf_Y_other
  rw [xj_bnd_eq, ny_isZero hn, ly_flip hn]
  by_cases c : nx_ex n = 0
  · simp [c]; rfl
  · simp [c]
