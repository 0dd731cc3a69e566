/-! the reference's pure functions, as arithmetic -/
theorem nb_shr {n k : Nat} (hn : n < 2 ^ 63) (hk : k < 64) : xj_shr (lN n) (nI k) = lN (n / 2 ^ k) := by
  have hd : n / 2 ^ k ≤ n := Nat.div_le_self _ _
  unfold xj_shr
  rw [nb_c k hk]
  have hD : ((lN k).toBitVec.smod 64).toNat = k := by
    rw [nb_tb, nb_sm k hk, BitVec.toNat_ofNat, Nat.mod_eq_of_lt (by omega)]
  apply Int64.toInt_inj.mp
  have e : (lN n >>> lN k).toInt = (lN n).toInt >>> k := by
    conv => rhs; rw [← hD]
    exact BitVec.toInt_sshiftRight ..
  rw [e, Int.shiftRight_eq_div_pow, pk_lT hn, pk_lT (by omega)]
  rfl
theorem nb_shrm {n k w : Nat} (hn : n < 2 ^ 64) (hk : k < 64) (hw : w < 64) (h : k + w ≤ 64) : xj_shr (lN n) (nI k) &&& lN (2 ^ w - 1) = lN (n / 2 ^ k % 2 ^ w) := by
  unfold xj_shr
  rw [nb_c k hk]
  have hD : ((lN k).toBitVec.smod 64).toNat = k := by
    rw [nb_tb, nb_sm k hk, BitVec.toNat_ofNat, Nat.mod_eq_of_lt (by omega)]
  apply nb_inj
  have e : (lN n >>> lN k).toBitVec = (lN n).toBitVec.sshiftRight k := by
    conv => rhs; rw [← hD]
    rfl
  rw [Int64.toBitVec_and, e, nb_tb, nb_tb, nb_tb]
  apply BitVec.eq_of_getLsbD_eq
  intro i hi
  rw [BitVec.getLsbD_and, BitVec.getLsbD_sshiftRight, BitVec.getLsbD_ofNat, BitVec.getLsbD_ofNat, BitVec.getLsbD_ofNat, Nat.testBit_two_pow_sub_one, Nat.testBit_mod_two_pow, Nat.testBit_div_two_pow]
  by_cases c : i < w
  · have : i + k < 64 := by omega
    have t2 : k + i < 64 := by omega
    have t3 : ¬ 64 ≤ i := by omega
    simp [c, hi, t2, t3, Nat.add_comm i k]
  · simp [c]
theorem ny_and7F80 {n : Nat} (hn : n < 2 ^ 64) : (lN n &&& (32640 : Int64)) = 0 ↔ nx_ex n = 0 := by
  rw [show (32640 : Int64) = lN ((2 ^ 8 - 1) * 2 ^ 7) from rfl, nb_and hn (by decide), show (0 : Int64) = lN 0 from rfl, nb_eq (Nat.and_lt_two_pow _ (by decide)) (by decide), nb_field]
  unfold nx_ex
  omega
theorem ny_isZero {n : Nat} (hn : n < 2 ^ 64) : mf_Y_isZero (lN n) = if nx_ex n = 0 then 1 else 0 := by
  unfold mf_Y_isZero
  simp only [ny_and7F80 hn]
theorem ny_isBelow {n : Nat} (hn : n < 2 ^ 64) : mf_Y_isBelow (lN n) = if nx_sg n = 0 then 0 else 1 := by
  unfold mf_Y_isBelow
  simp only [nx_bit15 hn]
/-- take: sign, exponent, significand -/
theorem ny_take (g : Nat → Int64) (ak il mi xe : Int32) (bi : Int64) (fa cu p1 : Int32) {n : Nat} (hn : n < 2 ^ 64) (h8 : p1 = 8 ∨ n < 2 ^ 32) :
    mf_Y_take g ak il mi xe bi fa cu p1 (lN n) = (g, ak, il, (if nx_sg n = 0 then 0 else 1), nI (nx_ex n), lN (if nx_ex n = 0 then 0 else 2 ^ 55 + nx_fr n), fa, cu) := by
  unfold mf_Y_take xj_bnd
  dsimp only
  have hx := nx_ex_lt n
  have hfr := nx_fr_lt hn
  have h7 : Int64.toInt32 (xj_shr (lN n) (7 : Int32) &&& (255 : Int64)) = nI (nx_ex n) := by
    rw [show (7 : Int32) = nI 7 from rfl, show (255 : Int64) = lN (2 ^ 8 - 1) from rfl, nb_shrm hn (by decide) (by decide) (by decide)]
    exact lN_i _
  have h1 : lN n &&& (127 : Int64) = lN (n % 2 ^ 7) := nb_mask (k := 7) hn (by decide)
  have h2 : xj_shr (lN n) (16 : Int32) &&& (65535 : Int64) = lN (n / 2 ^ 16 % 2 ^ 16) := by
    rw [show (16 : Int32) = nI 16 from rfl]; exact nb_shrm (w := 16) hn (by decide) (by decide) (by decide)
  have h3 : xj_shr (lN n) (32 : Int32) &&& (65535 : Int64) = lN (n / 2 ^ 32 % 2 ^ 16) := by
    rw [show (32 : Int32) = nI 32 from rfl]; exact nb_shrm (w := 16) hn (by decide) (by decide) (by decide)
  have h4 : xj_shr (lN n) (48 : Int32) &&& (65535 : Int64) = lN (n / 2 ^ 48) := by
    rw [show (48 : Int32) = nI 48 from rfl]
    have := nb_shrm (n := n) (k := 48) (w := 16) hn (by decide) (by decide) (by decide)
    rw [Nat.mod_eq_of_lt (by omega)] at this
    exact this
  rw [h7, ny_isBelow hn, h1, h2, h3, h4]
  have hz : (nI (nx_ex n) = 0) ↔ nx_ex n = 0 := by rw [show (0 : Int32) = nI 0 from rfl, nI_eq (by omega) (by decide)]
  have e2 : xj_shl (lN (n % 2 ^ 7)) (48 : Int32) ||| xj_shl (lN (n / 2 ^ 16 % 2 ^ 16)) (32 : Int32) = lN (n % 2 ^ 7 * 2 ^ 48 + n / 2 ^ 16 % 2 ^ 16 * 2 ^ 32) := by
    rw [show (48 : Int32) = nI 48 from rfl, show (32 : Int32) = nI 32 from rfl, nb_shl _ (by decide), nb_shl _ (by decide), nb_oadd (by omega) (by omega)]
  have e5 : (if p1 = (8 : Int32) then ((lN (n % 2 ^ 7 * 2 ^ 48 + n / 2 ^ 16 % 2 ^ 16 * 2 ^ 32) ||| xj_shl (lN (n / 2 ^ 32 % 2 ^ 16)) (16 : Int32)) ||| lN (n / 2 ^ 48)) else lN (n % 2 ^ 7 * 2 ^ 48 + n / 2 ^ 16 % 2 ^ 16 * 2 ^ 32)) = lN (nx_fr n) := by
    by_cases c : p1 = 8
    · rw [if_pos c, ← e2, show (48 : Int32) = nI 48 from rfl, show (32 : Int32) = nI 32 from rfl, show (16 : Int32) = nI 16 from rfl, nb_shl _ (by decide), nb_shl _ (by decide), nb_shl _ (by decide)]
      exact nx_or4 (by omega) (by omega) (by omega) (by omega)
    · rw [if_neg c]
      have : n < 2 ^ 32 := by rcases h8 with h | h; exact absurd h c; exact h
      have e9 : n % 2 ^ 7 * 2 ^ 48 + n / 2 ^ 16 % 2 ^ 16 * 2 ^ 32 = nx_fr n := by unfold nx_fr; omega
      rw [e9]
  rw [e2, e5]
  have e6 : (if nI (nx_ex n) = 0 then (0 : Int64) else (36028797018963968 : Int64) ||| lN (nx_fr n)) = lN (if nx_ex n = 0 then 0 else 2 ^ 55 + nx_fr n) := by
    by_cases c : nx_ex n = 0
    · rw [if_pos (hz.mpr c), if_pos c]; rfl
    · rw [if_neg (fun h => c (hz.mp h)), if_neg c]
      have := nb_oadd (b := 1) (a := nx_fr n) (k := 55) hfr (by omega)
      rw [Nat.one_mul] at this
      exact this
  rw [e6]
