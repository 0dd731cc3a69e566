/-! the class's pure functions, as arithmetic over natural numbers -/
/-- the 55 fraction bits of a float's 64 bits -/
def nx_fr (n : Nat) : Nat := n % 2 ^ 7 * 2 ^ 48 + n / 2 ^ 16 % 2 ^ 16 * 2 ^ 32 + n / 2 ^ 32 % 2 ^ 16 * 2 ^ 16 + n / 2 ^ 48
/-- its exponent -/
def nx_ex (n : Nat) : Nat := n / 2 ^ 7 % 2 ^ 8
/-- its sign -/
def nx_sg (n : Nat) : Nat := n / 2 ^ 15 % 2
/-- the bits of a float out of its sign, exponent and fraction -/
def nx_bits (sg ex fr : Nat) : Nat := sg * 2 ^ 15 + ex * 2 ^ 7 + fr / 2 ^ 48 + fr / 2 ^ 32 % 2 ^ 16 * 2 ^ 16 + fr / 2 ^ 16 % 2 ^ 16 * 2 ^ 32 + fr % 2 ^ 16 * 2 ^ 48
theorem nx_fr_lt {n : Nat} (h : n < 2 ^ 64) : nx_fr n < 2 ^ 55 := by unfold nx_fr; omega
theorem nx_ex_lt (n : Nat) : nx_ex n < 256 := by unfold nx_ex; omega
theorem nb_field (n k w : Nat) : n &&& (2 ^ w - 1) * 2 ^ k = (n / 2 ^ k % 2 ^ w) * 2 ^ k := by
  apply Nat.eq_of_testBit_eq
  intro i
  rw [Nat.testBit_and, ← Nat.shiftLeft_eq, ← Nat.shiftLeft_eq, Nat.testBit_shiftLeft, Nat.testBit_shiftLeft, Nat.testBit_two_pow_sub_one, Nat.testBit_mod_two_pow, Nat.testBit_div_two_pow]
  by_cases c : k ≤ i
  · simp [c, show i - k + k = i by omega, Bool.and_comm]
  · simp [c]
theorem nx_bit15 {n : Nat} (hn : n < 2 ^ 64) : (lN n &&& (32768 : Int64)) = 0 ↔ nx_sg n = 0 := by
  rw [show (32768 : Int64) = lN ((2 ^ 1 - 1) * 2 ^ 15) from rfl, nb_and hn (by decide), show (0 : Int64) = lN 0 from rfl, nb_eq (Nat.and_lt_two_pow _ (by decide)) (by decide), nb_field]
  unfold nx_sg
  omega
theorem nb_oadd' {b a k : Nat} (ha : a < 2 ^ k) (h : b * 2 ^ k + a < 2 ^ 64) : lN a ||| lN (b * 2 ^ k) = lN (b * 2 ^ k + a) := by
  rw [Int64.or_comm]; exact nb_oadd ha h
theorem nx_or4 {a b c d : Nat} (ha : a < 2 ^ 7) (hb : b < 2 ^ 16) (hc : c < 2 ^ 16) (hd : d < 2 ^ 16) :
    ((lN (a * 2 ^ 48) ||| lN (b * 2 ^ 32)) ||| lN (c * 2 ^ 16)) ||| lN d = lN (a * 2 ^ 48 + b * 2 ^ 32 + c * 2 ^ 16 + d) := by
  rw [nb_oadd (show b * 2 ^ 32 < 2 ^ 48 by omega) (by omega)]
  rw [show a * 2 ^ 48 + b * 2 ^ 32 = (a * 2 ^ 16 + b) * 2 ^ 32 by omega]
  rw [nb_oadd (show c * 2 ^ 16 < 2 ^ 32 by omega) (by omega)]
  rw [show (a * 2 ^ 16 + b) * 2 ^ 32 + c * 2 ^ 16 = (a * 2 ^ 32 + b * 2 ^ 16 + c) * 2 ^ 16 by omega]
  rw [nb_oadd (show d < 2 ^ 16 by omega) (by omega)]
/-- a number with its sign -/
def nx_v (s : Bool) (m : Nat) : Int64 := if s then -lN m else lN m
theorem nx_valueIn (f : Nat → Int64) (u o p1 p2 : Int32) {n : Nat} (hn : n < 2 ^ 64) (hf : (if p1 = 4 then f p2.toNatClampNeg &&& 4294967295 else f p2.toNatClampNeg) = lN n) :
    mf_X0_valueIn f u o p1 p2 = if nx_ex n = 0 then 0 else nx_v (decide (nx_sg n ≠ 0)) (nx_ex n * 2 ^ 55 + nx_fr n) := by
  unfold mf_X0_valueIn xj_bnd
  dsimp only
  rw [hf]
  have h7 : xj_ush (lN n) (7 : Int32) &&& (255 : Int64) = lN (nx_ex n) := by
    rw [show (7 : Int32) = nI 7 from rfl, nb_ush hn (by decide)]
    exact nb_mask (k := 8) (by omega) (by decide)
  have h1 : lN n &&& (127 : Int64) = lN (n % 2 ^ 7) := nb_mask (k := 7) hn (by decide)
  have h2 : xj_ush (lN n) (16 : Int32) &&& (65535 : Int64) = lN (n / 2 ^ 16 % 2 ^ 16) := by
    rw [show (16 : Int32) = nI 16 from rfl, nb_ush hn (by decide)]
    exact nb_mask (k := 16) (by omega) (by decide)
  have h3 : xj_ush (lN n) (32 : Int32) &&& (65535 : Int64) = lN (n / 2 ^ 32 % 2 ^ 16) := by
    rw [show (32 : Int32) = nI 32 from rfl, nb_ush hn (by decide)]
    exact nb_mask (k := 16) (by omega) (by decide)
  have h4 : xj_ush (lN n) (48 : Int32) = lN (n / 2 ^ 48) := by
    rw [show (48 : Int32) = nI 48 from rfl, nb_ush hn (by decide)]
  have hx := nx_ex_lt n
  rw [h7, h1, h2, h3, h4]
  by_cases hz : nx_ex n = 0
  · rw [if_pos hz, if_pos (by rw [hz]; rfl)]
  · rw [if_neg hz, if_neg (by rw [show (0 : Int64) = lN 0 from rfl, nb_eq (by omega) (by decide)]; exact hz)]
    have hfr := nx_fr_lt hn
    have e5 : ((xj_shl (lN (n % 2 ^ 7)) (48 : Int32) ||| xj_shl (lN (n / 2 ^ 16 % 2 ^ 16)) (32 : Int32)) ||| xj_shl (lN (n / 2 ^ 32 % 2 ^ 16)) (16 : Int32)) ||| lN (n / 2 ^ 48) = lN (nx_fr n) := by
      rw [show (48 : Int32) = nI 48 from rfl, show (32 : Int32) = nI 32 from rfl, show (16 : Int32) = nI 16 from rfl, nb_shl _ (by decide), nb_shl _ (by decide), nb_shl _ (by decide)]
      exact nx_or4 (by omega) (by omega) (by omega) (by omega)
    have e6 : xj_shl (lN (nx_ex n)) (55 : Int32) ||| lN (nx_fr n) = lN (nx_ex n * 2 ^ 55 + nx_fr n) := by
      rw [show (55 : Int32) = nI 55 from rfl, nb_shl _ (by decide)]
      exact nb_oadd hfr (by omega)
    rw [e5, e6]
    unfold nx_v
    by_cases hs : nx_sg n = 0
    · rw [if_pos ((nx_bit15 hn).mpr hs)]; simp [hs]
    · rw [if_neg (fun h => hs ((nx_bit15 hn).mp h))]; simp [hs]
theorem nx_negT {m : Nat} (h : m < 2 ^ 63) : (-lN m).toInt = -(m : Int) := by
  rw [Int64.toInt_neg, pk_lT h]
  apply Int.bmod_eq_of_le <;> omega
theorem nx_abs {s : Bool} {m : Nat} (h : m < 2 ^ 63) : xj_abs (nx_v s m) = lN m := by
  unfold xj_abs nx_v
  have z : (0 : Int64).toInt = 0 := by decide
  cases s with
  | false =>
    simp only [Bool.false_eq_true, if_false]
    by_cases hm : m = 0
    · subst hm; decide
    · rw [if_pos (by rw [Int64.lt_iff_toInt_lt, pk_lT h, z]; omega)]
  | true =>
    simp only [if_true]
    rw [if_neg (by rw [Int64.lt_iff_toInt_lt, nx_negT h, z]; omega)]
    exact Int64.neg_neg
theorem nx_v0 {s : Bool} {m : Nat} (h : m < 2 ^ 63) : nx_v s m = 0 ↔ m = 0 := by
  have z : (0 : Int64).toInt = 0 := by decide
  unfold nx_v
  cases s with
  | false => simp only [Bool.false_eq_true, if_false]; rw [show (0 : Int64) = lN 0 from rfl, nb_eq (by omega) (by decide)]
  | true =>
    simp only [if_true]
    rw [← Int64.toInt_inj, nx_negT h, z]; omega
theorem nx_vge {s : Bool} {m : Nat} (h : m < 2 ^ 63) : (0 : Int64) ≤ nx_v s m ↔ s = false ∨ m = 0 := by
  have z : (0 : Int64).toInt = 0 := by decide
  unfold nx_v
  cases s with
  | false => simp only [Bool.false_eq_true, if_false]; rw [Int64.le_iff_toInt_le, pk_lT h, z]; simp
  | true => simp only [if_true]; rw [Int64.le_iff_toInt_le, nx_negT h, z]; simp
theorem nx_vneg (s : Bool) (m : Nat) : -nx_v s m = nx_v (!s) m := by
  unfold nx_v
  cases s <;> simp
theorem nx_exponentOf {s : Bool} {m : Nat} (h : m < 2 ^ 63) : mf_X0_exponentOf (nx_v s m) = nI (m / 2 ^ 55) := by
  unfold mf_X0_exponentOf xj_bnd
  dsimp only
  rw [nx_abs h, show (55 : Int32) = nI 55 from rfl, nb_ush (by omega) (by decide)]
  exact lN_i _
theorem nx_significandOf {s : Bool} {m : Nat} (h : m < 2 ^ 63) : mf_X0_significandOf (nx_v s m) = lN (2 ^ 55 + m % 2 ^ 55) := by
  unfold mf_X0_significandOf xj_bnd
  dsimp only
  rw [nx_abs h, show (36028797018963967 : Int64) = lN (2 ^ 55 - 1) from rfl, nb_mask (by omega) (by decide), Int64.or_comm]
  have := nb_oadd (b := 1) (a := m % 2 ^ 55) (k := 55) (by omega) (by omega)
  rw [Nat.one_mul] at this
  exact this
theorem nx_bitsOf {b e : Int32} {E fr : Nat} (hE : E < 256) (he : e = nI E) (hf : fr < 2 ^ 55) : mf_X0_bitsOf b e (lN fr) = lN (nx_bits (if b = 0 then 0 else 1) E fr) := by
  unfold mf_X0_bitsOf xj_bnd nx_bits
  dsimp only
  have h1 : Int32.toInt64 (if b = 0 then (0 : Int32) else (32768 : Int32)) = lN ((if b = 0 then 0 else 1) * 2 ^ 15) := by
    by_cases hb : b = 0
    · simp only [hb, if_true]; rfl
    · simp only [hb, if_false]; rfl
  have h2 : xj_shl (Int32.toInt64 e) (7 : Int32) = lN (E * 2 ^ 7) := by
    rw [he, nI_l (by omega), show (7 : Int32) = nI 7 from rfl, nb_shl _ (by decide)]
  have h3 : xj_ush (lN fr) (48 : Int32) = lN (fr / 2 ^ 48) := by
    rw [show (48 : Int32) = nI 48 from rfl, nb_ush (by omega) (by decide)]
  have h4 : xj_shl (xj_ush (lN fr) (32 : Int32) &&& (65535 : Int64)) (16 : Int32) = lN (fr / 2 ^ 32 % 2 ^ 16 * 2 ^ 16) := by
    rw [show (32 : Int32) = nI 32 from rfl, nb_ush (by omega) (by decide), show (65535 : Int64) = lN (2 ^ 16 - 1) from rfl, nb_mask (by omega) (by decide), show (16 : Int32) = nI 16 from rfl, nb_shl _ (by decide)]
  have h5 : xj_shl (xj_ush (lN fr) (16 : Int32) &&& (65535 : Int64)) (32 : Int32) = lN (fr / 2 ^ 16 % 2 ^ 16 * 2 ^ 32) := by
    rw [show (16 : Int32) = nI 16 from rfl, nb_ush (by omega) (by decide), show (65535 : Int64) = lN (2 ^ 16 - 1) from rfl, nb_mask (by omega) (by decide), show (32 : Int32) = nI 32 from rfl, nb_shl _ (by decide)]
  have h6 : xj_shl (lN fr &&& (65535 : Int64)) (48 : Int32) = lN (fr % 2 ^ 16 * 2 ^ 48) := by
    rw [show (65535 : Int64) = lN (2 ^ 16 - 1) from rfl, nb_mask (by omega) (by decide), show (48 : Int32) = nI 48 from rfl, nb_shl _ (by decide)]
  rw [h1, h2, h3, h4, h5, h6]
  have hs : (if b = 0 then 0 else 1) < 2 := by split <;> omega
  generalize (if b = 0 then 0 else 1) = sg at hs ⊢
  rw [nb_oadd (show E * 2 ^ 7 < 2 ^ 15 by omega) (by omega)]
  rw [show sg * 2 ^ 15 + E * 2 ^ 7 = (sg * 2 ^ 8 + E) * 2 ^ 7 by omega]
  rw [nb_oadd (show fr / 2 ^ 48 < 2 ^ 7 by omega) (by omega)]
  rw [nb_oadd' (b := fr / 2 ^ 32 % 2 ^ 16) (show (sg * 2 ^ 8 + E) * 2 ^ 7 + fr / 2 ^ 48 < 2 ^ 16 by omega) (by omega)]
  rw [nb_oadd' (b := fr / 2 ^ 16 % 2 ^ 16) (show fr / 2 ^ 32 % 2 ^ 16 * 2 ^ 16 + ((sg * 2 ^ 8 + E) * 2 ^ 7 + fr / 2 ^ 48) < 2 ^ 32 by omega) (by omega)]
  rw [nb_oadd' (b := fr % 2 ^ 16) (show fr / 2 ^ 16 % 2 ^ 16 * 2 ^ 32 + (fr / 2 ^ 32 % 2 ^ 16 * 2 ^ 16 + ((sg * 2 ^ 8 + E) * 2 ^ 7 + fr / 2 ^ 48)) < 2 ^ 48 by omega) (by omega)]
  congr 1
  omega
/-! the class: the wide numbers of sums, products, quotients -/
theorem nx_or1 {a : Nat} (h : a < 2 ^ 64) : lN a ||| (1 : Int64) = lN (a / 2 * 2 + 1) := nb_odd h
theorem nx_shiftedDown {w k : Nat} (hw : w < 2 ^ 62) (h0 : 0 < w) (hk : k < 2 ^ 31) : mf_X0_shiftedDown (lN w) (nI k) = lN (nq_stk w (2 ^ k)) := by
  unfold mf_X0_shiftedDown xj_bnd
  dsimp only
  rw [show (63 : Int32) = nI 63 from rfl]
  by_cases h : k < 63
  · rw [if_pos ((nI_ltI (b := 63) hk (by decide)).mpr h)]
    rw [nb_ush (by omega) (by omega), nb_shl _ (by omega)]
    have hdm := Nat.div_add_mod w (2 ^ k)
    have hle : w / 2 ^ k * 2 ^ k ≤ w := Nat.div_mul_le_self _ _
    rw [nq_stk_eq]
    have hq : w / 2 ^ k ≤ w := Nat.div_le_self _ _
    by_cases hr : w % 2 ^ k = 0
    · rw [if_pos hr, if_pos ((nb_eq (by omega) (by omega)).mpr (by rw [Nat.mul_comm]; omega))]
    · rw [if_neg hr, if_neg (fun h => hr (by have := (nb_eq (by omega) (by omega)).mp h; rw [Nat.mul_comm] at this; omega))]
      exact nx_or1 (by omega)
  · rw [if_neg (fun c => h ((nI_ltI (b := 63) hk (by decide)).mp c))]
    have hb : 2 ^ 62 < 2 ^ k := Nat.pow_lt_pow_right (by decide) (by omega)
    have hwk : w < 2 ^ k := by omega
    rw [nq_stk_eq, if_neg (by rw [Nat.mod_eq_of_lt hwk]; omega), Nat.div_eq_of_lt hwk]
    rfl
theorem nx_wideProduct {x y : Nat} (hx : x < 2 ^ 56) (hy : y < 2 ^ 56) : mf_X0_wideProduct (lN x) (lN y) = lN (nq_stk (x * y) (2 ^ 49)) := by
  unfold mf_X0_wideProduct xj_bnd
  dsimp only
  have m28 : (268435455 : Int64) = lN (2 ^ 28 - 1) := rfl
  have m56 : (72057594037927935 : Int64) = lN (2 ^ 56 - 1) := rfl
  have m49 : xj_shl (1 : Int64) (49 : Int32) - (1 : Int64) = lN (2 ^ 49 - 1) := by decide +kernel
  have c28 : (28 : Int32) = nI 28 := rfl
  have c56 : (56 : Int32) = nI 56 := rfl
  have c49 : (49 : Int32) = nI 49 := rfl
  have c7 : (7 : Int32) = nI 7 := rfl
  rw [m49, m28, m56, c28, c56, c49, c7]
  rw [nb_ush (by omega) (by decide), nb_mask (by omega) (by decide), nb_ush (by omega) (by decide), nb_mask (by omega) (by decide)]
  obtain ⟨xh, xl, hxl, hxe⟩ : ∃ xh xl, xl < 2 ^ 28 ∧ x = xh * 2 ^ 28 + xl := ⟨x / 2 ^ 28, x % 2 ^ 28, by omega, by omega⟩
  obtain ⟨yh, yl, hyl, hye⟩ : ∃ yh yl, yl < 2 ^ 28 ∧ y = yh * 2 ^ 28 + yl := ⟨y / 2 ^ 28, y % 2 ^ 28, by omega, by omega⟩
  rw [show x / 2 ^ 28 = xh by omega, show x % 2 ^ 28 = xl by omega, show y / 2 ^ 28 = yh by omega, show y % 2 ^ 28 = yl by omega]
  have hxh : xh < 2 ^ 28 := by omega
  have hyh : yh < 2 ^ 28 := by omega
  have hP : x * y = xh * yh * 2 ^ 56 + (xh * yl + xl * yh) * 2 ^ 28 + xl * yl := by
    rw [hxe, hye, Nat.add_mul, Nat.mul_add, Nat.mul_add, Nat.add_mul]
    have a1 : xh * 2 ^ 28 * (yh * 2 ^ 28) = xh * yh * 2 ^ 56 := by
      rw [show (2 : Nat) ^ 56 = 2 ^ 28 * 2 ^ 28 by decide]; ac_rfl
    have a2 : xh * 2 ^ 28 * yl = xh * yl * 2 ^ 28 := by ac_rfl
    have a3 : xl * (yh * 2 ^ 28) = xl * yh * 2 ^ 28 := by ac_rfl
    rw [a1, a2, a3]; omega
  have b1 : xh * yh < 2 ^ 56 := Nat.lt_of_lt_of_le (Nat.mul_lt_mul'' hxh hyh) (by decide)
  have b2 : xh * yl < 2 ^ 56 := Nat.lt_of_lt_of_le (Nat.mul_lt_mul'' hxh hyl) (by decide)
  have b3 : xl * yh < 2 ^ 56 := Nat.lt_of_lt_of_le (Nat.mul_lt_mul'' hxl hyh) (by decide)
  have b4 : xl * yl < 2 ^ 56 := Nat.lt_of_lt_of_le (Nat.mul_lt_mul'' hxl hyl) (by decide)
  have bP : x * y < 2 ^ 112 := Nat.lt_of_lt_of_le (Nat.mul_lt_mul'' hx hy) (by decide)
  rw [lN_mul, lN_mul, lN_mul, lN_mul]
  generalize x * y = P at *
  generalize xh * yh = a at *
  generalize xh * yl = b at *
  generalize xl * yh = c at *
  generalize xl * yl = d at *
  rw [lN_add, nb_mask (by omega) (by decide), nb_shl _ (by decide), nb_ush (by omega) (by decide), lN_add, nb_ush (by omega) (by decide), nb_mask (by omega) (by decide), lN_add, lN_add, nb_shl _ (by decide), nb_ush (by omega) (by decide), nb_mask (by omega) (by decide)]
  have e1 : a + (b + c) / 2 ^ 28 + (d + (b + c) % 2 ^ 28 * 2 ^ 28) / 2 ^ 56 = P / 2 ^ 56 := by omega
  have e2 : (d + (b + c) % 2 ^ 28 * 2 ^ 28) % 2 ^ 56 = P % 2 ^ 56 := by omega
  rw [e1, e2, nb_oadd (by omega) (by omega), nq_stk_eq]
  have e3 : P / 2 ^ 56 * 2 ^ 7 + P % 2 ^ 56 / 2 ^ 49 = P / 2 ^ 49 := by omega
  have e4 : P % 2 ^ 56 % 2 ^ 49 = P % 2 ^ 49 := by omega
  rw [e3, e4]
  by_cases hz : P % 2 ^ 49 = 0
  · rw [if_pos hz, if_pos (by rw [hz]; rfl)]
  · rw [if_neg hz, if_neg (by rw [show (0 : Int64) = lN 0 from rfl, nb_eq (by omega) (by decide)]; exact hz)]
    exact nx_or1 (by omega)
theorem nx_wq_loop {d : Nat} (hd : d < 2 ^ 56) : ∀ (t w r : Nat), t ≤ 63 → r < 2 * d → w < 2 ^ (63 - t) →
    ∃ w' r', ml_X0_wideQuotient_9 (lN d) (t + 1) (lN w) (lN r) (nI (63 - t)) = (lN w', lN r', nI 63) ∧ w' * (2 * d) + r' = (w * (2 * d) + r) * 2 ^ t ∧ r' < 2 * d := by
  intro t
  induction t with
  | zero =>
    intro w r ht hr hw
    refine ⟨w, r, ?_, by simp, hr⟩
    rw [ml_X0_wideQuotient_9_s, if_pos (by rw [show (63 : Int32) = nI 63 from rfl, nI_leI (by decide) (by decide)]; omega)]
  | succ t ih =>
    intro w r ht hr hw
    have hw2 : 2 ^ (63 - (t + 1)) * 2 = 2 ^ (63 - t) := by rw [← Nat.pow_succ]; congr 1; omega
    have hwb : 2 ^ (63 - t) ≤ 2 ^ 63 := Nat.pow_le_pow_right (by decide) (by omega)
    rw [ml_X0_wideQuotient_9_s, if_neg (by rw [show (63 : Int32) = nI 63 from rfl, nI_leI (by decide) (by omega)]; omega)]
    unfold xj_bnd
    dsimp only
    rw [show (1 : Int32) = nI 1 from rfl, nb_shl _ (by decide), nI_add, show 63 - (t + 1) + 1 = 63 - t by omega]
    by_cases hc : r < d
    · rw [if_pos ((nb_lt (by omega) (by omega)).mpr hc), if_pos ((nb_lt (by omega) (by omega)).mpr hc), nb_shl _ (by decide)]
      obtain ⟨w', r', e1, e2, e3⟩ := ih (w * 2 ^ 1) (r * 2 ^ 1) (by omega) (by omega) (by omega)
      refine ⟨w', r', e1, ?_, e3⟩
      have : w * 2 ^ 1 * (2 * d) + r * 2 ^ 1 = (w * (2 * d) + r) * 2 := by rw [Nat.add_mul]; ac_rfl
      rw [e2, this, Nat.pow_succ]; ac_rfl
    · rw [if_neg (fun h => hc ((nb_lt (by omega) (by omega)).mp h)), if_neg (fun h => hc ((nb_lt (by omega) (by omega)).mp h)), lN_sub (by omega), nb_shl _ (by decide), nx_or1 (by omega), show w * 2 ^ 1 / 2 * 2 + 1 = w * 2 + 1 by omega]
      obtain ⟨w', r', e1, e2, e3⟩ := ih (w * 2 + 1) ((r - d) * 2 ^ 1) (by omega) (by omega) (by omega)
      refine ⟨w', r', e1, ?_, e3⟩
      have : (w * 2 + 1) * (2 * d) + (r - d) * 2 ^ 1 = (w * (2 * d) + r) * 2 := by
        rw [Nat.add_mul, Nat.add_mul, show w * 2 * (2 * d) = w * (2 * d) * 2 by ac_rfl]; omega
      rw [e2, this, Nat.pow_succ]; ac_rfl
theorem nx_wideQuotient {x d : Nat} (hd : d < 2 ^ 56) (hx : x < 2 * d) : mf_X0_wideQuotient (lN x) (lN d) = lN (nq_stk (x * 2 ^ 62) d) := by
  unfold mf_X0_wideQuotient xj_bnd
  dsimp only
  obtain ⟨w', r', e1, e2, e3⟩ := nx_wq_loop hd 63 0 x (by decide) hx (by decide)
  rw [show (ml_X0_wideQuotient_9 (lN d) 64 (0 : Int64) (lN x) (0 : Int32)) = (lN w', lN r', nI 63) from e1]
  dsimp only
  rw [Nat.zero_mul, Nat.zero_add] at e2
  have h2 : x * 2 ^ 63 = 2 * (x * 2 ^ 62) := by rw [show (2 : Nat) ^ 63 = 2 * 2 ^ 62 by decide]; ac_rfl
  have hd0 : 0 < d := by omega
  have hw : w' = x * 2 ^ 62 / d := by
    have : x * 2 ^ 63 / (2 * d) = w' := by
      rw [← e2, Nat.mul_comm w', Nat.mul_add_div (by omega), Nat.div_eq_of_lt e3, Nat.add_zero]
    rw [← this, h2, Nat.mul_div_mul_left _ _ (by decide)]
  have hr : r' = 2 * (x * 2 ^ 62 % d) := by
    have : x * 2 ^ 63 % (2 * d) = r' := by
      rw [← e2, Nat.mul_comm w', Nat.mul_add_mod, Nat.mod_eq_of_lt e3]
    rw [← this, h2, Nat.mul_mod_mul_left]
  have hwb : w' < 2 ^ 63 := by
    rw [hw]; apply Nat.div_lt_of_lt_mul
    have := Nat.mul_lt_mul_of_pos_right hx (show 0 < 2 ^ 62 by decide)
    rw [show d * 2 ^ 63 = 2 * d * 2 ^ 62 by rw [show (2 : Nat) ^ 63 = 2 * 2 ^ 62 by decide]; ac_rfl]
    exact this
  rw [nq_stk_eq, ← hw]
  have hr0 : lN r' = (0 : Int64) ↔ r' = 0 := nb_eq (b := 0) (by omega) (by decide)
  by_cases hz : x * 2 ^ 62 % d = 0
  · rw [if_pos hz, if_pos (hr0.mpr (by omega))]
  · rw [if_neg hz, if_neg (fun h => hz (by have := hr0.mp h; omega))]
    exact nx_or1 (by omega)
