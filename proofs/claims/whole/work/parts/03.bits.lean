/-! numbers: Int64 as lN n, Int32 as nI n; shifts, masks, 'or' as arithmetic -/
theorem nb_tb (n : Nat) : (lN n).toBitVec = BitVec.ofNat 64 n := rfl
theorem nb_inj {a b : Int64} (h : a.toBitVec = b.toBitVec) : a = b := Int64.toBitVec_inj.mp h
theorem nb_tn {n : Nat} (h : n < 2 ^ 64) : (lN n).toBitVec.toNat = n := by rw [nb_tb, BitVec.toNat_ofNat, Nat.mod_eq_of_lt h]
theorem nb_of (x : Int64) : ∃ n, n < 2 ^ 64 ∧ x = lN n := ⟨x.toBitVec.toNat, x.toBitVec.isLt, nb_inj (by rw [nb_tb]; simp)⟩
theorem nb_of32 (x : Int32) : ∃ n, n < 2 ^ 32 ∧ x = nI n := ⟨x.toBitVec.toNat, x.toBitVec.isLt, Int32.toBitVec_inj.mp (by show _ = BitVec.ofNat 32 _; simp)⟩
theorem nb_eq {a b : Nat} (ha : a < 2 ^ 64) (hb : b < 2 ^ 64) : lN a = lN b ↔ a = b := by
  constructor
  · intro h
    have := congrArg (fun z => z.toBitVec.toNat) h
    simp only [nb_tn ha, nb_tn hb] at this
    exact this
  · rintro rfl; rfl
theorem nb_c : ∀ k, k < 64 → ((nI k).toInt64 &&& 63) = lN k := by decide +kernel
theorem nb_cu : ∀ k, k < 64 → ((nI k).toInt64.toUInt64 &&& Int64.toUInt64 63) = UInt64.ofNat k := by decide +kernel
theorem nb_sm : ∀ k, k < 64 → (BitVec.ofNat 64 k).smod 64 = BitVec.ofNat 64 k := by decide +kernel
theorem nb_mod (n : Nat) : lN n = lN (n % 2 ^ 64) := nb_inj (by rw [nb_tb, nb_tb]; apply BitVec.eq_of_toNat_eq; rw [BitVec.toNat_ofNat, BitVec.toNat_ofNat, Nat.mod_mod])
theorem nb_ush {n k : Nat} (hn : n < 2 ^ 64) (hk : k < 64) : xj_ush (lN n) (nI k) = lN (n / 2 ^ k) := by
  unfold xj_ush
  rw [nb_cu k hk]
  apply nb_inj
  apply BitVec.eq_of_toNat_eq
  show ((lN n).toUInt64 >>> UInt64.ofNat k).toNat = (BitVec.ofNat 64 _).toNat
  have h1 : (UInt64.ofNat k).toNat = k := by
    show (BitVec.ofNat 64 k).toNat = k
    rw [BitVec.toNat_ofNat, Nat.mod_eq_of_lt (by omega)]
  have h2 : (lN n).toUInt64.toNat = n := nb_tn hn
  rw [UInt64.toNat_shiftRight, h1, h2, Nat.mod_eq_of_lt hk, Nat.shiftRight_eq_div_pow, BitVec.toNat_ofNat, Nat.mod_eq_of_lt (Nat.lt_of_le_of_lt (Nat.div_le_self _ _) hn)]
theorem nb_shl (n : Nat) {k : Nat} (hk : k < 64) : xj_shl (lN n) (nI k) = lN (n * 2 ^ k) := by
  unfold xj_shl
  rw [nb_c k hk]
  apply nb_inj
  rw [Int64.toBitVec_shiftLeft, nb_tb, nb_tb, nb_tb, nb_sm k hk]
  apply BitVec.eq_of_toNat_eq
  rw [BitVec.shiftLeft_eq', BitVec.toNat_shiftLeft, BitVec.toNat_ofNat, BitVec.toNat_ofNat, BitVec.toNat_ofNat, Nat.mod_eq_of_lt (show k < 2 ^ 64 by omega), Nat.shiftLeft_eq, Nat.mul_mod, Nat.mod_mod, ← Nat.mul_mod]
theorem nb_and {a b : Nat} (ha : a < 2 ^ 64) (hb : b < 2 ^ 64) : lN a &&& lN b = lN (a &&& b) := by
  apply nb_inj
  rw [Int64.toBitVec_and, nb_tb, nb_tb, nb_tb]
  apply BitVec.eq_of_toNat_eq
  rw [BitVec.toNat_and, BitVec.toNat_ofNat, BitVec.toNat_ofNat, BitVec.toNat_ofNat, Nat.mod_eq_of_lt ha, Nat.mod_eq_of_lt hb, Nat.mod_eq_of_lt (Nat.and_lt_two_pow _ hb)]
theorem nb_or {a b : Nat} (ha : a < 2 ^ 64) (hb : b < 2 ^ 64) : lN a ||| lN b = lN (a ||| b) := by
  apply nb_inj
  rw [Int64.toBitVec_or, nb_tb, nb_tb, nb_tb]
  apply BitVec.eq_of_toNat_eq
  rw [BitVec.toNat_or, BitVec.toNat_ofNat, BitVec.toNat_ofNat, BitVec.toNat_ofNat, Nat.mod_eq_of_lt ha, Nat.mod_eq_of_lt hb, Nat.mod_eq_of_lt (Nat.or_lt_two_pow ha hb)]
theorem nb_lt2 {a b : Nat} (h : a < b) : 2 ^ a < 2 ^ b := Nat.pow_lt_pow_right (by decide) h
theorem nb_mask {n k : Nat} (hn : n < 2 ^ 64) (hk : k < 64) : lN n &&& lN (2 ^ k - 1) = lN (n % 2 ^ k) := by
  rw [nb_and hn (by have := nb_lt2 hk; omega), Nat.and_two_pow_sub_one_eq_mod]
theorem nb_oadd {b a k : Nat} (ha : a < 2 ^ k) (h : b * 2 ^ k + a < 2 ^ 64) : lN (b * 2 ^ k) ||| lN a = lN (b * 2 ^ k + a) := by
  rw [nb_or (by omega) (by omega)]
  rw [← Nat.shiftLeft_eq, Nat.shiftLeft_add_eq_or_of_lt ha]
theorem nb_odd {a : Nat} (h : a < 2 ^ 64) : lN a ||| 1 = lN (a / 2 * 2 + 1) := by
  have e : lN a ||| lN 1 = lN (a ||| 1) := nb_or h (by decide)
  have e2 : a ||| 1 = a / 2 * 2 + 1 := by
    have h1 : ∀ r, r < 2 → a / 2 * 2 + r = (a / 2 * 2) ||| r := fun r hr => by
      have := Nat.shiftLeft_add_eq_or_of_lt (i := 1) (show r < 2 ^ 1 from hr) (a / 2)
      rw [Nat.shiftLeft_eq, Nat.pow_one] at this
      exact this
    have h2 : a = (a / 2 * 2) ||| (a % 2) := by rw [← h1 _ (Nat.mod_lt _ (by decide))]; omega
    have h3 : (a % 2) ||| 1 = 1 := by rcases Nat.mod_two_eq_zero_or_one a with c | c <;> rw [c] <;> rfl
    calc a ||| 1 = ((a / 2 * 2) ||| (a % 2)) ||| 1 := by rw [← h2]
      _ = (a / 2 * 2) ||| ((a % 2) ||| 1) := Nat.or_assoc ..
      _ = (a / 2 * 2) ||| 1 := by rw [h3]
      _ = a / 2 * 2 + 1 := (h1 1 (by decide)).symm
  rw [← e2]; exact e
theorem nb_add (a b : Nat) : lN a + lN b = lN (a + b) := lN_add a b
theorem nb_lt {a b : Nat} (ha : a < 2 ^ 63) (hb : b < 2 ^ 63) : lN a < lN b ↔ a < b := pk_lLT ha hb
theorem nb_le {a b : Nat} (ha : a < 2 ^ 63) (hb : b < 2 ^ 63) : lN a ≤ lN b ↔ a ≤ b := pk_lLE ha hb
