/-! the reference: rounds -/
theorem ny_len {X b : Nat} (hX1 : 2 ^ (b - 1) ≤ X) (hX2 : X < 2 ^ b) (hb1 : 1 ≤ b) (hb2 : b ≤ 63) : ∀ (t n k : Nat), k + t = b → t < n → ml_Y_rounds_27 (lN X) n (nI k) = nI b := by
  have h63 : (2 : Nat) ^ b ≤ 2 ^ 63 := Nat.pow_le_pow_right (by decide) hb2
  intro t
  induction t with
  | zero =>
    intro n k hk hn
    obtain ⟨n, rfl⟩ : ∃ n', n = n' + 1 := ⟨n - 1, by omega⟩
    rw [ml_Y_rounds_27_s]
    by_cases h : 63 ≤ k
    · rw [if_pos (by rw [show (63 : Int32) = nI 63 from rfl, nI_leI (by decide) (by omega)]; exact h), show k = b by omega]
    · rw [if_neg (by rw [show (63 : Int32) = nI 63 from rfl, nI_leI (by decide) (by omega)]; exact h), nb_shr (by omega) (by omega), show k = b by omega, Nat.div_eq_of_lt hX2, if_pos (show lN 0 = (0 : Int64) from rfl)]
  | succ t ih =>
    intro n k hk hn
    obtain ⟨n, rfl⟩ : ∃ n', n = n' + 1 := ⟨n - 1, by omega⟩
    rw [ml_Y_rounds_27_s, if_neg (by rw [show (63 : Int32) = nI 63 from rfl, nI_leI (by decide) (by omega)]; omega), nb_shr (by omega) (by omega)]
    have hkb : 2 ^ k ≤ 2 ^ (b - 1) := Nat.pow_le_pow_right (by decide) (by omega)
    have hq : 0 < X / 2 ^ k := Nat.div_pos (by omega) (Nat.two_pow_pos k)
    have hq2 : X / 2 ^ k ≤ X := Nat.div_le_self _ _
    rw [if_neg (by rw [show (0 : Int64) = lN 0 from rfl, nb_eq (by omega) (by decide)]; omega)]
    unfold xj_bnd
    dsimp only
    rw [show (1 : Int32) = nI 1 from rfl, nI_add]
    exact ih n (k + 1) (by omega) (by omega)
theorem ny_shr_ush {n : Nat} (hn : n < 2 ^ 63) {k : Nat} (hk : k < 64) : xj_shr (lN n) (nI k) = xj_ush (lN n) (nI k) := by
  rw [nb_shr hn hk, nb_ush (by omega) hk]
/-- what rounds packs is what bitsOf packs -/
theorem ny_pack (size below y15 : Int32) {E fr : Nat} (hE : E < 256) (he : y15 = nI E) (hf : fr < 2 ^ 55) (h4 : size = 8 ∨ fr % 2 ^ 32 = 0) :
    (if size = (8 : Int32) then (((((((if below = 0 then (0 : Int64) else (32768 : Int64)) ||| (xj_shl (Int32.toInt64 y15) (7 : Int32))) ||| (xj_shr (lN fr) (48 : Int32))) ||| (xj_shl ((xj_shr (lN fr) (32 : Int32)) &&& (65535 : Int64)) (16 : Int32))) ||| (xj_shl ((xj_shr (lN fr) (16 : Int32)) &&& (65535 : Int64)) (32 : Int32))) ||| (xj_shl ((lN fr) &&& (65535 : Int64)) (48 : Int32))))
      else ((((if below = 0 then (0 : Int64) else (32768 : Int64)) ||| (xj_shl (Int32.toInt64 y15) (7 : Int32))) ||| (xj_shr (lN fr) (48 : Int32))) ||| (xj_shl ((xj_shr (lN fr) (32 : Int32)) &&& (65535 : Int64)) (16 : Int32)))) = lN (nx_bits (if below = 0 then 0 else 1) E fr) := by
  rw [← nx_bitsOf (b := below) hE he hf]
  have e1 : Int32.toInt64 (if below = 0 then (0 : Int32) else (32768 : Int32)) = (if below = 0 then (0 : Int64) else (32768 : Int64)) := by split <;> rfl
  unfold mf_X0_bitsOf xj_bnd
  dsimp only
  rw [e1, show (48 : Int32) = nI 48 from rfl, show (32 : Int32) = nI 32 from rfl, show (16 : Int32) = nI 16 from rfl, ny_shr_ush (by omega) (by decide), ny_shr_ush (by omega) (by decide), ny_shr_ush (by omega) (by decide)]
  by_cases c : size = 8
  · rw [if_pos c]
  · rw [if_neg c]
    have h0 : fr % 2 ^ 32 = 0 := by rcases h4 with h | h; exact absurd h c; exact h
    have z1 : xj_ush (lN fr) (nI 16) &&& (65535 : Int64) = lN 0 := by
      rw [nb_ush (by omega) (by decide), show (65535 : Int64) = lN (2 ^ 16 - 1) from rfl, nb_mask (by omega) (by decide)]
      congr 1; omega
    have z2 : lN fr &&& (65535 : Int64) = lN 0 := by
      rw [show (65535 : Int64) = lN (2 ^ 16 - 1) from rfl, nb_mask (by omega) (by decide)]
      congr 1; omega
    rw [z1, z2, nb_shl _ (by decide), nb_shl _ (by decide), Nat.zero_mul, show lN 0 = (0 : Int64) from rfl, Int64.or_zero, Int64.or_zero]
/-- the state behind a rounding -/
def ny_st (g : Nat → Int64) (ak il mi xe : Int32) (bi : Int64) (below : Int32) (E : Int) (fr : Nat) (c : Int32) : Int64 × (Nat → Int64) × Int32 × Int32 × Int32 × Int32 × Int64 × Int32 × Int32 :=
  if 255 < E then (0, (g, ak, il, mi, xe, bi, -2, c)) else if E < 1 then (0, (g, ak, il, mi, xe, bi, (if ak = 0 then 0 else -3), 1))
  else (lN (nx_bits (if below = 0 then 0 else 1) E.toNat fr), (g, ak, il, mi, xe, bi, 0, c))
theorem ny_rnd1 (X b : Nat) (hb : 1 ≤ b) : (X + 2 ^ (b - 1)) / 2 ^ b = X / 2 ^ b + X / 2 ^ (b - 1) % 2 := by
  obtain ⟨k, rfl⟩ : ∃ k, b = k + 1 := ⟨b - 1, by omega⟩
  rw [Nat.add_sub_cancel, Nat.pow_succ, ← Nat.div_div_eq_div_mul, ← Nat.div_div_eq_div_mul, Nat.add_div_right _ (Nat.two_pow_pos k)]
  omega
theorem xj_bnd_eq {α β : Type} (a : α) (f : α → β) : xj_bnd a f = f a := rfl
theorem ny_tail (g : Nat → Int64) (ak il mi xe : Int32) (bi : Int64) (size below y15 y11 : Int32) {s p m' fr : Nat} {E : Int} (hs : (size = 4 ∧ s = 39 ∧ p = 24) ∨ (size = 8 ∧ s = 7 ∧ p = 56)) (hm : m' < 2 ^ p) (hE : y15.toInt = E) (hfr : fr = m' * 2 ^ (56 - p) % 2 ^ 55) :
    (if y15 ≤ (255 : Int32) then (if (1 : Int32) ≤ y15 then (xj_bnd (if size = (8 : Int32) then (lN m') else (xj_shl (lN m') (32 : Int32))) (fun y19 => (xj_bnd (y19 &&& (36028797018963967 : Int64)) (fun y20 => (xj_bnd (if below = 0 then (0 : Int64) else (32768 : Int64)) (fun y22 => (xj_bnd (((y22 ||| (xj_shl (Int32.toInt64 y15) (7 : Int32))) ||| (xj_shr y20 (48 : Int32))) ||| (xj_shl ((xj_shr y20 (32 : Int32)) &&& (65535 : Int64)) (16 : Int32))) (fun y23 => (if size = (8 : Int32) then (((y23 ||| (xj_shl ((xj_shr y20 (16 : Int32)) &&& (65535 : Int64)) (32 : Int32))) ||| (xj_shl (y20 &&& (65535 : Int64)) (48 : Int32))), (g, ak, il, mi, xe, bi, (0 : Int32), y11)) else (y23, (g, ak, il, mi, xe, bi, (0 : Int32), y11))))))))))) else (xj_bnd (if ak = 0 then (0 : Int32) else (-3 : Int32)) (fun y26 => ((0 : Int64), (g, ak, il, mi, xe, bi, y26, (1 : Int32)))))) else ((0 : Int64), (g, ak, il, mi, xe, bi, (-2 : Int32), y11))) = ny_st g ak il mi xe bi below E fr y11 := by
  have c255 : (255 : Int32).toInt = 255 := by decide
  have c1 : (1 : Int32).toInt = 1 := by decide
  unfold ny_st
  by_cases a : E ≤ 255
  · rw [if_pos (by rw [Int32.le_iff_toInt_le, hE, c255]; exact a), if_neg (by omega : ¬ 255 < E)]
    by_cases b : 1 ≤ E
    · rw [if_pos (by rw [Int32.le_iff_toInt_le, hE, c1]; exact b), if_neg (by omega : ¬ E < 1)]
      have h19 : (if size = (8 : Int32) then (lN m') else (xj_shl (lN m') (32 : Int32))) &&& (36028797018963967 : Int64) = lN fr := by
        rw [show (36028797018963967 : Int64) = lN (2 ^ 55 - 1) from rfl]
        rcases hs with ⟨h1, h2, h3⟩ | ⟨h1, h2, h3⟩
        · subst h1 h3
          rw [if_neg (by decide), show (32 : Int32) = nI 32 from rfl, nb_shl _ (by decide), nb_mask (by omega) (by decide), hfr]
        · subst h1 h3
          rw [if_pos rfl, nb_mask (by omega) (by decide), hfr]
          congr 1; omega
      have hf : fr < 2 ^ 55 := by rw [hfr]; exact Nat.mod_lt _ (by decide)
      have h4 : size = 8 ∨ fr % 2 ^ 32 = 0 := by
        rcases hs with ⟨h1, h2, h3⟩ | ⟨h1, h2, h3⟩
        · right; subst h3; omega
        · exact Or.inl h1
      have pk := ny_pack size below y15 (E := E.toNat) (by omega) (nx_ofT (by rw [hE]; omega) (by omega)) hf h4
      rw [xj_bnd_eq, xj_bnd_eq, xj_bnd_eq, xj_bnd_eq, h19]
      rw [← pk]
      split <;> rfl
    · rw [if_neg (by rw [Int32.le_iff_toInt_le, hE, c1]; exact b), if_pos (by omega : E < 1)]
      rfl
  · rw [if_neg (by rw [Int32.le_iff_toInt_le, hE, c255]; exact a), if_pos (by omega : 255 < E)]
theorem ny_rounds (g : Nat → Int64) (ak il mi xe : Int32) (bi : Int64) (fa cu size below power more : Int32) {s p X n m : Nat} {pw : Int} (hs : (size = 4 ∧ s = 39 ∧ p = 24) ∨ (size = 8 ∧ s = 7 ∧ p = 56)) (hX1 : 2 ^ (n - 1) ≤ X) (hX2 : X < 2 ^ n) (hn1 : 1 ≤ n) (hn2 : n ≤ 63)
    (hp : power.toInt = pw) (hp1 : -2000 ≤ pw) (hp2 : pw ≤ 2000) (hm : m = if p < n then (X + 2 ^ (n - p - 1)) / 2 ^ (n - p) else X * 2 ^ (p - n)) :
    mf_Y_rounds g ak il mi xe bi fa cu size below (lN X) power more = ny_st g ak il mi xe bi below (pw + n + 128 + (if m = 2 ^ p then 1 else 0)) (m * 2 ^ (56 - p) % 2 ^ 55) (if p < n then (if more = 0 then (if X % 2 ^ (n - p) = 0 then 0 else 1) else 1) else more) := by
  have hs2 : (s = 39 ∧ p = 24) ∨ (s = 7 ∧ p = 56) := by rcases hs with ⟨_, b⟩ | ⟨_, b⟩ <;> simp [b]
  have hXb : X < 2 ^ 63 := Nat.lt_of_lt_of_le hX2 (Nat.pow_le_pow_right (by decide) hn2)
  have hX0 : 0 < X := Nat.lt_of_lt_of_le (Nat.two_pow_pos _) hX1
  have hy2 : mf_Y_many size = nI p := by
    rcases hs with ⟨h1, h2, h3⟩ | ⟨h1, h2, h3⟩ <;> subst h1 h3 <;> rfl
  unfold mf_Y_rounds
  rw [if_neg (by rw [show (0 : Int64) = lN 0 from rfl, nb_eq (by omega) (by decide)]; omega), hy2, xj_bnd_eq, show (0 : Int32) = nI 0 from rfl, ny_len hX1 hX2 hn1 hn2 n 64 0 (by omega) (by omega), xj_bnd_eq]
  rw [show nI 0 = (0 : Int32) from rfl]
  obtain ⟨y8, hy8⟩ : ∃ z, z = nI n - nI p := ⟨_, rfl⟩
  rw [← hy8, xj_bnd_eq]
  have hpl : p ≤ 56 := by omega
  have hT8 : y8.toInt = (n : Int) - p := by
    rw [hy8]; exact pk_sub_toInt (by omega) (by omega)
  have z0 : (0 : Int32).toInt = 0 := by decide
  have e10 : (if y8 ≤ 0 then (xj_bnd (xj_shl (lN X) (-y8)) (fun y10 => y10)) else (xj_bnd ((xj_shr (lN X) y8) + ((xj_shr (lN X) (y8 - (1 : Int32))) &&& (1 : Int64))) (fun y11 => (xj_bnd (if more = 0 then (if ((lN X) &&& ((xj_shl (1 : Int64) y8) - (1 : Int64))) = (0 : Int64) then (0 : Int32) else (1 : Int32)) else (1 : Int32)) (fun y13 => y11))))) = lN m := by
    by_cases h : p < n
    · have h8 : y8 = nI (n - p) := by rw [hy8, pk_sub (by omega)]
      rw [if_neg (by rw [Int32.le_iff_toInt_le, hT8, z0]; omega), hm, if_pos h, h8, xj_bnd_eq, xj_bnd_eq, show (1 : Int32) = nI 1 from rfl, pk_sub (by omega), nb_shr hXb (by omega), nb_shr hXb (by omega), show (1 : Int64) = lN (2 ^ 1 - 1) from rfl, nb_mask (by have := Nat.div_le_self X (2 ^ (n - p - 1)); omega) (by decide), lN_add, ny_rnd1 X (n - p) (by omega)]
    · have h8 : -y8 = nI (p - n) := nx_neg32 (by rw [hT8]; omega) (by omega)
      rw [if_pos (by rw [Int32.le_iff_toInt_le, hT8, z0]; omega), hm, if_neg h, h8, xj_bnd_eq, nb_shl _ (by omega)]
  have e11 : (if y8 ≤ 0 then (xj_bnd (xj_shl (lN X) (-y8)) (fun y10 => more)) else (xj_bnd ((xj_shr (lN X) y8) + ((xj_shr (lN X) (y8 - (1 : Int32))) &&& (1 : Int64))) (fun y11 => (xj_bnd (if more = 0 then (if ((lN X) &&& ((xj_shl (1 : Int64) y8) - (1 : Int64))) = (0 : Int64) then (0 : Int32) else (1 : Int32)) else (1 : Int32)) (fun y13 => y13))))) = (if p < n then (if more = 0 then (if X % 2 ^ (n - p) = 0 then 0 else 1) else 1) else more) := by
    by_cases h : p < n
    · have h8 : y8 = nI (n - p) := by rw [hy8, pk_sub (by omega)]
      have hmk : xj_shl (1 : Int64) (nI (n - p)) - (1 : Int64) = lN (2 ^ (n - p) - 1) := by
        rw [show (1 : Int64) = lN 1 from rfl, nb_shl _ (by omega), Nat.one_mul, lN_sub (Nat.two_pow_pos _)]
      have hlt : X % 2 ^ (n - p) ≤ X := Nat.mod_le _ _
      rw [if_neg (by rw [Int32.le_iff_toInt_le, hT8, z0]; omega), if_pos h, h8, xj_bnd_eq, xj_bnd_eq, hmk, nb_mask (by omega) (by omega)]
      simp only [show (0 : Int64) = lN 0 from rfl, nb_eq (show X % 2 ^ (n - p) < 2 ^ 64 by omega) (show 0 < 2 ^ 64 by decide)]
    · rw [if_pos (by rw [Int32.le_iff_toInt_le, hT8, z0]; omega), if_neg h, xj_bnd_eq]
  rw [e10, xj_bnd_eq, e11, xj_bnd_eq]
  generalize (if p < n then (if more = 0 then (if X % 2 ^ (n - p) = 0 then (0 : Int32) else 1) else 1) else more) = y11
  have hmle : m ≤ 2 ^ p := by
    rw [hm]
    by_cases h : p < n
    · rw [if_pos h]
      have e : (2 : Nat) ^ n = 2 ^ (n - p) * 2 ^ p := by rw [← Nat.pow_add]; congr 1; omega
      have e' : (2 : Nat) ^ (n - p) = 2 * 2 ^ (n - p - 1) := by rw [← Nat.pow_succ']; congr 1; omega
      apply Nat.le_of_lt_succ
      apply Nat.div_lt_of_lt_mul
      rw [Nat.mul_succ]
      have := Nat.two_pow_pos (n - p - 1)
      omega
    · rw [if_neg h]
      have e : (2 : Nat) ^ p = 2 ^ n * 2 ^ (p - n) := by rw [← Nat.pow_add]; congr 1; omega
      rw [e]; exact Nat.mul_le_mul_right _ (by omega)
  have hp56 : (2 : Nat) ^ p ≤ 2 ^ 56 := Nat.pow_le_pow_right (by decide) hpl
  have hcar : xj_shr (lN m) (nI p) = 0 ↔ m < 2 ^ p := by
    have h1 : m / 2 ^ p ≤ m := Nat.div_le_self _ _
    rw [nb_shr (by omega) (by omega), show (0 : Int64) = lN 0 from rfl, nb_eq (by omega) (by decide)]
    constructor
    · intro h; rcases Nat.lt_or_ge m (2 ^ p) with c | c
      · exact c
      · have := Nat.div_pos c (Nat.two_pow_pos p); omega
    · intro h; exact Nat.div_eq_of_lt h
  by_cases hc : m = 2 ^ p
  · have e13 : (if (xj_shr (lN m) (nI p)) = (0 : Int64) then (lN m) else (xj_bnd (xj_shr (lN m) (1 : Int32)) (fun y13 => (xj_bnd (y8 + (1 : Int32)) (fun y14 => y13))))) = lN (m / 2) := by
      rw [if_neg (fun h => absurd (hcar.mp h) (by omega)), xj_bnd_eq, xj_bnd_eq, show (1 : Int32) = nI 1 from rfl, nb_shr (by omega) (by decide)]
    have e14 : (if (xj_shr (lN m) (nI p)) = (0 : Int64) then y8 else (xj_bnd (xj_shr (lN m) (1 : Int32)) (fun y13 => (xj_bnd (y8 + (1 : Int32)) (fun y14 => y14))))) = y8 + (1 : Int32) := by
      rw [if_neg (fun h => absurd (hcar.mp h) (by omega)), xj_bnd_eq, xj_bnd_eq]
    rw [e13, xj_bnd_eq, e14, xj_bnd_eq, xj_bnd_eq, if_pos hc]
    have hq : (m / 2) * 2 ^ (56 - p) % 2 ^ 55 = m * 2 ^ (56 - p) % 2 ^ 55 := by
      rcases hs2 with ⟨_, rfl⟩ | ⟨_, rfl⟩ <;> subst hc <;> decide
    refine ny_tail g ak il mi xe bi size below _ _ hs (by have := Nat.two_pow_pos p; omega) ?_ hq.symm
    rw [Int32.toInt_add, Int32.toInt_add, Int32.toInt_add, Int32.toInt_add, hT8, hp, show (1 : Int32).toInt = 1 by decide, show (128 : Int32).toInt = 128 by decide, nI_toInt (by omega)]
    simp only [Int.bmod_def]
    omega
  · have hlt : m < 2 ^ p := by omega
    have e13 : (if (xj_shr (lN m) (nI p)) = (0 : Int64) then (lN m) else (xj_bnd (xj_shr (lN m) (1 : Int32)) (fun y13 => (xj_bnd (y8 + (1 : Int32)) (fun y14 => y13))))) = lN m := by rw [if_pos (hcar.mpr hlt)]
    have e14 : (if (xj_shr (lN m) (nI p)) = (0 : Int64) then y8 else (xj_bnd (xj_shr (lN m) (1 : Int32)) (fun y13 => (xj_bnd (y8 + (1 : Int32)) (fun y14 => y14))))) = y8 := by rw [if_pos (hcar.mpr hlt)]
    rw [e13, xj_bnd_eq, e14, xj_bnd_eq, xj_bnd_eq, if_neg hc]
    refine ny_tail g ak il mi xe bi size below _ _ hs hlt ?_ rfl
    rw [Int32.toInt_add, Int32.toInt_add, Int32.toInt_add, hT8, hp, show (128 : Int32).toInt = 128 by decide, nI_toInt (by omega)]
    simp only [Int.bmod_def]
    omega

