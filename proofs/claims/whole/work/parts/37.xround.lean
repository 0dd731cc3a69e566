/-! the class: storeRounded -/
theorem nx_sr_loop : ∀ (j n k W : Nat) (x : Int32), 2 ^ 62 ≤ W * 2 ^ j → W * 2 ^ j < 2 ^ 63 → k + j ≤ 62 → j < n →
    ml_X0_storeRounded_25 n (lN W) x (nI k) = (lN (W * 2 ^ j), x - nI j, nI (k + j)) := by
  intro j
  induction j with
  | zero =>
    intro n k W x h1 h2 h3 h4
    obtain ⟨n, rfl⟩ : ∃ n', n = n' + 1 := ⟨n - 1, by omega⟩
    rw [Nat.pow_zero, Nat.mul_one] at *
    rw [ml_X0_storeRounded_25_s, if_neg (by rw [show (63 : Int32) = nI 63 from rfl, nI_leI (by decide) (by omega)]; omega), if_pos (by rw [show (4611686018427387904 : Int64) = lN (2 ^ 62) from rfl, nb_le (by decide) (by omega)]; exact h1)]
    simp [nI_0]
  | succ j ih =>
    intro n k W x h1 h2 h3 h4
    obtain ⟨n, rfl⟩ : ∃ n', n = n' + 1 := ⟨n - 1, by omega⟩
    have hp : W * 2 ^ (j + 1) = W * 2 * 2 ^ j := by rw [Nat.pow_succ]; ac_rfl
    have hj : 0 < 2 ^ j := Nat.two_pow_pos j
    have hW : W < 2 ^ 62 := by
      rcases Nat.lt_or_ge W (2 ^ 62) with c | c
      · exact c
      · have := Nat.mul_le_mul c (Nat.le_refl (2 ^ (j + 1)))
        have h9 : 2 ≤ 2 ^ (j + 1) := Nat.pow_le_pow_right (n := 2) (by decide) (show 1 ≤ j + 1 by omega)
        have := Nat.mul_le_mul (Nat.le_refl (2 ^ 62)) h9
        omega
    rw [ml_X0_storeRounded_25_s, if_neg (by rw [show (63 : Int32) = nI 63 from rfl, nI_leI (by decide) (by omega)]; omega), if_neg (by rw [show (4611686018427387904 : Int64) = lN (2 ^ 62) from rfl, nb_le (by decide) (by omega)]; omega)]
    unfold xj_bnd
    dsimp only
    rw [show xj_shl (lN W) (1 : Int32) = lN (W * 2) from nb_shl W (k := 1) (by decide), nI_1, ih n (k + 1) (W * 2) _ (by omega) (by omega) (by omega) (by omega), hp]
    rw [nI_succ j, show k + 1 + j = k + (j + 1) by omega]
    have e9 : ∀ y : Int32, x + (-1 : Int32) - y = x - (y + 1) := by intro y; grind
    rw [e9]
/-- what is stored, or answered instead: of a number with exponent E (behind the rounding) and fraction fr -/
def nx_out (f : Nat → Int64) (u o to below : Int32) (E : Int) (fr : Nat) (x : Int32) : Int32 × (Nat → Int64) × Int32 × Int32 :=
  if 255 < E then (-2, (f, u, o)) else if E < 1 then (if u = 0 then (4, (vp_updL f to.toNatClampNeg 0, u, 1)) else (-3, (f, u, o)))
  else ((if below = 0 then 0 else 8), (vp_updL f to.toNatClampNeg (lN (nx_bits (if below = 0 then 0 else 1) E.toNat fr)), u, x))
theorem nx_sr_zero (f : Nat → Int64) (u o p1 p2 p3 p4 : Int32) : mf_X0_storeRounded f u o p1 p2 p3 p4 0 = (4, (vp_updL f p2.toNatClampNeg 0, u, 0)) := by
  unfold mf_X0_storeRounded xj_bnd
  rw [if_pos rfl]
  rfl
theorem nx_subT {a : Int32} {j : Nat} {e : Int} (he : a.toInt = e) (h1 : -1000 ≤ e) (h2 : e ≤ 1000) (hj : j ≤ 62) : (a - nI j).toInt = e - j := by
  rw [Int32.toInt_sub, he, nI_toInt (by omega)]
  apply Int.bmod_eq_of_le <;> omega
theorem nx_addT {a : Int32} {e : Int} (he : a.toInt = e) (h1 : -2000 ≤ e) (h2 : e ≤ 2000) : (a + (1 : Int32)).toInt = e + 1 := by
  rw [Int32.toInt_add, he, show (1 : Int32).toInt = 1 by decide]
  apply Int.bmod_eq_of_le <;> omega
theorem nx_ofT {a : Int32} {n : Nat} (h : a.toInt = (n : Int)) (hn : n < 2 ^ 31) : a = nI n := by
  rw [← Int32.toInt_inj, h, nI_toInt hn]
theorem nx_sr_tail (f : Nat → Int64) (u o to below y14 y18 : Int32) (w : Int64) {E : Int} {fr : Nat} (hE : y18.toInt = E) (hfr : fr < 2 ^ 55) (hw : (xj_ush w (7 : Int32)) &&& (36028797018963967 : Int64) = lN fr) :
    (if y18 ≤ (255 : Int32) then (if (1 : Int32) ≤ y18 then (if below = 0 then ((0 : Int32), ((vp_updL f (Int32.toNatClampNeg to) (mf_X0_bitsOf below y18 ((xj_ush w (7 : Int32)) &&& (36028797018963967 : Int64)))), u, y14)) else ((8 : Int32), ((vp_updL f (Int32.toNatClampNeg to) (mf_X0_bitsOf below y18 ((xj_ush w (7 : Int32)) &&& (36028797018963967 : Int64)))), u, y14))) else (if u = 0 then ((mf_X0_storeZero f u o to (1 : Int32)).1, ((mf_X0_storeZero f u o to (1 : Int32)).2.1, (mf_X0_storeZero f u o to (1 : Int32)).2.2.1, (mf_X0_storeZero f u o to (1 : Int32)).2.2.2)) else ((-3 : Int32), (f, u, o)))) else ((-2 : Int32), (f, u, o))) = nx_out f u o to below E fr y14 := by
  unfold nx_out
  have c255 : (255 : Int32).toInt = 255 := by decide
  have c1 : (1 : Int32).toInt = 1 := by decide
  by_cases a : E ≤ 255
  · rw [if_pos (by rw [Int32.le_iff_toInt_le, hE, c255]; exact a), if_neg (by omega : ¬ 255 < E)]
    by_cases b : 1 ≤ E
    · rw [if_pos (by rw [Int32.le_iff_toInt_le, hE, c1]; exact b), if_neg (by omega : ¬ E < 1), hw, nx_bitsOf (E := E.toNat) (by omega) (nx_ofT (by rw [hE]; omega) (by omega)) hfr]
      by_cases hb : below = 0 <;> simp [hb]
    · rw [if_neg (by rw [Int32.le_iff_toInt_le, hE, c1]; exact b), if_pos (by omega : E < 1)]
      rfl
  · rw [if_neg (by rw [Int32.le_iff_toInt_le, hE, c255]; exact a), if_pos (by omega : 255 < E)]
theorem nx_storeRounded (f : Nat → Int64) (u o size to below p4 : Int32) {s W j m : Nat} {e : Int} (hs : (size = 4 ∧ s = 39) ∨ (size ≠ 4 ∧ s = 7)) (h1 : 2 ^ 62 ≤ W * 2 ^ j) (h2 : W * 2 ^ j < 2 ^ 63) (hj : j ≤ 62)
    (he : p4.toInt = e) (he1 : -1000 ≤ e) (he2 : e ≤ 1000) (hm : m = (W * 2 ^ j + 2 ^ (s - 1)) / 2 ^ s) :
    mf_X0_storeRounded f u o size to below p4 (lN W) = nx_out f u o to below (e - j + (if m * 2 ^ s = 2 ^ 63 then 1 else 0)) (m * 2 ^ s / 2 ^ 7 % 2 ^ 55) (if W * 2 ^ j % 2 ^ s = 0 then 0 else 1) := by
  have hW0 : 0 < W := by
    rcases Nat.eq_zero_or_pos W with c | c
    · subst c; omega
    · exact c
  have hWb : W < 2 ^ 63 := by
    have := Nat.mul_le_mul (Nat.le_refl W) (Nat.two_pow_pos j)
    omega
  unfold mf_X0_storeRounded
  rw [if_neg (by rw [show (0 : Int64) = lN 0 from rfl, nb_eq (by omega) (by decide)]; omega)]
  have hlp : ml_X0_storeRounded_25 64 (lN W) p4 (0 : Int32) = (lN (W * 2 ^ j), p4 - nI j, nI (0 + j)) := nx_sr_loop j 64 0 W p4 h1 h2 (by omega) (by omega)
  rw [hlp]
  generalize W * 2 ^ j = V at *
  have hy : (if size = (4 : Int32) then (39 : Int32) else (7 : Int32)) = nI s := by
    rcases hs with ⟨a, rfl⟩ | ⟨a, rfl⟩
    · rw [if_pos a]; rfl
    · rw [if_neg a]; rfl
  rw [hy]
  have hs2 : s = 39 ∨ s = 7 := by rcases hs with ⟨_, b⟩ | ⟨_, b⟩ <;> simp [b]
  clear hs hy
  unfold xj_bnd
  dsimp only
  have hmask : xj_shl (1 : Int64) (nI s) - (1 : Int64) = lN (2 ^ s - 1) := by rcases hs2 with rfl | rfl <;> decide +kernel
  have hhalf : xj_shl (1 : Int64) (nI s - (1 : Int32)) = lN (2 ^ (s - 1)) := by rcases hs2 with rfl | rfl <;> decide +kernel
  have hsl : s < 64 := by omega
  rw [hmask, hhalf, nb_mask (by omega) hsl, lN_add, nb_ush (by rcases hs2 with rfl | rfl <;> omega) hsl, ← hm, nb_shl _ hsl]
  have hmb : m * 2 ^ s ≤ 2 ^ 63 := by rcases hs2 with rfl | rfl <;> omega
  have hml : 2 ^ 62 ≤ m * 2 ^ s := by rcases hs2 with rfl | rfl <;> omega
  have hV : V % 2 ^ s < 2 ^ 64 := by rcases hs2 with rfl | rfl <;> omega
  have hx0 : (lN (V % 2 ^ s) = 0) ↔ V % 2 ^ s = 0 := by rw [show (0 : Int64) = lN 0 from rfl, nb_eq hV (by decide)]
  have ex : (if lN (V % 2 ^ s) = 0 then (0 : Int32) else 1) = (if V % 2 ^ s = 0 then 0 else 1) := by simp only [hx0]
  rw [ex]
  have hp := nx_subT he he1 he2 hj
  by_cases hc : m * 2 ^ s = 2 ^ 63
  · have hng : ¬ (0 : Int64) ≤ lN (2 ^ 63) := by decide +kernel
    rw [if_pos hc, hc]
    simp only [if_neg hng]
    exact nx_sr_tail f u o to below _ _ _ (E := e - j + 1) (fr := 2 ^ 63 / 2 ^ 7 % 2 ^ 55) (by rw [nx_addT hp (by omega) (by omega)]) (by decide) (by decide +kernel)
  · have hlt : m * 2 ^ s < 2 ^ 63 := by omega
    have hge : (0 : Int64) ≤ lN (m * 2 ^ s) := (nb_le (a := 0) (by decide) hlt).mpr (Nat.zero_le _)
    rw [if_neg hc]
    simp only [if_pos hge]
    refine nx_sr_tail f u o to below _ _ _ (by rw [hp]; omega) (by omega) ?_
    rw [show (7 : Int32) = nI 7 from rfl, nb_ush (by omega) (by decide), show (36028797018963967 : Int64) = lN (2 ^ 55 - 1) from rfl, nb_mask (by omega) (by decide)]
/-! the class: whole numbers -/
theorem nx_neg32 {p : Int32} {d : Nat} (h : p.toInt = -(d : Int)) (hd : d < 2 ^ 31) : -p = nI d := by
  apply nx_ofT _ hd
  rw [Int32.toInt_neg, h, Int.neg_neg]
  apply Int.bmod_eq_of_le <;> omega
theorem nx_wholeDown {sig d : Nat} (hs : sig < 2 ^ 56) (hd1 : 1 ≤ d) (hd2 : d ≤ 183) {p2 : Int32} (h2 : p2.toInt = -(d : Int)) (p3 : Int32) :
    mf_X0_wholeSize (lN sig) p2 p3 = lN (if p3 = 0 then sig / 2 ^ d else (sig / 2 ^ (d - 1) + 1) / 2) := by
  unfold mf_X0_wholeSize xj_bnd
  dsimp only
  have z : (0 : Int32).toInt = 0 := by decide
  rw [if_pos (by rw [Int32.lt_iff_toInt_lt, h2, z]; omega), nx_neg32 h2 (by omega)]
  by_cases h56 : d ≤ 56
  · rw [if_pos (by rw [show (56 : Int32) = nI 56 from rfl, nI_leI (by omega) (by decide)]; exact h56)]
    by_cases hp : p3 = 0
    · rw [if_pos hp, if_pos hp, nb_ush (by omega) (by omega)]
    · rw [if_neg hp, if_neg hp, show (1 : Int32) = nI 1 from rfl, pk_sub hd1, nb_ush (by omega) (by omega), show (1 : Int64) = lN 1 from rfl, lN_add, nb_ush (by have := Nat.div_le_self sig (2 ^ (d - 1)); omega) (by decide)]
  · rw [if_neg (by rw [show (56 : Int32) = nI 56 from rfl, nI_leI (by omega) (by decide)]; exact h56)]
    have a : 2 ^ 56 ≤ 2 ^ (d - 1) := Nat.pow_le_pow_right (by decide) (by omega)
    have b : 2 ^ 56 ≤ 2 ^ d := Nat.pow_le_pow_right (by decide) (by omega)
    rw [Nat.div_eq_of_lt (show sig < 2 ^ d by omega), Nat.div_eq_of_lt (show sig < 2 ^ (d - 1) by omega)]
    split <;> rfl
theorem nx_wholeUp {sig k : Nat} (hs : sig < 2 ^ 56) (hk : k ≤ 100) {p2 : Int32} (h2 : p2.toInt = (k : Int)) (p3 : Int32) :
    mf_X0_wholeSize (lN sig) p2 p3 = lN (2 ^ 55 + sig * 2 ^ k % 2 ^ 32) := by
  unfold mf_X0_wholeSize xj_bnd
  dsimp only
  have z : (0 : Int32).toInt = 0 := by decide
  rw [if_neg (by rw [Int32.lt_iff_toInt_lt, h2, z]; omega), nx_ofT h2 (by omega)]
  have key : (if (32 : Int32) ≤ nI k then (0 : Int64) else xj_shl (lN sig) (nI k) &&& (4294967295 : Int64)) = lN (sig * 2 ^ k % 2 ^ 32) := by
    by_cases h32 : 32 ≤ k
    · rw [if_pos (by rw [show (32 : Int32) = nI 32 from rfl, nI_leI (by decide) (by omega)]; exact h32)]
      have : sig * 2 ^ k % 2 ^ 32 = 0 := by
        rw [show k = (k - 32) + 32 by omega, Nat.pow_add, ← Nat.mul_assoc, Nat.mul_mod_left]
      rw [this]; rfl
    · rw [if_neg (by rw [show (32 : Int32) = nI 32 from rfl, nI_leI (by decide) (by omega)]; exact h32), nb_shl _ (by omega), nb_mod, show (4294967295 : Int64) = lN (2 ^ 32 - 1) from rfl, nb_mask (by omega) (by decide)]
      congr 1
      omega
  rw [key, Int64.or_comm]
  have := nb_oadd (b := 1) (a := sig * 2 ^ k % 2 ^ 32) (k := 55) (by omega) (by omega)
  rw [Nat.one_mul] at this
  exact this
/-! the class: a wide number that stands for N / D is rounded as N / D is -/
theorem nq_norm {N D j : Nat} (hD : 0 < D) (hj : j ≤ 61) (h1 : 2 ^ 62 * D ≤ N * 2 ^ j) (h2 : N * 2 ^ j < 2 ^ 63 * D) : 2 ^ 62 ≤ nq_stk N D * 2 ^ j ∧ nq_stk N D * 2 ^ j < 2 ^ 63 := by
  obtain ⟨k, hk⟩ : ∃ k, 61 = j + k := ⟨61 - j, by omega⟩
  have hJ : 0 < 2 ^ j := Nat.two_pow_pos j
  have e62 : (2 : Nat) ^ 62 = 2 ^ j * (2 * 2 ^ k) := by
    rw [show 62 = j + (1 + k) by omega, Nat.pow_add, Nat.pow_add]
  have e63 : (2 : Nat) ^ 63 = 2 ^ j * (2 * (2 * 2 ^ k)) := by
    rw [show (63 : Nat) = 62 + 1 from rfl, Nat.pow_succ, e62]; ac_rfl
  rw [e62] at h1 ⊢
  rw [e63] at h2 ⊢
  generalize 2 ^ j = J at *
  generalize 2 ^ k = c at *
  have a1 : 2 * D * c ≤ N := by
    have : J * (2 * D * c) ≤ J * N := by rw [show J * (2 * D * c) = J * (2 * c) * D by ac_rfl, Nat.mul_comm J N]; exact h1
    exact Nat.le_of_mul_le_mul_left this hJ
  have a2 : N < 2 * D * (2 * c) := by
    have : J * N < J * (2 * D * (2 * c)) := by rw [show J * (2 * D * (2 * c)) = J * (2 * (2 * c)) * D by ac_rfl, Nat.mul_comm J N]; exact h2
    exact Nat.lt_of_mul_lt_mul_left this
  have b1 : c ≤ N / (2 * D) := (Nat.le_div_iff_mul_le (by omega)).mpr (by rw [Nat.mul_comm]; exact a1)
  have b2 : N / (2 * D) < 2 * c := Nat.div_lt_of_lt_mul a2
  have hh := nq_half N D
  constructor
  · rw [Nat.mul_comm _ J]; apply Nat.mul_le_mul_left; omega
  · rw [Nat.mul_comm _ J]; apply Nat.mul_lt_mul_of_pos_left _ hJ; omega
theorem nx_srS (f : Nat → Int64) (u o size to below p4 : Int32) {s N D j m : Nat} {e : Int} (hs : (size = 4 ∧ s = 39) ∨ (size ≠ 4 ∧ s = 7)) (hD : 0 < D) (h1 : 2 ^ 62 * D ≤ N * 2 ^ j) (h2 : N * 2 ^ j < 2 ^ 63 * D) (hj : j + 2 ≤ s ∨ (N % D = 0 ∧ j ≤ 62))
    (he : p4.toInt = e) (he1 : -1000 ≤ e) (he2 : e ≤ 1000) (hm : m = (N * 2 ^ j + D * 2 ^ (s - 1)) / (D * 2 ^ s)) :
    mf_X0_storeRounded f u o size to below p4 (lN (nq_stk N D)) = nx_out f u o to below (e - j + (if m * 2 ^ s = 2 ^ 63 then 1 else 0)) (m * 2 ^ s / 2 ^ 7 % 2 ^ 55) (if N * 2 ^ j % (D * 2 ^ s) = 0 then 0 else 1) := by
  have hs2 : s = 39 ∨ s = 7 := by rcases hs with ⟨_, b⟩ | ⟨_, b⟩ <;> simp [b]
  have hm2 : (2 ^ 62 ≤ nq_stk N D * 2 ^ j ∧ nq_stk N D * 2 ^ j < 2 ^ 63) ∧ m = (nq_stk N D * 2 ^ j + 2 ^ (s - 1)) / 2 ^ s ∧ (nq_stk N D * 2 ^ j % 2 ^ s = 0 ↔ N * 2 ^ j % (D * 2 ^ s) = 0) := by
    rcases hj with hj | ⟨hj, _⟩
    · refine ⟨nq_norm hD (by omega) h1 h2, ?_⟩
      rw [hm, nq_rnd hD hj]; exact ⟨rfl, nq_exact hD hj⟩
    · have e1 : nq_stk N D = N / D := by rw [nq_stk_eq, if_pos hj]
      have e2 : N = D * (N / D) := by have := Nat.div_add_mod N D; omega
      rw [e1, hm]
      generalize N / D = q at *
      subst e2
      have e3 : D * q * 2 ^ j = D * (q * 2 ^ j) := by ac_rfl
      rw [e3] at h1 h2
      rw [Nat.mul_comm] at h1
      rw [Nat.mul_comm (2 ^ 63)] at h2
      refine ⟨⟨Nat.le_of_mul_le_mul_left h1 hD, Nat.lt_of_mul_lt_mul_left h2⟩, ?_⟩
      rw [e3, ← Nat.mul_add, Nat.mul_div_mul_left _ _ hD, Nat.mul_mod_mul_left]
      refine ⟨rfl, ?_⟩
      constructor
      · intro h; rw [h, Nat.mul_zero]
      · intro h; rcases Nat.mul_eq_zero.mp h with h | h
        · omega
        · exact h
  obtain ⟨⟨n1, n2⟩, hm2⟩ := hm2
  rw [nx_storeRounded f u o size to below p4 hs n1 n2 (by omega) he he1 he2 hm2.1]
  simp only [hm2.2]
