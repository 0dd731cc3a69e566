/-! class and reference: one rounding -/
/-- what the reference's answer and state show -/
def ly_r (q : Int32 × (Nat → Int64) × Int32 × Int32 × Int32 × Int32 × Int64 × Int32 × Int32) : Int32 × (Nat → Int64) × Int32 × Int32 := (q.1, (q.2.1, q.2.2.1, q.2.2.2.1))
theorem ly_bits_lt {sg ex fr : Nat} (h1 : sg < 2) (h2 : ex < 256) (h3 : fr < 2 ^ 55) : nx_bits sg ex fr < 2 ^ 64 := by unfold nx_bits; omega
theorem ly_bits_ex {sg ex fr : Nat} (h1 : sg < 2) (h2 : ex < 256) (h3 : fr < 2 ^ 55) : nx_ex (nx_bits sg ex fr) = ex := by
  unfold nx_bits nx_ex
  have ha : fr / 2 ^ 48 < 2 ^ 7 := by omega
  generalize fr / 2 ^ 48 = a at ha ⊢
  generalize fr / 2 ^ 32 % 2 ^ 16 = b
  generalize fr / 2 ^ 16 % 2 ^ 16 = c
  generalize fr % 2 ^ 16 = d
  omega
theorem ly_bits_sg {sg ex fr : Nat} (h1 : sg < 2) (h2 : ex < 256) (h3 : fr < 2 ^ 55) : nx_sg (nx_bits sg ex fr) = sg := by
  unfold nx_bits nx_sg
  have ha : fr / 2 ^ 48 < 2 ^ 7 := by omega
  generalize fr / 2 ^ 48 = a at ha ⊢
  generalize fr / 2 ^ 32 % 2 ^ 16 = b
  generalize fr / 2 ^ 16 % 2 ^ 16 = c
  generalize fr % 2 ^ 16 = d
  omega
theorem ly_flags {n : Nat} (hn : n < 2 ^ 64) : mf_Y_flags (lN n) = if nx_ex n = 0 then 4 else if nx_sg n = 0 then 0 else 8 := by
  unfold mf_Y_flags xj_bnd
  dsimp only
  rw [ny_isZero hn, ny_isBelow hn]
  by_cases c : nx_ex n = 0
  · simp [c]
  · by_cases d : nx_sg n = 0 <;> simp [c, d]
theorem ly_gives (g : Nat → Int64) (ak il mi xe : Int32) (bi : Int64) (below to : Int32) {E : Int} {fr : Nat} {c : Int32} {q : Int64 × (Nat → Int64) × Int32 × Int32 × Int32 × Int32 × Int64 × Int32 × Int32} (hq : q = ny_st g ak il mi xe bi below E fr c) (hfr : fr < 2 ^ 55) :
    ly_r (mf_Y_gives q.2.1 q.2.2.1 q.2.2.2.1 q.2.2.2.2.1 q.2.2.2.2.2.1 q.2.2.2.2.2.2.1 q.2.2.2.2.2.2.2.1 q.2.2.2.2.2.2.2.2 q.1 to) = nx_out g ak il to below E fr c := by
  unfold ny_st at hq
  unfold nx_out
  by_cases a : 255 < E
  · rw [if_pos a] at hq
    rw [if_pos a, hq]
    rfl
  · rw [if_neg a] at hq
    rw [if_neg a]
    by_cases b : E < 1
    · rw [if_pos b] at hq
      rw [if_pos b, hq]
      by_cases d : ak = 0
      · have h0 : mf_Y_flags (0 : Int64) = 4 := by decide +kernel
        unfold mf_Y_gives ly_r xj_bnd
        simp [d, h0]
      · unfold mf_Y_gives ly_r
        simp [d]
    · rw [if_neg b] at hq
      have hsg : (if below = 0 then 0 else 1) < 2 := by split <;> omega
      have hE : E.toNat < 256 := by omega
      rw [if_neg b, hq]
      unfold mf_Y_gives ly_r xj_bnd
      dsimp only
      rw [if_pos rfl, ly_flags (ly_bits_lt hsg hE hfr), ly_bits_ex hsg hE hfr, ly_bits_sg hsg hE hfr, if_neg (by omega)]
      by_cases d : below = 0 <;> simp [d]
theorem ly_m {N D T n p s j X : Nat} (hD : 0 < D) (hsp : s + p = 63) (hjT : j + T + n = 63) (hX : X = N / (D * 2 ^ T)) (hs0 : 1 ≤ s) (hex : p < n ∨ N % (D * 2 ^ T) = 0) :
    (N * 2 ^ j + D * 2 ^ (s - 1)) / (D * 2 ^ s) = (if p < n then (X + 2 ^ (n - p - 1)) / 2 ^ (n - p) else X * 2 ^ (p - n)) ∧
    (N * 2 ^ j % (D * 2 ^ s) = 0 ↔ (if p < n then N % (D * 2 ^ T) = 0 ∧ X % 2 ^ (n - p) = 0 else True)) := by
  have hT : 0 < 2 ^ T := Nat.two_pow_pos T
  have hJ : 0 < 2 ^ j := Nat.two_pow_pos j
  have hDT : 0 < D * 2 ^ T := Nat.mul_pos hD hT
  by_cases h : p < n
  · rw [if_pos h, if_pos h]
    obtain ⟨b, hb⟩ : ∃ b, n - p = b + 1 := ⟨n - p - 1, by omega⟩
    have e1 : (2 : Nat) ^ s = 2 ^ j * (2 ^ T * 2 ^ (n - p)) := by rw [← Nat.pow_add, ← Nat.pow_add]; congr 1; omega
    have e2 : (2 : Nat) ^ (s - 1) = 2 ^ j * (2 ^ T * 2 ^ (n - p - 1)) := by rw [← Nat.pow_add, ← Nat.pow_add]; congr 1; omega
    have l1 : N * 2 ^ j + D * 2 ^ (s - 1) = 2 ^ j * (N + D * 2 ^ T * 2 ^ (n - p - 1)) := by
      rw [e2, Nat.mul_add, Nat.mul_comm N]; congr 1; ac_rfl
    have l2 : D * 2 ^ s = 2 ^ j * (D * 2 ^ T * 2 ^ (n - p)) := by rw [e1]; ac_rfl
    rw [l1, l2, Nat.mul_div_mul_left _ _ hJ, ← Nat.div_div_eq_div_mul, Nat.add_mul_div_left _ _ hDT, ← hX, Nat.mul_comm N, Nat.mul_mod_mul_left, Nat.mod_mul, ← hX]
    refine ⟨rfl, ?_⟩
    constructor
    · intro h0
      rcases Nat.mul_eq_zero.mp h0 with h0 | h0
      · omega
      · have a1 : N % (D * 2 ^ T) = 0 := by omega
        have a2 : D * 2 ^ T * (X % 2 ^ (n - p)) = 0 := by omega
        rcases Nat.mul_eq_zero.mp a2 with a2 | a2
        · omega
        · exact ⟨a1, a2⟩
    · rintro ⟨a1, a2⟩
      rw [a1, a2]; simp
  · rw [if_neg h, if_neg h]
    have hz : N % (D * 2 ^ T) = 0 := by rcases hex with c | c; exact absurd c h; exact c
    have hN : N = D * 2 ^ T * X := by
      have := Nat.div_add_mod N (D * 2 ^ T)
      rw [hX]; omega
    have e1 : (2 : Nat) ^ T * 2 ^ j = 2 ^ s * 2 ^ (p - n) := by rw [← Nat.pow_add, ← Nat.pow_add]; congr 1; omega
    have l1 : N * 2 ^ j = D * 2 ^ s * (X * 2 ^ (p - n)) := by
      rw [hN, show D * 2 ^ T * X * 2 ^ j = D * X * (2 ^ T * 2 ^ j) by ac_rfl, e1]; ac_rfl
    have hs2 : D * 2 ^ (s - 1) < D * 2 ^ s := Nat.mul_lt_mul_of_pos_left (Nat.pow_lt_pow_right (by decide) (by omega)) hD
    rw [l1, Nat.mul_add_div (Nat.mul_pos hD (Nat.two_pow_pos s)), Nat.div_eq_of_lt hs2, Nat.mul_mod_right]
    simp
theorem ly_core (f : Nat → Int64) (u o size to below p4 mi xe : Int32) (bi : Int64) (fa cu power more : Int32) {s p N D T n X : Nat} {e0 : Int}
    (hs : (size = 4 ∧ s = 39 ∧ p = 24) ∨ (size = 8 ∧ s = 7 ∧ p = 56)) (hD : 0 < D) (hX : X = N / (D * 2 ^ T)) (hX1 : 2 ^ (n - 1) ≤ X) (hX2 : X < 2 ^ n) (hn : 1 ≤ n) (hTn : T + n ≤ 63)
    (hex : (p < n ∧ p + 2 ≤ T + n) ∨ N % (D * 2 ^ T) = 0) (hmore : more = if N % (D * 2 ^ T) = 0 then 0 else 1)
    (he : p4.toInt = e0) (he1 : -900 ≤ e0) (he2 : e0 ≤ 900) (hpw : power.toInt = e0 - 191 + T)
    {q : Int64 × (Nat → Int64) × Int32 × Int32 × Int32 × Int32 × Int64 × Int32 × Int32} (hq : q = mf_Y_rounds f u o mi xe bi fa cu size below (lN X) power more) :
    ly_r (mf_Y_gives q.2.1 q.2.2.1 q.2.2.2.1 q.2.2.2.2.1 q.2.2.2.2.2.1 q.2.2.2.2.2.2.1 q.2.2.2.2.2.2.2.1 q.2.2.2.2.2.2.2.2 q.1 to) = mf_X0_storeRounded f u o size to below p4 (lN (nq_stk N D)) := by
  have hsp : s + p = 63 := by rcases hs with ⟨_, a, b⟩ | ⟨_, a, b⟩ <;> omega
  have hs7 : 7 ≤ s := by rcases hs with ⟨_, a, b⟩ | ⟨_, a, b⟩ <;> omega
  have hs1 : (size = 4 ∧ s = 39) ∨ (size ≠ 4 ∧ s = 7) := by
    rcases hs with ⟨a, b, _⟩ | ⟨a, b, _⟩
    · exact Or.inl ⟨a, b⟩
    · exact Or.inr ⟨by rw [a]; decide, b⟩
  obtain ⟨j, hj⟩ : ∃ j, j + T + n = 63 := ⟨63 - T - n, by omega⟩
  have hT : 0 < 2 ^ T := Nat.two_pow_pos T
  have hJ : 0 < 2 ^ j := Nat.two_pow_pos j
  have hDT : 0 < D * 2 ^ T := Nat.mul_pos hD hT
  have h1 : 2 ^ 62 * D ≤ N * 2 ^ j := by
    have a : 2 ^ (n - 1) * (D * 2 ^ T) ≤ N := (Nat.le_div_iff_mul_le hDT).mp (by rw [← hX]; exact hX1)
    have e : (2 : Nat) ^ 62 = 2 ^ (n - 1) * 2 ^ T * 2 ^ j := by rw [← Nat.pow_add, ← Nat.pow_add]; congr 1; omega
    rw [e, show 2 ^ (n - 1) * 2 ^ T * 2 ^ j * D = 2 ^ (n - 1) * (D * 2 ^ T) * 2 ^ j by ac_rfl]
    exact Nat.mul_le_mul_right _ a
  have h2 : N * 2 ^ j < 2 ^ 63 * D := by
    have a : N < 2 ^ n * (D * 2 ^ T) := (Nat.div_lt_iff_lt_mul hDT).mp (by rw [← hX]; exact hX2)
    have e : (2 : Nat) ^ 63 = 2 ^ n * 2 ^ T * 2 ^ j := by rw [← Nat.pow_add, ← Nat.pow_add]; congr 1; omega
    rw [e, show 2 ^ n * 2 ^ T * 2 ^ j * D = 2 ^ n * (D * 2 ^ T) * 2 ^ j by ac_rfl]
    exact Nat.mul_lt_mul_of_pos_right a hJ
  have hj2 : j + 2 ≤ s ∨ (N % D = 0 ∧ j ≤ 62) := by
    rcases hex with h | h
    · left; omega
    · right
      refine ⟨?_, by omega⟩
      have := Nat.mod_mul (x := N) (a := D) (b := 2 ^ T)
      omega
  obtain ⟨m1, m2⟩ := ly_m (N := N) (X := X) hD hsp hj hX (by omega) (by rcases hex with h | h; exact Or.inl h.1; exact Or.inr h)
  rw [nx_srS f u o size to below p4 hs1 hD h1 h2 hj2 he (by omega) (by omega) rfl]
  have hr := ny_rounds f u o mi xe bi fa cu size below power more hs hX1 hX2 hn (by omega) hpw (by omega) (by omega) rfl
  rw [← m1] at hr
  generalize (N * 2 ^ j + D * 2 ^ (s - 1)) / (D * 2 ^ s) = m at hr ⊢
  rw [ly_gives f u o mi xe bi below to (hq.trans hr) (Nat.mod_lt _ (by decide))]
  have e63 : (2 : Nat) ^ 63 = 2 ^ p * 2 ^ s := by rw [← Nat.pow_add]; congr 1; omega
  have hcar : (m = 2 ^ p) ↔ (m * 2 ^ s = 2 ^ 63) := by
    rw [e63]
    constructor
    · intro h; rw [h]
    · intro h; exact Nat.eq_of_mul_eq_mul_right (Nat.two_pow_pos s) h
  have hfr : m * 2 ^ s / 2 ^ 7 = m * 2 ^ (56 - p) := by
    have e : (2 : Nat) ^ s = 2 ^ (56 - p) * 2 ^ 7 := by rw [← Nat.pow_add]; congr 1; omega
    rw [e, ← Nat.mul_assoc, Nat.mul_div_cancel _ (by decide)]
  have hE : e0 - 191 + T + n + 128 = e0 - j := by omega
  have hx : (if p < n then (if more = 0 then (if X % 2 ^ (n - p) = 0 then (0 : Int32) else 1) else 1) else more) = (if N * 2 ^ j % (D * 2 ^ s) = 0 then 0 else 1) := by
    by_cases h : p < n
    · rw [if_pos h] at m2
      rw [if_pos h, hmore]
      by_cases a : N % (D * 2 ^ T) = 0
      · by_cases b : X % 2 ^ (n - p) = 0
        · rw [if_pos (m2.mpr ⟨a, b⟩)]; simp [a, b]
        · rw [if_neg (fun c => b (m2.mp c).2)]; simp [a, b]
      · rw [if_neg (fun c => a (m2.mp c).1)]; simp [a]
    · rw [if_neg h] at m2
      rw [if_neg h, if_pos (m2.mpr trivial), hmore]
      have : N % (D * 2 ^ T) = 0 := by rcases hex with c | c; exact absurd c.1 h; exact c
      simp [this]
  rw [hx, hfr, hE]
  simp only [hcar]
