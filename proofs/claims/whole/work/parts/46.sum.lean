theorem ly_sumc (f : Nat → Int64) (u o size to below mi xe : Int32) (bi : Int64) (fa cu power more : Int32) {s p T eL d sl ss tl ts : Nat} (same : Bool)
    (hs : (size = 4 ∧ s = 39 ∧ p = 24) ∨ (size = 8 ∧ s = 7 ∧ p = 56)) (hT : T + p = 56) (hsl1 : 2 ^ 55 ≤ sl) (hsl2 : sl < 2 ^ 56) (hss1 : 2 ^ 55 ≤ ss) (hss2 : ss < 2 ^ 56) (htl : sl = tl * 2 ^ T) (hts : ss = ts * 2 ^ T)
    (he1 : 1 ≤ eL) (he2 : eL ≤ 255) (hord : 0 < d ∨ ss ≤ sl) (hmore : more = if ts * 2 ^ 6 % 2 ^ d = 0 then 0 else 1) (hpw : power.toInt = (eL : Int) - 134 - p)
    {q : Int64 × (Nat → Int64) × Int32 × Int32 × Int32 × Int32 × Int64 × Int32 × Int32} (hq : q = mf_Y_rounds f u o mi xe bi fa cu size below (lN (if same then tl * 2 ^ 6 + ts * 2 ^ 6 / 2 ^ d else tl * 2 ^ 6 - ts * 2 ^ 6 / 2 ^ d - (if ts * 2 ^ 6 % 2 ^ d = 0 then 0 else 1))) power more) :
    ly_r (mf_Y_gives q.2.1 q.2.2.1 q.2.2.2.1 q.2.2.2.2.1 q.2.2.2.2.2.1 q.2.2.2.2.2.2.1 q.2.2.2.2.2.2.2.1 q.2.2.2.2.2.2.2.2 q.1 to) =
      mf_X0_storeRounded f u o size to below (nI (eL + 1)) (lN (if same then sl * 2 ^ 6 + nq_stk (ss * 2 ^ 6) (2 ^ d) else sl * 2 ^ 6 - nq_stk (ss * 2 ^ 6) (2 ^ d))) := by
  have hp : (p = 24 ∧ T = 32) ∨ (p = 56 ∧ T = 0) := by rcases hs with ⟨_, _, b⟩ | ⟨_, _, b⟩ <;> omega
  have hD : 0 < 2 ^ d := Nat.two_pow_pos d
  have hD1 : d = 0 ∨ 2 ≤ 2 ^ d := by
    rcases Nat.eq_zero_or_pos d with c | c
    · exact Or.inl c
    · exact Or.inr (Nat.pow_le_pow_right (n := 2) (by decide) (show 1 ≤ d by omega))
  have btl1 : 2 ^ (p - 1) ≤ tl := by rcases hp with ⟨rfl, rfl⟩ | ⟨rfl, rfl⟩ <;> omega
  have btl2 : tl < 2 ^ p := by rcases hp with ⟨rfl, rfl⟩ | ⟨rfl, rfl⟩ <;> omega
  have bts1 : 2 ^ (p - 1) ≤ ts := by rcases hp with ⟨rfl, rfl⟩ | ⟨rfl, rfl⟩ <;> omega
  have bts2 : ts < 2 ^ p := by rcases hp with ⟨rfl, rfl⟩ | ⟨rfl, rfl⟩ <;> omega
  have hle : ts ≤ tl * 2 ^ d := by
    rcases hD1 with c | c
    · subst c
      have : ss ≤ sl := by rcases hord with k | k; omega; exact k
      rcases hp with ⟨rfl, rfl⟩ | ⟨rfl, rfl⟩ <;> omega
    · have h2 : tl * 2 ≤ tl * 2 ^ d := Nat.mul_le_mul_left _ c
      rcases hp with ⟨rfl, rfl⟩ | ⟨rfl, rfl⟩ <;> omega
  obtain ⟨n1, n2, n3, n4⟩ := ly_sumN (t := T) hle
  have hF : sl * 2 ^ 6 % 2 = 0 := by omega
  have a1 : sl * 2 ^ 6 * 2 ^ d + ss * 2 ^ 6 = 2 ^ 6 * 2 ^ T * (tl * 2 ^ d + ts) := by
    rw [htl, hts, Nat.mul_add]; congr 1 <;> ac_rfl
  have a2 : sl * 2 ^ 6 * 2 ^ d - ss * 2 ^ 6 = 2 ^ 6 * 2 ^ T * (tl * 2 ^ d - ts) := by
    rw [htl, hts, Nat.mul_sub]; congr 1 <;> ac_rfl
  have a3 : ss * 2 ^ 6 ≤ sl * 2 ^ 6 * 2 ^ d := by
    rw [htl, hts, show tl * 2 ^ T * 2 ^ 6 * 2 ^ d = tl * 2 ^ d * (2 ^ T * 2 ^ 6) by ac_rfl, Nat.mul_assoc]
    exact Nat.mul_le_mul_right _ hle
  have hdv : ts * 2 ^ 6 / 2 ^ d ≤ ts * 2 ^ 6 := Nat.div_le_self _ _
  obtain ⟨N, hN⟩ : ∃ N, N = 2 ^ 6 * 2 ^ T * (if same then tl * 2 ^ d + ts else tl * 2 ^ d - ts) := ⟨_, rfl⟩
  have hW : (if same then sl * 2 ^ 6 + nq_stk (ss * 2 ^ 6) (2 ^ d) else sl * 2 ^ 6 - nq_stk (ss * 2 ^ 6) (2 ^ d)) = nq_stk N (2 ^ d) := by
    cases same with
    | true => simp only [if_true] at hN ⊢; rw [nq_add hF hD, a1, hN]
    | false => simp only [Bool.false_eq_true, if_false] at hN ⊢; rw [(nq_sub hF hD a3).1, a2, hN]
  obtain ⟨X, hX⟩ : ∃ X, X = (if same then tl * 2 ^ 6 + ts * 2 ^ 6 / 2 ^ d else tl * 2 ^ 6 - ts * 2 ^ 6 / 2 ^ d - (if ts * 2 ^ 6 % 2 ^ d = 0 then 0 else 1)) := ⟨_, rfl⟩
  have hX2 : X = N / (2 ^ d * 2 ^ T) := by
    cases same with
    | true => simp only [if_true] at hN hX; rw [hX, hN, n1]
    | false => simp only [Bool.false_eq_true, if_false] at hN hX; rw [hX, hN, n3]
  have hZ : N % (2 ^ d * 2 ^ T) = 0 ↔ ts * 2 ^ 6 % 2 ^ d = 0 := by
    cases same with
    | true => simp only [if_true] at hN; rw [hN]; exact n2
    | false => simp only [Bool.false_eq_true, if_false] at hN; rw [hN]; exact n4
  rw [hW]
  rw [← hX] at hq
  obtain ⟨Q, hQ⟩ : ∃ Q, Q = ts * 2 ^ 6 / 2 ^ d := ⟨_, rfl⟩
  obtain ⟨R, hR⟩ : ∃ R, R = (if ts * 2 ^ 6 % 2 ^ d = 0 then 0 else 1) := ⟨_, rfl⟩
  rw [← hQ, ← hR] at hX
  rw [← hQ] at hdv
  have hR1 : R ≤ 1 := by rw [hR]; split <;> omega
  have hXt : same = true → X = tl * 2 ^ 6 + Q := fun h => by rw [hX, h]; rfl
  have hXf : same = false → X = tl * 2 ^ 6 - Q - R := fun h => by rw [hX, h]; rfl
  have hub : X < 2 ^ (p + 7) := by
    clear hX hX2 hN hq hW n1 n2 n3 n4 a1 a2 a3
    cases same with
    | true => have := hXt rfl; rcases hp with ⟨rfl, rfl⟩ | ⟨rfl, rfl⟩ <;> omega
    | false => have := hXf rfl; rcases hp with ⟨rfl, rfl⟩ | ⟨rfl, rfl⟩ <;> omega
  by_cases h0 : X = 0
  · have hN0 : N = 0 := by
      cases same with
      | true =>
        have := hXt rfl
        clear hX hX2 hN hq hW n1 n2 n3 n4 a1 a2 a3
        rcases hp with ⟨rfl, rfl⟩ | ⟨rfl, rfl⟩ <;> omega
      | false =>
        have hx := hXf rfl
        simp only [Bool.false_eq_true, if_false] at hN
        rcases hD1 with c | c
        · subst c
          have hz : ts * 2 ^ 6 % 2 ^ 0 = 0 := by simp [Nat.mod_one]
          rw [if_pos hz] at hR
          have hq1 : Q = ts * 2 ^ 6 := by rw [hQ]; simp
          have : tl * 2 ^ 0 - ts = 0 := by omega
          rw [hN, this, Nat.mul_zero]
        · have h2 : Q ≤ ts * 2 ^ 6 / 2 := by rw [hQ]; exact Nat.div_le_div_left c (by decide)
          exfalso
          clear hX hX2 hN hq hW n1 n2 n3 n4 a1 a2 a3
          rcases hp with ⟨rfl, rfl⟩ | ⟨rfl, rfl⟩ <;> omega
    have e0 : nq_stk N (2 ^ d) = 0 := by rw [hN0]; unfold nq_stk; simp
    rw [e0, show lN 0 = (0 : Int64) from rfl, nx_sr_zero]
    rw [h0, show lN 0 = (0 : Int64) from rfl, ly_rounds0] at hq
    rw [hq]
    exact ly_gives0 ..
  · obtain ⟨n, hn, hb1, hb2⟩ := ly_bl (show 0 < X by omega)
    have hnle := ly_bl_le hb1 hub
    refine ly_core f u o size to below (nI (eL + 1)) mi xe bi fa cu power more (N := N) (D := 2 ^ d) (T := T) (n := n) (X := X) (e0 := (eL : Int) + 1) hs hD hX2 hb1 hb2 hn (by omega) ?_ ?_ (by rw [nI_toInt (by omega)]; omega) (by omega) (by omega) (by rw [hpw]; omega) hq
    · by_cases c : ts * 2 ^ 6 % 2 ^ d = 0
      · exact Or.inr (hZ.mpr c)
      · left
        have hd7 : 7 ≤ d := by
          rcases Nat.lt_or_ge d 7 with k | k
          · exfalso; apply c
            rw [show (2 : Nat) ^ 6 = 2 ^ (6 - d) * 2 ^ d by rw [← Nat.pow_add]; congr 1; omega, ← Nat.mul_assoc, Nat.mul_mod_left]
          · exact k
        have hp7 : 2 ^ 7 ≤ 2 ^ d := Nat.pow_le_pow_right (by decide) hd7
        have h2 : Q ≤ ts * 2 ^ 6 / 2 ^ 7 := by rw [hQ]; exact Nat.div_le_div_left hp7 (by decide)
        have hlb : 2 ^ (p + 4) ≤ X := by
          clear hX hX2 hN hq hW n1 n2 n3 n4 a1 a2 a3
          cases same with
          | true => have := hXt rfl; rcases hp with ⟨rfl, rfl⟩ | ⟨rfl, rfl⟩ <;> omega
          | false => have := hXf rfl; rcases hp with ⟨rfl, rfl⟩ | ⟨rfl, rfl⟩ <;> omega
        have := ly_bl_ge hb2 hlb
        omega
    · rw [hmore]; simp only [hZ]
