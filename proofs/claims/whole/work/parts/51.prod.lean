theorem ly_sT {a b : Int32} {x y : Int} (ha : a.toInt = x) (hb : b.toInt = y) (h1 : -100000 ≤ x) (h2 : x ≤ 100000) (h3 : -100000 ≤ y) (h4 : y ≤ 100000) : (a - b).toInt = x - y := by
  rw [Int32.toInt_sub, ha, hb]; apply Int.bmod_eq_of_le <;> omega
theorem ly_aT {a b : Int32} {x y : Int} (ha : a.toInt = x) (hb : b.toInt = y) (h1 : -100000 ≤ x) (h2 : x ≤ 100000) (h3 : -100000 ≤ y) (h4 : y ≤ 100000) : (a + b).toInt = x + y := by
  rw [Int32.toInt_add, ha, hb]; apply Int.bmod_eq_of_le <;> omega
theorem ly_sgb {a b : Nat} (ha : a < 2) (hb : b < 2) : (if (if (decide (a ≠ 0)) = true then (1 : Int32) else 0) = (if (decide (b ≠ 0)) = true then (1 : Int32) else 0) then (0 : Int32) else 1) = (if (if a = 0 then (0 : Int32) else 1) = (if b = 0 then (0 : Int32) else 1) then 0 else 1) := by
  rcases (show a = 0 ∨ a = 1 by omega) with x | x <;> rcases (show b = 0 ∨ b = 1 by omega) with y | y <;> simp [x, y]
theorem nx_storeProduct (f : Nat → Int64) (u o size to : Int32) {na nb : Nat} (hna : na < 2 ^ 64) (hnb : nb < 2 ^ 64) (ca : nx_ex na ≠ 0) (cb : nx_ex nb ≠ 0) :
    mf_X0_storeProduct f u o size to (nx_v (decide (nx_sg na ≠ 0)) (nx_M na)) (nx_v (decide (nx_sg nb ≠ 0)) (nx_M nb)) = mf_X0_storeRounded f u o size to (if (if nx_sg na = 0 then (0 : Int32) else 1) = (if nx_sg nb = 0 then (0 : Int32) else 1) then 0 else 1) ((nI (nx_ex na) + nI (nx_ex nb)) - (128 : Int32)) (lN (nq_stk ((2 ^ 55 + nx_fr na) * (2 ^ 55 + nx_fr nb)) (2 ^ 49))) := by
  obtain ⟨a1, a2, a3⟩ := nx_M_ex hna ca
  obtain ⟨b1, b2, b3⟩ := nx_M_ex hnb cb
  have hfa := nx_fr_lt hna
  have hfb := nx_fr_lt hnb
  unfold mf_X0_storeProduct
  rw [if_neg (fun h => a3 ((nx_v0 (nx_M_lt hna)).mp h)), if_neg (fun h => b3 ((nx_v0 (nx_M_lt hnb)).mp h))]
  simp only [xj_eta3]
  simp only [xj_bnd_eq]
  rw [nx_significandOf (nx_M_lt hna), nx_significandOf (nx_M_lt hnb), nx_exponentOf (nx_M_lt hna), nx_exponentOf (nx_M_lt hnb), nx_sgn (nx_M_lt hna) a3, nx_sgn (nx_M_lt hnb) b3, a1, a2, b1, b2, nx_wideProduct (by omega) (by omega), ly_sgb (ly_sg2 na) (ly_sg2 nb)]
theorem nx_storeProduct0 (f : Nat → Int64) (u o size to : Int32) (x y : Int64) (h : x = 0 ∨ y = 0) : mf_X0_storeProduct f u o size to x y = (4, (vp_updL f to.toNatClampNeg 0, u, 0)) := by
  unfold mf_X0_storeProduct
  by_cases c : x = 0
  · rw [if_pos c]; rfl
  · rcases h with h | h
    · exact absurd h c
    · rw [if_neg c, if_pos h]; rfl
theorem ny_prod8 {x y : Nat} (hx : x < 2 ^ 56) (hy : y < 2 ^ 56) :
    (xj_shl ((xj_shr (lN x) (28 : Int32)) * (xj_shr (lN y) (28 : Int32))) (6 : Int32)) + (xj_shr ((((xj_shr (lN x) (28 : Int32)) * ((lN y) &&& (268435455 : Int64))) + (((lN x) &&& (268435455 : Int64)) * (xj_shr (lN y) (28 : Int32)))) + (xj_shr (((lN x) &&& (268435455 : Int64)) * ((lN y) &&& (268435455 : Int64))) (28 : Int32))) (22 : Int32)) = lN (x * y / 2 ^ 50) ∧
    (if ((((lN x) &&& (268435455 : Int64)) * ((lN y) &&& (268435455 : Int64))) &&& (268435455 : Int64)) = (0 : Int64) then (if (((((xj_shr (lN x) (28 : Int32)) * ((lN y) &&& (268435455 : Int64))) + (((lN x) &&& (268435455 : Int64)) * (xj_shr (lN y) (28 : Int32)))) + (xj_shr (((lN x) &&& (268435455 : Int64)) * ((lN y) &&& (268435455 : Int64))) (28 : Int32))) &&& (4194303 : Int64)) = (0 : Int64) then (0 : Int32) else (1 : Int32)) else (1 : Int32)) = (if x * y % 2 ^ 50 = 0 then 0 else 1) := by
  have m28 : (268435455 : Int64) = lN (2 ^ 28 - 1) := rfl
  have m22 : (4194303 : Int64) = lN (2 ^ 22 - 1) := rfl
  have c28 : (28 : Int32) = nI 28 := rfl
  have c22 : (22 : Int32) = nI 22 := rfl
  have c6 : (6 : Int32) = nI 6 := rfl
  rw [m28, m22, c28, c22, c6, nb_shr (by omega) (by decide), nb_shr (by omega) (by decide), nb_mask (by omega) (by decide), nb_mask (by omega) (by decide)]
  obtain ⟨xh, xl, hxl, hxe⟩ : ∃ xh xl, xl < 2 ^ 28 ∧ x = xh * 2 ^ 28 + xl := ⟨x / 2 ^ 28, x % 2 ^ 28, by omega, by omega⟩
  obtain ⟨yh, yl, hyl, hye⟩ : ∃ yh yl, yl < 2 ^ 28 ∧ y = yh * 2 ^ 28 + yl := ⟨y / 2 ^ 28, y % 2 ^ 28, by omega, by omega⟩
  rw [show x / 2 ^ 28 = xh by omega, show x % 2 ^ 28 = xl by omega, show y / 2 ^ 28 = yh by omega, show y % 2 ^ 28 = yl by omega]
  have hxh : xh < 2 ^ 28 := by omega
  have hyh : yh < 2 ^ 28 := by omega
  have hP : x * y = xh * yh * 2 ^ 56 + (xh * yl + xl * yh) * 2 ^ 28 + xl * yl := by
    rw [hxe, hye, Nat.add_mul, Nat.mul_add, Nat.mul_add, Nat.add_mul]
    have a1 : xh * 2 ^ 28 * (yh * 2 ^ 28) = xh * yh * 2 ^ 56 := by
      rw [show (2 : Nat) ^ 56 = 2 ^ 28 * 2 ^ 28 by decide]; ac_rfl
    have a2 : xh * 2 ^ 28 * yl = xh * yl * 2 ^ 28 := by ac_rfl
    have a3 : xl * (yh * 2 ^ 28) = xl * yh * 2 ^ 28 := by ac_rfl
    rw [a1, a2, a3]; omega
  have b1 : xh * yh < 2 ^ 56 := Nat.lt_of_lt_of_le (Nat.mul_lt_mul'' hxh hyh) (by decide)
  have b2 : xh * yl < 2 ^ 56 := Nat.lt_of_lt_of_le (Nat.mul_lt_mul'' hxh hyl) (by decide)
  have b3 : xl * yh < 2 ^ 56 := Nat.lt_of_lt_of_le (Nat.mul_lt_mul'' hxl hyh) (by decide)
  have b4 : xl * yl < 2 ^ 56 := Nat.lt_of_lt_of_le (Nat.mul_lt_mul'' hxl hyl) (by decide)
  rw [lN_mul, lN_mul, lN_mul, lN_mul]
  generalize x * y = P at *
  generalize xh * yh = a at *
  generalize xh * yl = b at *
  generalize xl * yh = c at *
  generalize xl * yl = d at *
  rw [nb_shr (by omega) (by decide), lN_add, lN_add, nb_shr (by omega) (by decide), nb_shl _ (by decide), lN_add, nb_mask (by omega) (by decide), nb_mask (by omega) (by decide)]
  refine ⟨by congr 1; omega, ?_⟩
  have e0 : ∀ z, z < 2 ^ 64 → ((lN z = (0 : Int64)) ↔ z = 0) := fun z hz => nb_eq (b := 0) hz (by decide)
  simp only [e0 (d % 2 ^ 28) (by omega), e0 ((b + c + d / 2 ^ 28) % 2 ^ 22) (by omega)]
  by_cases k1 : d % 2 ^ 28 = 0
  · by_cases k2 : (b + c + d / 2 ^ 28) % 2 ^ 22 = 0
    · rw [if_pos k1, if_pos k2, if_pos (by omega)]
    · rw [if_pos k1, if_neg k2, if_neg (by omega)]
  · rw [if_neg k1, if_neg (by omega)]
theorem ly_product (f : Nat → Int64) (u o mi xe : Int32) (bi : Int64) (fa cu p1 p2 p3 p4 : Int32) : ly_r (mf_Y_product f u o mi xe bi fa cu p1 p2 p3 p4) = mf_X0_product f u o p1 p2 p3 p4 := by
  unfold mf_Y_product mf_X0_product
  simp only [xj_eta8, xj_eta3]
  rw [ly_two, xj_bnd_eq]
  rw [show ∀ F : Int32 → Int32 × (Nat → Int64) × Int32 × Int32, xj_bnd (mf_X0_refusalOf f u o p1 p2 p3 p4) F = F (mf_X0_refusalOf f u o p1 p2 p3 p4) from fun F => rfl]
  by_cases h : mf_X0_refusalOf f u o p1 p2 p3 p4 = 0
  · rw [if_pos ((ly_ge ..).mpr h), if_pos h]
    have hsz := ly_size h
    obtain ⟨na, hna, h8a, hi1, hi2⟩ := ly_in f p2 hsz
    obtain ⟨nb, hnb, h8b, hj1, hj2⟩ := ly_in f p3 hsz
    have hxa := nx_ex_lt na
    have hxb := nx_ex_lt nb
    have hfa := nx_fr_lt hna
    have hfb := nx_fr_lt hnb
    rw [show mf_Y_in f u o mi xe bi fa cu p1 p2 = lN na from hi1, xj_bnd_eq, ny_take f u o mi xe bi fa cu p1 hna h8a, xj_bnd_eq]
    dsimp only
    rw [show mf_Y_in f u o (if nx_sg na = 0 then 0 else 1) (nI (nx_ex na)) (lN (if nx_ex na = 0 then 0 else 2 ^ 55 + nx_fr na)) fa cu p1 p3 = lN nb from hj1, xj_bnd_eq, ny_take f u o _ _ _ fa cu p1 hnb h8b, xj_bnd_eq]
    dsimp only
    rw [ly_val u o hna hi2, ly_val u o hnb hj2]
    rw [show ∀ (v : Int64) (F : Int64 → Int32 × (Nat → Int64) × Int32 × Int32), xj_bnd v F = F v from fun v F => rfl, show ∀ (v : Int64) (F : Int64 → Int32 × (Nat → Int64) × Int32 × Int32), xj_bnd v F = F v from fun v F => rfl]
    by_cases ca : nx_ex na = 0
    · have hM : nx_M na = 0 := by unfold nx_M; rw [if_pos ca]
      rw [hM, nx_storeProduct0 _ _ _ _ _ _ _ (Or.inl ((nx_v0 (by decide)).mpr rfl)), if_pos ca, if_pos (show lN 0 = (0 : Int64) from rfl)]
      exact ly_gives0 ..
    · have ha0 : ¬ lN (2 ^ 55 + nx_fr na) = (0 : Int64) := fun k => by have := (nb_eq (b := 0) (show 2 ^ 55 + nx_fr na < 2 ^ 64 by omega) (by decide)).mp k; omega
      rw [if_neg ca, if_neg ha0]
      by_cases cb : nx_ex nb = 0
      · have hM : nx_M nb = 0 := by unfold nx_M; rw [if_pos cb]
        rw [hM, nx_storeProduct0 _ _ _ _ _ _ _ (Or.inr ((nx_v0 (by decide)).mpr rfl)), if_pos cb, if_pos (show lN 0 = (0 : Int64) from rfl)]
        exact ly_gives0 ..
      · have hb0 : ¬ lN (2 ^ 55 + nx_fr nb) = (0 : Int64) := fun k => by have := (nb_eq (b := 0) (show 2 ^ 55 + nx_fr nb < 2 ^ 64 by omega) (by decide)).mp k; omega
        rw [if_neg cb, if_neg hb0, nx_storeProduct f u o p1 p4 hna hnb ca cb]
        have hE : ((nI (nx_ex na) + nI (nx_ex nb)) - (128 : Int32)).toInt = (nx_ex na : Int) + nx_ex nb - 128 := by
          rw [Int32.toInt_sub, Int32.toInt_add, nI_toInt (by omega), nI_toInt (by omega), show (128 : Int32).toInt = 128 by decide]
          simp only [Int.bmod_def]; omega
        have lo : 2 ^ 110 ≤ (2 ^ 55 + nx_fr na) * (2 ^ 55 + nx_fr nb) := by
          rw [show (2 : Nat) ^ 110 = 2 ^ 55 * 2 ^ 55 by decide]
          exact Nat.mul_le_mul (show 2 ^ 55 ≤ 2 ^ 55 + nx_fr na by omega) (show 2 ^ 55 ≤ 2 ^ 55 + nx_fr nb by omega)
        have hi : (2 ^ 55 + nx_fr na) * (2 ^ 55 + nx_fr nb) < 2 ^ 112 := Nat.lt_of_lt_of_le (Nat.mul_lt_mul'' (show 2 ^ 55 + nx_fr na < 2 ^ 56 by omega) (show 2 ^ 55 + nx_fr nb < 2 ^ 56 by omega)) (by decide)
        rw [xj_bnd_eq, xj_bnd_eq]
        rcases hsz with hz | hz
        · subst hz
          have h4a : na < 2 ^ 32 := by rcases h8a with k | k; exact absurd k (by decide); exact k
          have h4b : nb < 2 ^ 32 := by rcases h8b with k | k; exact absurd k (by decide); exact k
          have fa4 := ly_fr4 h4a
          have fb4 := ly_fr4 h4b
          obtain ⟨ta, hta⟩ : ∃ t, 2 ^ 55 + nx_fr na = t * 2 ^ 32 := ⟨(2 ^ 55 + nx_fr na) / 2 ^ 32, by omega⟩
          obtain ⟨tb, htb⟩ : ∃ t, 2 ^ 55 + nx_fr nb = t * 2 ^ 32 := ⟨(2 ^ 55 + nx_fr nb) / 2 ^ 32, by omega⟩
          have hab : (2 ^ 55 + nx_fr na) * (2 ^ 55 + nx_fr nb) = ta * tb * 2 ^ 64 := by
            rw [hta, htb, show (2 : Nat) ^ 64 = 2 ^ 32 * 2 ^ 32 by decide]; ac_rfl
          rw [if_pos rfl, show (32 : Int32) = nI 32 from rfl, nb_shr (by omega) (by decide), nb_shr (by omega) (by decide), lN_mul, show (2 ^ 55 + nx_fr na) / 2 ^ 32 = ta by omega, show (2 ^ 55 + nx_fr nb) / 2 ^ 32 = tb by omega]
          have hpw : ((nI (nx_ex na) + nI (nx_ex nb)) - (256 : Int32) - (48 : Int32)).toInt = ((nx_ex na : Int) + nx_ex nb - 128) - 191 + (15 : Nat) := by
            rw [ly_sT (ly_sT (ly_aT (nI_toInt (show nx_ex na < 2 ^ 31 by omega)) (nI_toInt (show nx_ex nb < 2 ^ 31 by omega)) (by omega) (by omega) (by omega) (by omega)) (show (256 : Int32).toInt = 256 by decide) (by omega) (by omega) (by omega) (by omega)) (show (48 : Int32).toInt = 48 by decide) (by omega) (by omega) (by omega) (by omega)]
            omega
          obtain ⟨n, hn, hb1, hb2⟩ := ly_bl (X := ta * tb) (by rw [hab] at lo; omega)
          have hnle := ly_bl_le hb1 (show ta * tb < 2 ^ 48 by rw [hab] at hi; omega)
          rw [hab]
          rw [xj_bnd_eq]
          exact ly_core f u o 4 p4 _ _ _ _ _ 0 0 _ 0 (s := 39) (p := 24) (N := ta * tb * 2 ^ 64) (D := 2 ^ 49) (T := 15) (n := n) (X := ta * tb) (Or.inl ⟨rfl, rfl, rfl⟩) (by decide) (by omega) hb1 hb2 hn (by omega) (Or.inr (by omega)) (by rw [if_pos (by omega)]) hE (by omega) (by omega) hpw rfl
        · subst hz
          rw [if_neg (by decide)]
          obtain ⟨e1, e2⟩ := ny_prod8 (x := 2 ^ 55 + nx_fr na) (y := 2 ^ 55 + nx_fr nb) (by omega) (by omega)
          rw [xj_bnd_eq, xj_bnd_eq, xj_bnd_eq, xj_bnd_eq, e1, e2]
          have hpw : ((nI (nx_ex na) + nI (nx_ex nb)) - (256 : Int32) - (112 : Int32) + (50 : Int32)).toInt = ((nx_ex na : Int) + nx_ex nb - 128) - 191 + (1 : Nat) := by
            rw [ly_aT (ly_sT (ly_sT (ly_aT (nI_toInt (show nx_ex na < 2 ^ 31 by omega)) (nI_toInt (show nx_ex nb < 2 ^ 31 by omega)) (by omega) (by omega) (by omega) (by omega)) (show (256 : Int32).toInt = 256 by decide) (by omega) (by omega) (by omega) (by omega)) (show (112 : Int32).toInt = 112 by decide) (by omega) (by omega) (by omega) (by omega)) (show (50 : Int32).toInt = 50 by decide) (by omega) (by omega) (by omega) (by omega)]
            omega
          generalize (2 ^ 55 + nx_fr na) * (2 ^ 55 + nx_fr nb) = P at *
          obtain ⟨n, hn, hb1, hb2⟩ := ly_bl (X := P / 2 ^ 50) (by omega)
          have hnle := ly_bl_le hb1 (show P / 2 ^ 50 < 2 ^ 62 by omega)
          have hnge := ly_bl_ge hb2 (show 2 ^ 60 ≤ P / 2 ^ 50 by omega)
          rw [xj_bnd_eq]
          exact ly_core f u o 8 p4 _ _ _ _ _ 0 0 _ _ (s := 7) (p := 56) (N := P) (D := 2 ^ 49) (T := 1) (n := n) (X := P / 2 ^ 50) (Or.inr ⟨rfl, rfl, rfl⟩) (by decide) (by omega) hb1 hb2 hn (by omega) (Or.inl (by omega)) rfl hE (by omega) (by omega) hpw rfl
  · rw [if_neg (fun c => h ((ly_ge ..).mp c)), if_neg h]; rfl
