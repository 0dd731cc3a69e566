theorem nx_vT {s : Bool} {M : Nat} (h : M < 2 ^ 63) : (nx_v s M).toInt = if s then -(M : Int) else M := by
  unfold nx_v
  cases s with
  | false => simp only [Bool.false_eq_true, if_false]; exact pk_lT h
  | true => simp only [if_true]; exact nx_negT h
theorem nx_cmp (x y : Int64) : mf_X0_flagsOf (Int32.toInt64 (mf_J13_compare_74951 x y)) = if x.toInt < y.toInt then 8 else if x.toInt = y.toInt then 4 else 0 := by
  have h8 : mf_X0_flagsOf (Int32.toInt64 (-1)) = 8 := by decide +kernel
  have h4 : mf_X0_flagsOf (Int32.toInt64 0) = 4 := by decide +kernel
  have h0 : mf_X0_flagsOf (Int32.toInt64 1) = 0 := by decide +kernel
  have e : mf_J13_compare_74951 x y = if x.toInt < y.toInt then -1 else if x.toInt = y.toInt then 0 else 1 := by
    unfold mf_J13_compare_74951
    simp only [Int64.le_iff_toInt_le, ← Int64.toInt_inj]
    by_cases a : x.toInt < y.toInt
    · rw [if_pos a, if_neg (by omega)]
    · rw [if_neg a, if_pos (by omega)]
  rw [e]
  by_cases a : x.toInt < y.toInt
  · rw [if_pos a, if_pos a, h8]
  · rw [if_neg a, if_neg a]
    by_cases b : x.toInt = y.toInt
    · rw [if_pos b, if_pos b, h4]
    · rw [if_neg b, if_neg b, h0]
theorem ly_ref0 (f : Nat → Int64) (u o a b c : Int32) : mf_X0_refusalOf f u o a b c 0 = mf_X0_refusalOf f u o a b c b := by
  unfold mf_X0_refusalOf xj_bnd
  dsimp only
  have h0 : ¬ mf_X0_isRegister 0 = 0 := by decide +kernel
  by_cases h1 : mf_X0_isRegister b = 0
  · simp only [if_pos h1]
  · simp only [if_neg h1, if_neg h0]
theorem ly_compare (f : Nat → Int64) (u o mi xe : Int32) (bi : Int64) (fa cu p1 p2 p3 : Int32) : ly_r (mf_Y_compare f u o mi xe bi fa cu p1 p2 p3) = (mf_X0_compare f u o p1 p2 p3, (f, u, o)) := by
  unfold mf_Y_compare mf_X0_compare
  rw [ly_two, ly_ref0, xj_bnd_eq]
  rw [show ∀ F : Int32 → Int32, xj_bnd (mf_X0_refusalOf f u o p1 p2 p3 p2) F = F (mf_X0_refusalOf f u o p1 p2 p3 p2) from fun F => rfl]
  by_cases h : mf_X0_refusalOf f u o p1 p2 p3 p2 = 0
  · rw [if_pos ((ly_ge ..).mpr h), if_pos h]
    have hsz := ly_size h
    obtain ⟨na, hna, h8a, hi1, hi2⟩ := ly_in f p2 hsz
    obtain ⟨nb, hnb, h8b, hj1, hj2⟩ := ly_in f p3 hsz
    have hxa := nx_ex_lt na
    have hxb := nx_ex_lt nb
    have hfa := nx_fr_lt hna
    have hfb := nx_fr_lt hnb
    have hsa := ly_sg2 na
    have hsb := ly_sg2 nb
    rw [ly_val u o hna hi2, ly_val u o hnb hj2]
    rw [show mf_Y_in f u o mi xe bi fa cu p1 p2 = lN na from hi1, xj_bnd_eq, show mf_Y_in f u o mi xe bi fa cu p1 p3 = lN nb from hj1, xj_bnd_eq, ny_isZero hna, ny_isBelow hna, ny_isZero hnb, ny_isBelow hnb]
    simp only [xj_bnd_eq, nx_cmp, nx_vT (nx_M_lt hna), nx_vT (nx_M_lt hnb)]
    rw [ny_take f u o mi xe bi fa cu p1 hna h8a]
    dsimp only
    rw [ny_take f u o _ _ _ fa cu p1 hnb h8b]
    dsimp only
    simp only [nI_ltI (show nx_ex na < 2 ^ 31 by omega) (show nx_ex nb < 2 ^ 31 by omega), nI_eq (show nx_ex na < 2 ^ 31 by omega) (show nx_ex nb < 2 ^ 31 by omega)]
    have hMa : nx_M na = if nx_ex na = 0 then 0 else nx_ex na * 2 ^ 55 + nx_fr na := rfl
    have hMb : nx_M nb = if nx_ex nb = 0 then 0 else nx_ex nb * 2 ^ 55 + nx_fr nb := rfl
    by_cases ca : nx_ex na = 0
    · rw [if_pos ca] at hMa
      by_cases cb : nx_ex nb = 0
      · rw [if_pos cb] at hMb
        simp [ca, cb, hMa, hMb, ly_r]
      · rw [if_neg cb] at hMb
        rcases (show nx_sg nb = 0 ∨ nx_sg nb = 1 by omega) with y | y
        · have : (0 : Int) < (nx_M nb : Int) := by omega
          simp [ca, cb, hMa, y, ly_r, this]
          try (intro k; omega)
        · have h1 : ¬ (0 : Int) < -(nx_M nb : Int) := by omega
          have h2 : ¬ (0 : Int) = -(nx_M nb : Int) := by omega
          have h3 : ¬ (nx_M nb : Int) = 0 := by omega
          simp [ca, cb, hMa, y, ly_r, h1, h2, h3]
          try omega
    · rw [if_neg ca] at hMa
      by_cases cb : nx_ex nb = 0
      · rw [if_pos cb] at hMb
        rcases (show nx_sg na = 0 ∨ nx_sg na = 1 by omega) with x | x
        · have h1 : ¬ (nx_M na : Int) < 0 := by omega
          have h2 : ¬ (nx_M na : Int) = 0 := by omega
          simp [ca, cb, hMb, x, ly_r, h1, h2]
          try omega
        · have h1 : -(nx_M na : Int) < 0 := by omega
          simp [ca, cb, hMb, x, ly_r, h1]
          try omega
      · rw [if_neg cb] at hMb
        have e1 : (lN (2 ^ 55 + nx_fr na) = lN (2 ^ 55 + nx_fr nb)) ↔ nx_fr na = nx_fr nb := by rw [nb_eq (by omega) (by omega)]; omega
        have e2 : (lN (2 ^ 55 + nx_fr nb) ≤ lN (2 ^ 55 + nx_fr na)) ↔ nx_fr nb ≤ nx_fr na := by rw [nb_le (by omega) (by omega)]; omega
        simp only [if_neg ca, if_neg cb, e1, e2]
        have n1 : ¬ (1 : Int32) = -1 := by decide
        have n2 : ¬ (-1 : Int32) = 1 := by decide
        have n3 : ¬ (-1 : Int32) = 0 := by decide
        have n4 : ¬ (1 : Int32) ≤ -1 := by decide
        have n5 : (-1 : Int32) ≤ 1 := by decide
        have n6 : (-1 : Int32) ≤ 0 := by decide
        have n7 : ¬ (1 : Int32) ≤ 0 := by decide
        have n8 : ¬ (1 : Int32) = 0 := by decide
        have n9 : ¬ (0 : Int32) = 1 := by decide
        rcases (show nx_sg na = 0 ∨ nx_sg na = 1 by omega) with x | x <;> rcases (show nx_sg nb = 0 ∨ nx_sg nb = 1 by omega) with y | y
        · by_cases k2 : nx_ex na = nx_ex nb
          · by_cases k3 : nx_fr na = nx_fr nb
            · have l1 : ¬ (nx_M na : Int) < (nx_M nb : Int) := by omega
              have l2 : (nx_M na : Int) = (nx_M nb : Int) := by omega
              simp [x, y, n1, n2, n3, n4, n5, n6, n7, n8, n9, l1, l2, ly_r, k2, k3]
            · by_cases k4 : nx_fr nb ≤ nx_fr na
              · have l1 : ¬ (nx_M na : Int) < (nx_M nb : Int) := by omega
                have l2 : ¬ (nx_M na : Int) = (nx_M nb : Int) := by omega
                simp [x, y, n1, n2, n3, n4, n5, n6, n7, n8, n9, l1, l2, ly_r, k2, k3, k4]
              · have l1 : (nx_M na : Int) < (nx_M nb : Int) := by omega
                have l2 : ¬ (nx_M na : Int) = (nx_M nb : Int) := by omega
                simp [x, y, n1, n2, n3, n4, n5, n6, n7, n8, n9, l1, l2, ly_r, k2, k3, k4]
          · by_cases k1 : nx_ex na < nx_ex nb
            · have l1 : (nx_M na : Int) < (nx_M nb : Int) := by omega
              have l2 : ¬ (nx_M na : Int) = (nx_M nb : Int) := by omega
              simp [x, y, n1, n2, n3, n4, n5, n6, n7, n8, n9, l1, l2, ly_r, k1, k2]
            · have l1 : ¬ (nx_M na : Int) < (nx_M nb : Int) := by omega
              have l2 : ¬ (nx_M na : Int) = (nx_M nb : Int) := by omega
              simp [x, y, n1, n2, n3, n4, n5, n6, n7, n8, n9, l1, l2, ly_r, k1, k2]
        · have l1 : ¬ (nx_M na : Int) < -(nx_M nb : Int) := by omega
          have l2 : ¬ (nx_M na : Int) = -(nx_M nb : Int) := by omega
          simp [x, y, n1, n2, n3, n4, n5, n6, n7, n8, n9, l1, l2, ly_r]
        · have l1 : -(nx_M na : Int) < (nx_M nb : Int) := by omega
          simp [x, y, n1, n2, n3, n4, n5, n6, n7, n8, n9, l1, ly_r]
        · by_cases k2 : nx_ex na = nx_ex nb
          · by_cases k3 : nx_fr na = nx_fr nb
            · have l1 : ¬ -(nx_M na : Int) < -(nx_M nb : Int) := by omega
              have l2 : -(nx_M na : Int) = -(nx_M nb : Int) := by omega
              simp [x, y, n1, n2, n3, n4, n5, n6, n7, n8, n9, l1, l2, ly_r, k2, k3]
            · by_cases k4 : nx_fr nb ≤ nx_fr na
              · have l1 : -(nx_M na : Int) < -(nx_M nb : Int) := by omega
                have l2 : ¬ -(nx_M na : Int) = -(nx_M nb : Int) := by omega
                simp [x, y, n1, n2, n3, n4, n5, n6, n7, n8, n9, l1, l2, ly_r, k2, k3, k4]
              · have l1 : ¬ -(nx_M na : Int) < -(nx_M nb : Int) := by omega
                have l2 : ¬ -(nx_M na : Int) = -(nx_M nb : Int) := by omega
                simp [x, y, n1, n2, n3, n4, n5, n6, n7, n8, n9, l1, l2, ly_r, k2, k3, k4]
          · by_cases k1 : nx_ex na < nx_ex nb
            · have l1 : ¬ -(nx_M na : Int) < -(nx_M nb : Int) := by omega
              have l2 : ¬ -(nx_M na : Int) = -(nx_M nb : Int) := by omega
              simp [x, y, n1, n2, n3, n4, n5, n6, n7, n8, n9, l1, l2, ly_r, k1, k2]
            · have l1 : -(nx_M na : Int) < -(nx_M nb : Int) := by omega
              have l2 : ¬ -(nx_M na : Int) = -(nx_M nb : Int) := by omega
              simp [x, y, n1, n2, n3, n4, n5, n6, n7, n8, n9, l1, l2, ly_r, k1, k2]
  · rw [if_neg (fun c => h ((ly_ge ..).mp c)), if_neg h]; rfl
