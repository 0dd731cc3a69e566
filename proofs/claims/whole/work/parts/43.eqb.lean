/-! class and reference: whole numbers in, changes of size, signs -/
theorem ly_bl {X : Nat} (h : 0 < X) : ∃ n, 1 ≤ n ∧ 2 ^ (n - 1) ≤ X ∧ X < 2 ^ n := ⟨X.log2 + 1, by omega, by rw [Nat.add_sub_cancel]; exact Nat.log2_self_le (by omega), Nat.lt_log2_self⟩
theorem ly_bl_le {X n k : Nat} (h1 : 2 ^ (n - 1) ≤ X) (h2 : X < 2 ^ k) : n ≤ k := by
  rcases Nat.lt_or_ge k n with c | c
  · have := Nat.pow_le_pow_right (n := 2) (by decide) (show k ≤ n - 1 by omega)
    omega
  · exact c
theorem ly_bl_ge {X n k : Nat} (h1 : X < 2 ^ n) (h2 : 2 ^ k ≤ X) : k + 1 ≤ n := by
  rcases Nat.lt_or_ge k n with c | c
  · exact c
  · have := Nat.pow_le_pow_right (n := 2) (by decide) c
    omega
theorem ly_stk1 (N : Nat) : nq_stk N 1 = N := by rw [nq_stk_eq, if_pos (Nat.mod_one N), Nat.div_one]
theorem ly_l64 (p : Int32) : p.toInt64.toInt = p.toInt := Int32.toInt_toInt64 p
theorem ly_i32 (p : Int32) : -2 ^ 31 ≤ p.toInt ∧ p.toInt < 2 ^ 31 := ⟨Int32.le_toInt p, Int32.toInt_lt p⟩
theorem ly_ofI {x : Int64} {n : Nat} (h : x.toInt = (n : Int)) (hn : n < 2 ^ 63) : x = lN n := by rw [← Int64.toInt_inj, h, pk_lT hn]
theorem ly_negI {x : Int64} (h : -2 ^ 62 ≤ x.toInt) (h2 : x.toInt ≤ 2 ^ 62) : (-x).toInt = -x.toInt := by
  rw [Int64.toInt_neg]
  apply Int.bmod_eq_of_le <;> omega
/-- a step that only takes its pair apart and puts it together -/
theorem xj_eta8 (a : Int32 × (Nat → Int64) × Int32 × Int32 × Int32 × Int32 × Int64 × Int32 × Int32) : xj_bnd a (fun q => (q.1, (q.2.1, q.2.2.1, q.2.2.2.1, q.2.2.2.2.1, q.2.2.2.2.2.1, q.2.2.2.2.2.2.1, q.2.2.2.2.2.2.2.1, q.2.2.2.2.2.2.2.2))) = a := rfl
theorem xj_eta3 (a : Int32 × (Nat → Int64) × Int32 × Int32) : xj_bnd a (fun q => (q.1, (q.2.1, q.2.2.1, q.2.2.2))) = a := rfl
theorem ly_number (f : Nat → Int64) (u o mi xe : Int32) (bi : Int64) (fa cu p1 p2 p3 : Int32) : ly_r (mf_Y_number f u o mi xe bi fa cu p1 p2 p3) = mf_X0_number f u o p1 p2 p3 := by
  unfold mf_Y_number mf_X0_number
  simp only [xj_eta8, xj_eta3]
  simp only [xj_bnd_eq, ly_isSize, ly_isReg]
  by_cases h1 : mf_X0_isSize p1 = 0
  · rw [if_pos h1, if_pos h1]; rfl
  · rw [if_neg h1, if_neg h1]
    by_cases h2 : mf_X0_isRegister p3 = 0
    · rw [if_pos h2, if_pos h2]; rfl
    · rw [if_neg h2, if_neg h2]
      have hsz : p1 = 4 ∨ p1 = 8 := by
        unfold mf_X0_isSize at h1
        by_cases c1 : p1 = 4
        · exact Or.inl c1
        · by_cases c2 : p1 = 8
          · exact Or.inr c2
          · rw [if_neg c1, if_neg c2] at h1; exact absurd rfl h1
      obtain ⟨b1, b2⟩ := ly_i32 p2
      have e1 := ly_l64 p2
      have z : (0 : Int32).toInt = 0 := by decide
      have z6 : (0 : Int64).toInt = 0 := by decide
      obtain ⟨V, hV⟩ : ∃ V, V = p2.toInt.natAbs := ⟨_, rfl⟩
      have hy : (if 0 ≤ p2 then Int32.toInt64 p2 else -(Int32.toInt64 p2)) = lN V := by
        by_cases c : 0 ≤ p2
        · rw [if_pos c]; rw [Int32.le_iff_toInt_le, z] at c
          exact ly_ofI (by rw [e1]; omega) (by omega)
        · rw [if_neg c]; rw [Int32.le_iff_toInt_le, z] at c
          exact ly_ofI (by rw [ly_negI (by omega) (by omega), e1]; omega) (by omega)
      have hx : xj_abs (Int32.toInt64 p2) = lN V := by
        unfold xj_abs
        by_cases c : (0 : Int64) < Int32.toInt64 p2
        · rw [if_pos c]; rw [Int64.lt_iff_toInt_lt, z6, e1] at c
          exact ly_ofI (by rw [e1]; omega) (by omega)
        · rw [if_neg c]; rw [Int64.lt_iff_toInt_lt, z6, e1] at c
          exact ly_ofI (by rw [ly_negI (by omega) (by omega), e1]; omega) (by omega)
      rw [hy, hx]
      generalize (if 0 ≤ p2 then (0 : Int32) else (1 : Int32)) = below
      by_cases hV0 : V = 0
      · rw [hV0, show lN 0 = (0 : Int64) from rfl, ly_rounds0, nx_sr_zero]
        exact ly_gives0 f u o mi xe bi p3
      · obtain ⟨s, p, hs⟩ := ly_sp hsz
        obtain ⟨n, hn, hX1, hX2⟩ := ly_bl (show 0 < V by omega)
        have hle := ly_bl_le hX1 (show V < 2 ^ 32 by omega)
        have := ly_core f u o p1 p3 below 191 mi xe bi fa cu 0 0 (N := V) (D := 1) (T := 0) (e0 := 191) hs (by decide) (by simp) hX1 hX2 hn (by omega) (Or.inr (by simp [Nat.mod_one])) (by simp [Nat.mod_one]) (by decide) (by decide) (by decide) (by decide) rfl
        rw [ly_stk1] at this
        exact this
theorem nx_storeValue (f : Nat → Int64) (u o size to : Int32) (s : Bool) {M : Nat} (hM : M < 2 ^ 63) (h0 : M ≠ 0) : mf_X0_storeValue f u o size to (nx_v s M) = mf_X0_storeRounded f u o size to (if s then 1 else 0) (nI (M / 2 ^ 55)) (lN ((2 ^ 55 + M % 2 ^ 55) * 2 ^ 7)) := by
  unfold mf_X0_storeValue
  rw [if_neg (fun h => h0 ((nx_v0 hM).mp h))]
  simp only [xj_eta3]
  simp only [xj_bnd_eq]
  rw [nx_exponentOf hM, nx_significandOf hM, show (7 : Int32) = nI 7 from rfl, nb_shl _ (by decide)]
  have e : (if (0 : Int64) ≤ nx_v s M then (0 : Int32) else (1 : Int32)) = if s then 1 else 0 := by
    cases s with
    | false => rw [if_pos ((nx_vge hM).mpr (Or.inl rfl))]; rfl
    | true => rw [if_neg (fun h => by rcases (nx_vge hM).mp h with c | c; exact absurd c (by decide); exact h0 c)]; rfl
  rw [e]
theorem nx_storeValue0 (f : Nat → Int64) (u o size to : Int32) (s : Bool) : mf_X0_storeValue f u o size to (nx_v s 0) = (4, (vp_updL f to.toNatClampNeg 0, u, 0)) := by
  unfold mf_X0_storeValue
  rw [if_pos ((nx_v0 (by decide)).mpr rfl)]
  rfl
theorem nx_M_ex {n : Nat} (hn : n < 2 ^ 64) (h : nx_ex n ≠ 0) : nx_M n / 2 ^ 55 = nx_ex n ∧ nx_M n % 2 ^ 55 = nx_fr n ∧ nx_M n ≠ 0 := by
  have h1 := nx_fr_lt hn
  unfold nx_M
  rw [if_neg h]
  omega
theorem ly_change (f : Nat → Int64) (u o mi xe : Int32) (bi : Int64) (fa cu p1 p2 p3 : Int32) : ly_r (mf_Y_change f u o mi xe bi fa cu p1 p2 p3) = mf_X0_change f u o p1 p2 p3 := by
  unfold mf_Y_change mf_X0_change
  simp only [xj_eta8, xj_eta3]
  simp only [xj_bnd_eq, ly_one, ly_ge]
  by_cases h : mf_X0_refusalOf f u o p1 p2 p2 p3 = 0
  · rw [if_pos h, if_pos h]
    have hsz := ly_size h
    obtain ⟨n, hn, h8, hi1, hi2⟩ := ly_in f p2 hsz
    rw [show mf_Y_in f u o mi xe bi fa cu p1 p2 = lN n from hi1, ny_take f u o mi xe bi fa cu p1 hn h8, ly_val u o hn hi2]
    have hx := nx_ex_lt n
    have hfr := nx_fr_lt hn
    have h12 : (12 : Int32) - p1 = (if p1 = 4 then 8 else 4) := by rcases hsz with h | h <;> subst h <;> decide
    rw [h12]
    have hsz2 : (if p1 = (4 : Int32) then (8 : Int32) else (4 : Int32)) = 4 ∨ (if p1 = (4 : Int32) then (8 : Int32) else (4 : Int32)) = 8 := by split <;> simp
    generalize (if p1 = (4 : Int32) then (8 : Int32) else (4 : Int32)) = sz2 at hsz2
    by_cases c : nx_ex n = 0
    · have hM0 : nx_M n = 0 := by unfold nx_M; rw [if_pos c]
      rw [hM0, nx_storeValue0, if_pos c, show lN 0 = (0 : Int64) from rfl]
      dsimp only
      rw [ly_rounds0]
      exact ly_gives0 ..
    · obtain ⟨m1, m2, m3⟩ := nx_M_ex hn c
      rw [nx_storeValue f u o sz2 p3 _ (nx_M_lt hn) m3, m1, m2, if_neg c]
      dsimp only
      obtain ⟨s, p, hs⟩ := ly_sp hsz2
      have hb : (if (decide (nx_sg n ≠ 0)) = true then (1 : Int32) else 0) = (if nx_sg n = 0 then 0 else 1) := by
        by_cases d : nx_sg n = 0 <;> simp [d]
      rw [hb]
      have hT : ((nI (nx_ex n) - (128 : Int32)) - (56 : Int32)).toInt = (nx_ex n : Int) - 191 + (7 : Nat) := by
        rw [Int32.toInt_sub, Int32.toInt_sub, nI_toInt (by omega), show (128 : Int32).toInt = 128 by decide, show (56 : Int32).toInt = 56 by decide]
        simp only [Int.bmod_def]
        omega
      have := ly_core f u o sz2 p3 (if nx_sg n = 0 then 0 else 1) (nI (nx_ex n)) (if nx_sg n = 0 then 0 else 1) (nI (nx_ex n)) (lN (2 ^ 55 + nx_fr n)) fa cu ((nI (nx_ex n) - (128 : Int32)) - (56 : Int32)) 0 (N := (2 ^ 55 + nx_fr n) * 2 ^ 7) (D := 1) (T := 7) (n := 56) (X := 2 ^ 55 + nx_fr n) (e0 := nx_ex n) hs (by decide) (by omega) (by omega) (by omega) (by decide) (by decide) (Or.inr (by omega)) (by rw [if_pos (by omega)]) (nI_toInt (by omega)) (by omega) (by omega) hT rfl
      rw [ly_stk1] at this
      exact this
  · rw [if_neg h, if_neg h]; rfl
