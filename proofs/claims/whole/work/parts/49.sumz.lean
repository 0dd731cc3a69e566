theorem ly_tau {n T : Nat} {size : Int32} {s p : Nat} (hn : n < 2 ^ 64) (hs : (size = 4 ∧ s = 39 ∧ p = 24) ∨ (size = 8 ∧ s = 7 ∧ p = 56)) (hT : T + p = 56) (h8 : size = 8 ∨ n < 2 ^ 32) : ∃ t, 2 ^ 55 + nx_fr n = t * 2 ^ T := by
  refine ⟨(2 ^ 55 + nx_fr n) / 2 ^ T, ?_⟩
  rcases hs with ⟨h1, h2, h3⟩ | ⟨h1, h2, h3⟩
  · have := ly_fr4 (show n < 2 ^ 32 by rcases h8 with c | c; rw [h1] at c; exact absurd c (by decide); exact c)
    have hT2 : T = 32 := by omega
    subst hT2; omega
  · have hT2 : T = 0 := by omega
    subst hT2; omega
theorem ly_pair (f : Nat → Int64) (u o size to mi xe : Int32) (bi : Int64) {s p T nl ns tl ts d : Nat} (hnl : nl < 2 ^ 64) (hns : ns < 2 ^ 64) (hs : (size = 4 ∧ s = 39 ∧ p = 24) ∨ (size = 8 ∧ s = 7 ∧ p = 56)) (hT : T + p = 56) (cl : nx_ex nl ≠ 0) (cs : nx_ex ns ≠ 0) (hM : nx_M ns ≤ nx_M nl) (htl : 2 ^ 55 + nx_fr nl = tl * 2 ^ T) (hts : 2 ^ 55 + nx_fr ns = ts * 2 ^ T) (hd : nx_ex nl = nx_ex ns + d)
    {q : Int64 × (Nat → Int64) × Int32 × Int32 × Int32 × Int32 × Int64 × Int32 × Int32} (hq : q = mf_Y_rounds f u o mi xe bi 0 0 size (if nx_sg nl = 0 then 0 else 1) (lN (if decide (nx_sg nl = nx_sg ns) then tl * 2 ^ 6 + ts * 2 ^ 6 / 2 ^ d else tl * 2 ^ 6 - ts * 2 ^ 6 / 2 ^ d - (if ts * 2 ^ 6 % 2 ^ d = 0 then 0 else 1))) (((nI (nx_ex nl) - (128 : Int32)) - nI p) - (6 : Int32)) (if ts * 2 ^ 6 % 2 ^ d = 0 then 0 else 1)) :
    ly_r (mf_Y_gives q.2.1 q.2.2.1 q.2.2.2.1 q.2.2.2.2.1 q.2.2.2.2.2.1 q.2.2.2.2.2.2.1 q.2.2.2.2.2.2.2.1 q.2.2.2.2.2.2.2.2 q.1 to) = nx_G f u o size to (decide (nx_sg nl ≠ 0)) (nx_M nl) (decide (nx_sg ns ≠ 0)) (nx_M ns) := by
  have hxl := nx_ex_lt nl
  have hxs := nx_ex_lt ns
  have hfl := nx_fr_lt hnl
  have hfs := nx_fr_lt hns
  have h2l := ly_sg2 nl
  have h2s := ly_sg2 ns
  obtain ⟨a1, a2, a3⟩ := nx_M_ex hnl cl
  obtain ⟨b1, b2, b3⟩ := nx_M_ex hns cs
  have hord : 0 < d ∨ 2 ^ 55 + nx_fr ns ≤ 2 ^ 55 + nx_fr nl := by
    unfold nx_M at hM
    rw [if_neg cl, if_neg cs] at hM
    omega
  have hp56 : p ≤ 56 := by omega
  have hpw : (((nI (nx_ex nl) - (128 : Int32)) - nI p) - (6 : Int32)).toInt = (nx_ex nl : Int) - 134 - p := by
    rw [Int32.toInt_sub, Int32.toInt_sub, Int32.toInt_sub, nI_toInt (by omega), nI_toInt (by omega), show (128 : Int32).toInt = 128 by decide, show (6 : Int32).toInt = 6 by decide]
    simp only [Int.bmod_def]
    omega
  rw [ly_sumc f u o size to (if nx_sg nl = 0 then 0 else 1) mi xe bi 0 0 _ _ (sl := 2 ^ 55 + nx_fr nl) (ss := 2 ^ 55 + nx_fr ns) (decide (nx_sg nl = nx_sg ns)) hs hT (by omega) (by omega) (by omega) (by omega) htl hts (by omega) (by omega) hord rfl hpw hq]
  unfold nx_G
  rw [a1, a2, b1, b2, show nI (nx_ex nl) - nI (nx_ex ns) = nI d by rw [pk_sub (by omega)]; congr 1; omega, nI_1, nx_shiftedDown (by omega) (by omega) (by omega)]
  have hb : (if (decide (nx_sg nl ≠ 0)) = true then (1 : Int32) else 0) = (if nx_sg nl = 0 then 0 else 1) := by
    by_cases k : nx_sg nl = 0 <;> simp [k]
  have hD : 0 < 2 ^ d := Nat.two_pow_pos d
  have hle : (2 ^ 55 + nx_fr ns) * 2 ^ 6 ≤ (2 ^ 55 + nx_fr nl) * 2 ^ 6 * 2 ^ d := by
    rcases Nat.eq_zero_or_pos d with c | c
    · subst c; omega
    · have h2 : 2 ≤ 2 ^ d := Nat.pow_le_pow_right (n := 2) (by decide) (show 1 ≤ d by omega)
      have := Nat.mul_le_mul_left ((2 ^ 55 + nx_fr nl) * 2 ^ 6) h2
      omega
  have hsub := (nq_sub (F := (2 ^ 55 + nx_fr nl) * 2 ^ 6) (by omega) hD hle).2
  rw [hb, lN_add, lN_sub hsub]
  congr 1
  have hiff : (decide (nx_sg nl ≠ 0) = decide (nx_sg ns ≠ 0)) ↔ nx_sg nl = nx_sg ns := by
    rcases (show nx_sg nl = 0 ∨ nx_sg nl = 1 by omega) with x | x <;> rcases (show nx_sg ns = 0 ∨ nx_sg ns = 1 by omega) with y | y <;> simp [x, y]
  by_cases k : nx_sg nl = nx_sg ns
  · rw [if_pos (by simp [k]), if_pos (hiff.mpr k)]
  · rw [if_neg (by simp [k]), if_neg (fun h => k (hiff.mp h))]
theorem ly_carry {tl ts d p : Nat} (h1 : 2 ^ (p - 1) ≤ tl) (h2 : ts < 2 ^ p) (hp : 1 ≤ p) (ho : 0 < d ∨ ts ≤ tl) : ts * 2 ^ 6 / 2 ^ d + (if ts * 2 ^ 6 % 2 ^ d = 0 then 0 else 1) ≤ tl * 2 ^ 6 := by
  rcases Nat.eq_zero_or_pos d with c | c
  · subst c
    rw [Nat.pow_zero, Nat.div_one, Nat.mod_one, if_pos rfl]
    omega
  · have h3 : 2 ≤ 2 ^ d := Nat.pow_le_pow_right (n := 2) (by decide) (show 1 ≤ d by omega)
    have h4 : ts * 2 ^ 6 / 2 ^ d ≤ ts * 2 ^ 6 / 2 := Nat.div_le_div_left h3 (by decide)
    have h5 : (if ts * 2 ^ 6 % 2 ^ d = 0 then 0 else 1) ≤ 1 := by split <;> omega
    have e : 2 ^ p = 2 * 2 ^ (p - 1) := by rw [← Nat.pow_succ']; congr 1; omega
    omega
theorem ly_added (f : Nat → Int64) (u o size to mi xe : Int32) (bi : Int64) (fa cu : Int32) {na nc : Nat} (hna : na < 2 ^ 64) (hnc : nc < 2 ^ 64) (hsz : size = 4 ∨ size = 8) (h8a : size = 8 ∨ na < 2 ^ 32) (h8c : size = 8 ∨ nc < 2 ^ 32)
    {q : Int64 × (Nat → Int64) × Int32 × Int32 × Int32 × Int32 × Int64 × Int32 × Int32} (hq : q = mf_Y_added f u o mi xe bi fa cu size (lN na) (lN nc)) :
    ly_r (mf_Y_gives q.2.1 q.2.2.1 q.2.2.2.1 q.2.2.2.2.1 q.2.2.2.2.2.1 q.2.2.2.2.2.2.1 q.2.2.2.2.2.2.2.1 q.2.2.2.2.2.2.2.2 q.1 to) = mf_X0_storeSum f u o size to (nx_v (decide (nx_sg na ≠ 0)) (nx_M na)) (nx_v (decide (nx_sg nc ≠ 0)) (nx_M nc)) := by
  have hz0 : ∀ b, nx_v b 0 = 0 := by decide
  have hM0 : ∀ n, nx_ex n = 0 → nx_M n = 0 := fun n h => by unfold nx_M; rw [if_pos h]
  have hz : ∀ (e : Nat), (if e = 0 then (1 : Int32) else 0) = 0 ↔ e ≠ 0 := by intro e; by_cases h : e = 0 <;> simp [h]
  have hwr : ∀ n, n < 2 ^ 64 → (size = 8 ∨ n < 2 ^ 32) → nx_ex n ≠ 0 → mf_X0_storeValue f u o size to (nx_v (decide (nx_sg n ≠ 0)) (nx_M n)) = ly_r (mf_Y_gives f u o mi xe bi 0 0 (lN n) to) := by
    intro n hn h8 c
    rw [ly_exact f u o size to _ hn hsz h8 c, ly_givesv f u o mi xe bi to hn, if_neg c]
    have h2 := ly_sg2 n
    have hb : (if (decide (nx_sg n ≠ 0)) = true then 1 else 0) = nx_sg n := by
      rcases (show nx_sg n = 0 ∨ nx_sg n = 1 by omega) with k | k <;> simp [k]
    rw [hb, ly_back hn]
    rcases (show nx_sg n = 0 ∨ nx_sg n = 1 by omega) with k | k <;> simp [k]
  by_cases ca : nx_ex na = 0
  · have e1 : mf_X0_storeSum f u o size to (nx_v (decide (nx_sg na ≠ 0)) (nx_M na)) (nx_v (decide (nx_sg nc ≠ 0)) (nx_M nc)) = mf_X0_storeValue f u o size to (nx_v (decide (nx_sg nc ≠ 0)) (nx_M nc)) := by
      rw [hM0 na ca, hz0]
      unfold mf_X0_storeSum
      rw [xj_bnd_eq, if_pos rfl, if_pos rfl, xj_bnd_eq, xj_eta3]
    rw [e1]
    unfold mf_Y_added at hq
    rw [ny_isZero hna, xj_bnd_eq, if_neg (fun h => (hz _).mp h ca), ny_isZero hnc, xj_bnd_eq] at hq
    by_cases cc : nx_ex nc = 0
    · rw [if_neg (fun h => (hz _).mp h cc)] at hq
      rw [hM0 nc cc, nx_storeValue0, hq]
      exact ly_gives0 ..
    · rw [if_pos ((hz _).mpr cc)] at hq
      rw [hwr nc hnc h8c cc, hq]
  · by_cases cc : nx_ex nc = 0
    · have e1 : mf_X0_storeSum f u o size to (nx_v (decide (nx_sg na ≠ 0)) (nx_M na)) (nx_v (decide (nx_sg nc ≠ 0)) (nx_M nc)) = mf_X0_storeValue f u o size to (nx_v (decide (nx_sg na ≠ 0)) (nx_M na)) := by
        rw [hM0 nc cc, hz0]
        have hn0 : ¬ nx_v (decide (nx_sg na ≠ 0)) (nx_M na) = 0 := fun h => (nx_M_ex hna ca).2.2 ((nx_v0 (nx_M_lt hna)).mp h)
        unfold mf_X0_storeSum
        rw [xj_bnd_eq, if_neg hn0, if_neg hn0, if_pos rfl, xj_bnd_eq, xj_eta3]
      rw [e1]
      unfold mf_Y_added at hq
      rw [ny_isZero hna, xj_bnd_eq, if_pos ((hz _).mpr ca), ny_isZero hnc, xj_bnd_eq, if_neg (fun h => (hz _).mp h cc)] at hq
      rw [hwr na hna h8a ca, hq]
    · obtain ⟨s, p, hs⟩ := ly_sp hsz
      obtain ⟨T, hT⟩ : ∃ T, T + p = 56 := ⟨56 - p, by rcases hs with ⟨_, _, b⟩ | ⟨_, _, b⟩ <;> omega⟩
      have hp : (p = 24 ∧ T = 32) ∨ (p = 56 ∧ T = 0) := by rcases hs with ⟨_, _, b⟩ | ⟨_, _, b⟩ <;> omega
      obtain ⟨ta, hta⟩ := ly_tau hna hs hT h8a
      obtain ⟨tc, htc⟩ := ly_tau hnc hs hT h8c
      have hfa := nx_fr_lt hna
      have hfc := nx_fr_lt hnc
      have hMa : nx_M na = nx_ex na * 2 ^ 55 + nx_fr na := by unfold nx_M; rw [if_neg ca]
      have hMc : nx_M nc = nx_ex nc * 2 ^ 55 + nx_fr nc := by unfold nx_M; rw [if_neg cc]
      have ba1 : 2 ^ (p - 1) ≤ ta := by rcases hp with ⟨rfl, rfl⟩ | ⟨rfl, rfl⟩ <;> omega
      have ba2 : ta < 2 ^ p := by rcases hp with ⟨rfl, rfl⟩ | ⟨rfl, rfl⟩ <;> omega
      have bc1 : 2 ^ (p - 1) ≤ tc := by rcases hp with ⟨rfl, rfl⟩ | ⟨rfl, rfl⟩ <;> omega
      have bc2 : tc < 2 ^ p := by rcases hp with ⟨rfl, rfl⟩ | ⟨rfl, rfl⟩ <;> omega
      have hp1 : 1 ≤ p := by omega
      rw [nx_ssum f u o size to _ _ (nx_M_lt hna) (nx_M_lt hnc) (nx_M_ex hna ca).2.2 (nx_M_ex hnc cc).2.2]
      by_cases h : nx_M na < nx_M nc
      · rw [if_pos h]
        obtain ⟨d, hd⟩ : ∃ d, nx_ex nc = nx_ex na + d := ⟨nx_ex nc - nx_ex na, by omega⟩
        have ho : 0 < d ∨ ta ≤ tc := by rcases hp with ⟨rfl, rfl⟩ | ⟨rfl, rfl⟩ <;> omega
        exact ly_pair f u o size to _ _ _ hnc hna hs hT cc ca (by omega) htc hta hd (hq.trans (ny_added f u o mi xe bi fa cu size hna hnc hs hT h8a h8c ca cc nc na (Or.inl ⟨h, rfl, rfl⟩) rfl htc hta hd (ly_carry bc1 ba2 hp1 ho)))
      · rw [if_neg h]
        obtain ⟨d, hd⟩ : ∃ d, nx_ex na = nx_ex nc + d := ⟨nx_ex na - nx_ex nc, by omega⟩
        have ho : 0 < d ∨ tc ≤ ta := by rcases hp with ⟨rfl, rfl⟩ | ⟨rfl, rfl⟩ <;> omega
        exact ly_pair f u o size to _ _ _ hna hnc hs hT ca cc (by omega) hta htc hd (hq.trans (ny_added f u o mi xe bi fa cu size hna hnc hs hT h8a h8c ca cc na nc (Or.inr ⟨h, rfl, rfl⟩) rfl hta htc hd (ly_carry ba1 bc2 hp1 ho)))
