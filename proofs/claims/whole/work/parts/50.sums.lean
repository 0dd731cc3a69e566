theorem ly_sum (f : Nat → Int64) (u o mi xe : Int32) (bi : Int64) (fa cu p1 p2 p3 p4 : Int32) : ly_r (mf_Y_sum f u o mi xe bi fa cu p1 p2 p3 p4) = mf_X0_sum f u o p1 p2 p3 p4 := by
  unfold mf_Y_sum mf_X0_sum
  simp only [xj_eta8, xj_eta3]
  simp only [xj_bnd_eq, ly_two, ly_ge]
  by_cases h : mf_X0_refusalOf f u o p1 p2 p3 p4 = 0
  · rw [if_pos h, if_pos h]
    have hsz := ly_size h
    obtain ⟨na, hna, h8a, hi1, hi2⟩ := ly_in f p3 hsz
    obtain ⟨nc, hnc, h8c, hj1, hj2⟩ := ly_in f p2 hsz
    rw [show mf_Y_in f u o mi xe bi fa cu p1 p3 = lN na from hi1, show mf_Y_in f u o mi xe bi fa cu p1 p2 = lN nc from hj1, ly_val u o hna hi2, ly_val u o hnc hj2]
    exact ly_added f u o p1 p4 mi xe bi fa cu hna hnc hsz h8a h8c rfl
  · rw [if_neg h, if_neg h]; rfl
theorem ly_bits_fr {sg ex fr : Nat} (h1 : sg < 2) (h2 : ex < 256) (h3 : fr < 2 ^ 55) : nx_fr (nx_bits sg ex fr) = fr := by
  have e0 : fr = fr / 2 ^ 48 * 2 ^ 48 + fr / 2 ^ 32 % 2 ^ 16 * 2 ^ 32 + fr / 2 ^ 16 % 2 ^ 16 * 2 ^ 16 + fr % 2 ^ 16 := by omega
  have ha : fr / 2 ^ 48 < 2 ^ 7 := by omega
  have hb : fr / 2 ^ 32 % 2 ^ 16 < 2 ^ 16 := by omega
  have hc : fr / 2 ^ 16 % 2 ^ 16 < 2 ^ 16 := by omega
  have hd : fr % 2 ^ 16 < 2 ^ 16 := by omega
  unfold nx_bits nx_fr
  generalize fr / 2 ^ 48 = a at e0 ha ⊢
  generalize fr / 2 ^ 32 % 2 ^ 16 = b at e0 hb ⊢
  generalize fr / 2 ^ 16 % 2 ^ 16 = c at e0 hc ⊢
  generalize fr % 2 ^ 16 = d at e0 hd ⊢
  have f1 : (sg * 2 ^ 15 + ex * 2 ^ 7 + a + b * 2 ^ 16 + c * 2 ^ 32 + d * 2 ^ 48) % 2 ^ 7 = a := by omega
  have f2 : (sg * 2 ^ 15 + ex * 2 ^ 7 + a + b * 2 ^ 16 + c * 2 ^ 32 + d * 2 ^ 48) / 2 ^ 16 % 2 ^ 16 = b := by
    rw [show (sg * 2 ^ 15 + ex * 2 ^ 7 + a + b * 2 ^ 16 + c * 2 ^ 32 + d * 2 ^ 48) / 2 ^ 16 = b + c * 2 ^ 16 + d * 2 ^ 32 by omega]; omega
  have f3 : (sg * 2 ^ 15 + ex * 2 ^ 7 + a + b * 2 ^ 16 + c * 2 ^ 32 + d * 2 ^ 48) / 2 ^ 32 % 2 ^ 16 = c := by
    rw [show (sg * 2 ^ 15 + ex * 2 ^ 7 + a + b * 2 ^ 16 + c * 2 ^ 32 + d * 2 ^ 48) / 2 ^ 32 = c + d * 2 ^ 16 by omega]; omega
  have f4 : (sg * 2 ^ 15 + ex * 2 ^ 7 + a + b * 2 ^ 16 + c * 2 ^ 32 + d * 2 ^ 48) / 2 ^ 48 = d := by omega
  rw [f1, f2, f3, f4]
  omega
theorem ly_bits4 {sg ex fr : Nat} (h1 : sg < 2) (h2 : ex < 256) (h3 : fr < 2 ^ 55) (h4 : fr % 2 ^ 32 = 0) : nx_bits sg ex fr < 2 ^ 32 := by
  unfold nx_bits
  have e1 : fr / 2 ^ 16 % 2 ^ 16 = 0 := by omega
  have e2 : fr % 2 ^ 16 = 0 := by omega
  rw [e1, e2]
  omega
theorem ly_less (f : Nat → Int64) (u o mi xe : Int32) (bi : Int64) (fa cu p1 p2 p3 p4 : Int32) : ly_r (mf_Y_less f u o mi xe bi fa cu p1 p2 p3 p4) = mf_X0_less f u o p1 p2 p3 p4 := by
  unfold mf_Y_less mf_X0_less
  simp only [xj_eta8, xj_eta3]
  simp only [xj_bnd_eq, ly_two, ly_ge]
  by_cases h : mf_X0_refusalOf f u o p1 p2 p3 p4 = 0
  · rw [if_pos h, if_pos h]
    have hsz := ly_size h
    obtain ⟨na, hna, h8a, hi1, hi2⟩ := ly_in f p3 hsz
    obtain ⟨nc, hnc, h8c, hj1, hj2⟩ := ly_in f p2 hsz
    rw [show mf_Y_in f u o mi xe bi fa cu p1 p3 = lN na from hi1, show mf_Y_in f u o mi xe bi fa cu p1 p2 = lN nc from hj1, ly_val u o hna hi2, ly_val u o hnc hj2, ly_other hnc, nx_vneg]
    have hsg := ly_sg2 nc
    have hx := nx_ex_lt nc
    have hfr := nx_fr_lt hnc
    obtain ⟨n, hn⟩ : ∃ n, n = (if nx_ex nc = 0 then 0 else nx_bits (1 - nx_sg nc) (nx_ex nc) (nx_fr nc)) := ⟨_, rfl⟩
    rw [← hn]
    have hb : n < 2 ^ 64 ∧ (p1 = 8 ∨ n < 2 ^ 32) ∧ nx_v (!decide (nx_sg nc ≠ 0)) (nx_M nc) = nx_v (decide (nx_sg n ≠ 0)) (nx_M n) := by
      by_cases c : nx_ex nc = 0
      · rw [if_pos c] at hn
        subst hn
        have hz0 : ∀ b, nx_v b 0 = 0 := by decide
        have e1 : nx_M nc = 0 := by unfold nx_M; rw [if_pos c]
        have e2 : nx_M 0 = 0 := by decide
        rw [e1, e2, hz0, hz0]
        exact ⟨by decide, Or.inr (by decide), rfl⟩
      · rw [if_neg c] at hn
        have b1 := ly_bits_ex (sg := 1 - nx_sg nc) (by omega) hx hfr
        have b2 := ly_bits_sg (sg := 1 - nx_sg nc) (by omega) hx hfr
        have b3 := ly_bits_fr (sg := 1 - nx_sg nc) (by omega) hx hfr
        rw [← hn] at b1 b2 b3
        have e1 : nx_M n = nx_M nc := by unfold nx_M; rw [b1, b3]
        refine ⟨by rw [hn]; exact ly_bits_lt (by omega) hx hfr, ?_, ?_⟩
        · rcases h8c with k | k
          · exact Or.inl k
          · right; rw [hn]; exact ly_bits4 (by omega) hx hfr (ly_fr4 k)
        · rw [e1, b2]
          congr 1
          rcases (show nx_sg nc = 0 ∨ nx_sg nc = 1 by omega) with k | k <;> simp [k]
    obtain ⟨hn1, hn2, hn3⟩ := hb
    rw [hn3]
    exact ly_added f u o p1 p4 mi xe bi fa cu hna hn1 hsz h8a hn2 rfl
  · rw [if_neg h, if_neg h]; rfl
