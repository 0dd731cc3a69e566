theorem ny_qloop {p d : Nat} {q9 : (Nat → Int64) × Int32 × Int32 × Int32 × Int32 × Int64 × Int32 × Int32} (hq9 : q9.2.2.2.2.2.1 = lN d) (hd : d < 2 ^ 56) (hp : p ≤ 56) : ∀ (t n w r : Nat), t ≤ p + 2 → t < n → r < d →
    ∃ w' r', ml_Y_quotient_126 (nI p) q9 n (lN r) (lN w) (nI (p + 2 - t)) = (lN r', lN w', nI (p + 2)) ∧ w' * d + r' = (w * d + r) * 2 ^ t ∧ r' < d := by
  have hb : nI p + (2 : Int32) = nI (p + 2) := nI_add p 2
  intro t
  induction t with
  | zero =>
    intro n w r ht hn hr
    obtain ⟨n, rfl⟩ : ∃ n', n = n' + 1 := ⟨n - 1, by omega⟩
    refine ⟨w, r, ?_, by simp, hr⟩
    rw [ml_Y_quotient_126_s, hb, if_pos (by rw [nI_leI (by omega) (by omega)]; omega)]
    rfl
  | succ t ih =>
    intro n w r ht hn hr
    obtain ⟨n, rfl⟩ : ∃ n', n = n' + 1 := ⟨n - 1, by omega⟩
    have s1 : ∀ z, xj_shl (lN z) (1 : Int32) = lN (z * 2) := fun z => nb_shl z (k := 1) (by decide)
    rw [ml_Y_quotient_126_s, hb, if_neg (by rw [nI_leI (by omega) (by omega)]; omega)]
    simp only [xj_bnd_eq, hq9, s1]
    rw [show nI (p + 2 - (t + 1)) + (1 : Int32) = nI (p + 2 - t) by rw [nI_1]; congr 1; omega]
    by_cases hc : r * 2 < d
    · rw [if_pos ((nb_lt (by omega) (by omega)).mpr hc), if_pos ((nb_lt (by omega) (by omega)).mpr hc)]
      obtain ⟨w', r', e1, e2, e3⟩ := ih n (w * 2) (r * 2) (by omega) (by omega) hc
      refine ⟨w', r', e1, ?_, e3⟩
      have : w * 2 * d + r * 2 = (w * d + r) * 2 := by rw [Nat.add_mul]; congr 1; ac_rfl
      rw [e2, this, Nat.pow_succ]; ac_rfl
    · rw [if_neg (fun h => hc ((nb_lt (by omega) (by omega)).mp h)), if_neg (fun h => hc ((nb_lt (by omega) (by omega)).mp h)), lN_sub (by omega), lN_1]
      obtain ⟨w', r', e1, e2, e3⟩ := ih n (w * 2 + 1) (r * 2 - d) (by omega) (by omega) (by omega)
      refine ⟨w', r', e1, ?_, e3⟩
      have : (w * 2 + 1) * d + (r * 2 - d) = (w * d + r) * 2 := by
        rw [Nat.add_mul, Nat.add_mul, Nat.one_mul, show w * 2 * d = w * d * 2 by ac_rfl]; omega
      rw [e2, this, Nat.pow_succ]; ac_rfl
theorem nx_storeQuotient (f : Nat → Int64) (u o size to : Int32) {nx nd : Nat} (hnx : nx < 2 ^ 64) (hnd : nd < 2 ^ 64) (cx : nx_ex nx ≠ 0) (cd : nx_ex nd ≠ 0) :
    mf_X0_storeQuotient f u o size to (nx_v (decide (nx_sg nx ≠ 0)) (nx_M nx)) (nx_v (decide (nx_sg nd ≠ 0)) (nx_M nd)) = mf_X0_storeRounded f u o size to (if (if nx_sg nx = 0 then (0 : Int32) else 1) = (if nx_sg nd = 0 then (0 : Int32) else 1) then 0 else 1) (((nI (nx_ex nx) - nI (nx_ex nd)) + (128 : Int32)) + (1 : Int32)) (lN (nq_stk ((2 ^ 55 + nx_fr nx) * 2 ^ 62) (2 ^ 55 + nx_fr nd))) := by
  obtain ⟨a1, a2, a3⟩ := nx_M_ex hnx cx
  obtain ⟨b1, b2, b3⟩ := nx_M_ex hnd cd
  have hfa := nx_fr_lt hnx
  have hfb := nx_fr_lt hnd
  unfold mf_X0_storeQuotient
  rw [if_neg (fun h => a3 ((nx_v0 (nx_M_lt hnx)).mp h))]
  simp only [xj_eta3]
  simp only [xj_bnd_eq]
  rw [nx_significandOf (nx_M_lt hnx), nx_significandOf (nx_M_lt hnd), nx_exponentOf (nx_M_lt hnx), nx_exponentOf (nx_M_lt hnd), nx_sgn (nx_M_lt hnx) a3, nx_sgn (nx_M_lt hnd) b3, a1, a2, b1, b2, nx_wideQuotient (by omega) (by omega), ly_sgb (ly_sg2 nx) (ly_sg2 nd)]
theorem nx_storeQuotient0 (f : Nat → Int64) (u o size to : Int32) (y : Int64) : mf_X0_storeQuotient f u o size to 0 y = (4, (vp_updL f to.toNatClampNeg 0, u, 0)) := by
  unfold mf_X0_storeQuotient
  rw [if_pos rfl]; rfl
theorem ly_quotient (f : Nat → Int64) (u o mi xe : Int32) (bi : Int64) (fa cu p1 p2 p3 p4 : Int32) : ly_r (mf_Y_quotient f u o mi xe bi fa cu p1 p2 p3 p4) = mf_X0_quotient f u o p1 p2 p3 p4 := by
  unfold mf_Y_quotient mf_X0_quotient
  simp only [xj_eta8, xj_eta3]
  rw [ly_two, xj_bnd_eq]
  rw [show ∀ F : Int32 → Int32 × (Nat → Int64) × Int32 × Int32, xj_bnd (mf_X0_refusalOf f u o p1 p2 p3 p4) F = F (mf_X0_refusalOf f u o p1 p2 p3 p4) from fun F => rfl]
  by_cases h : mf_X0_refusalOf f u o p1 p2 p3 p4 = 0
  · rw [if_pos ((ly_ge ..).mpr h), if_pos h]
    have hsz := ly_size h
    obtain ⟨nd, hnd, h8d, hi1, hi2⟩ := ly_in f p2 hsz
    obtain ⟨nx, hnx, h8x, hj1, hj2⟩ := ly_in f p3 hsz
    have hxd := nx_ex_lt nd
    have hxx := nx_ex_lt nx
    have hfd := nx_fr_lt hnd
    have hfx := nx_fr_lt hnx
    have hz : ∀ (e : Nat), (if e = 0 then (1 : Int32) else 0) = 0 ↔ e ≠ 0 := by intro e; by_cases h : e = 0 <;> simp [h]
    have hz0 : ∀ b, nx_v b 0 = 0 := by decide
    rw [show mf_Y_in f u o mi xe bi fa cu p1 p2 = lN nd from hi1, xj_bnd_eq, ny_isZero hnd, xj_bnd_eq, ly_val u o hnd hi2, ly_val u o hnx hj2]
    rw [show ∀ (F : Int64 → Int32 × (Nat → Int64) × Int32 × Int32), xj_bnd (nx_v (decide (nx_sg nd ≠ 0)) (nx_M nd)) F = F (nx_v (decide (nx_sg nd ≠ 0)) (nx_M nd)) from fun F => rfl]
    by_cases cd : nx_ex nd = 0
    · have hM : nx_M nd = 0 := by unfold nx_M; rw [if_pos cd]
      rw [if_neg (fun k => (hz _).mp k cd), hM, hz0, if_pos rfl]; rfl
    · obtain ⟨_, _, b3⟩ := nx_M_ex hnd cd
      rw [if_pos ((hz _).mpr cd), if_neg (fun k => b3 ((nx_v0 (nx_M_lt hnd)).mp k))]
      rw [show ∀ (v : Int64) (F : Int64 → Int32 × (Nat → Int64) × Int32 × Int32), xj_bnd v F = F v from fun v F => rfl]
      rw [show mf_Y_in f u o mi xe bi fa cu p1 p3 = lN nx from hj1, xj_bnd_eq, ny_take f u o mi xe bi fa cu p1 hnx h8x, xj_bnd_eq]
      dsimp only
      rw [show mf_Y_in f u o (if nx_sg nx = 0 then 0 else 1) (nI (nx_ex nx)) (lN (if nx_ex nx = 0 then 0 else 2 ^ 55 + nx_fr nx)) fa cu p1 p2 = lN nd from hi1, xj_bnd_eq, ny_take f u o _ _ _ fa cu p1 hnd h8d, xj_bnd_eq]
      dsimp only
      by_cases cx : nx_ex nx = 0
      · have hM : nx_M nx = 0 := by unfold nx_M; rw [if_pos cx]
        rw [hM, hz0, nx_storeQuotient0, if_pos cx, if_pos (show lN 0 = (0 : Int64) from rfl)]
        exact ly_gives0 ..
      · have hx0 : ¬ lN (2 ^ 55 + nx_fr nx) = (0 : Int64) := fun k => by have := (nb_eq (b := 0) (show 2 ^ 55 + nx_fr nx < 2 ^ 64 by omega) (by decide)).mp k; omega
        rw [if_neg cx, if_neg cd, if_neg hx0, nx_storeQuotient f u o p1 p4 hnx hnd cx cd]
        obtain ⟨s, p, hs⟩ := ly_sp hsz
        have hp : p = 24 ∨ p = 56 := by rcases hs with ⟨_, _, b⟩ | ⟨_, _, b⟩ <;> omega
        have hmany : mf_Y_many p1 = nI p := by
          rcases hs with ⟨h1, h2, h3⟩ | ⟨h1, h2, h3⟩ <;> subst h1 h3 <;> rfl
        have hE : (((nI (nx_ex nx) - nI (nx_ex nd)) + (128 : Int32)) + (1 : Int32)).toInt = (nx_ex nx : Int) - nx_ex nd + 128 + 1 :=
          ly_aT (ly_aT (ly_sT (nI_toInt (by omega)) (nI_toInt (by omega)) (by omega) (by omega) (by omega) (by omega)) (show (128 : Int32).toInt = 128 by decide) (by omega) (by omega) (by omega) (by omega)) (show (1 : Int32).toInt = 1 by decide) (by omega) (by omega) (by omega) (by omega)
        have hpw : (((nI (nx_ex nx) - nI (nx_ex nd)) - nI p) - (2 : Int32)).toInt = (nx_ex nx : Int) - nx_ex nd - p - 2 :=
          ly_sT (ly_sT (ly_sT (nI_toInt (by omega)) (nI_toInt (by omega)) (by omega) (by omega) (by omega) (by omega)) (nI_toInt (by omega)) (by omega) (by omega) (by omega) (by omega)) (show (2 : Int32).toInt = 2 by decide) (by omega) (by omega) (by omega) (by omega)
        obtain ⟨a, ha⟩ : ∃ a, a = 2 ^ 55 + nx_fr nx := ⟨_, rfl⟩
        obtain ⟨d, hd⟩ : ∃ d, d = 2 ^ 55 + nx_fr nd := ⟨_, rfl⟩
        have hd0 : 0 < d := by omega
        rw [← ha, ← hd, hmany, xj_bnd_eq, pk_lDiv (by omega) hd0 (by omega), xj_bnd_eq, lN_mul, lN_sub (Nat.div_mul_le_self _ _), xj_bnd_eq]
        have hmod : a - a / d * d = a % d := by have := Nat.div_add_mod a d; rw [Nat.mul_comm] at this; omega
        rw [hmod]
        obtain ⟨w', r', e1, e2, e3⟩ := ny_qloop (p := p) (d := d) (q9 := (f, u, o, if nx_sg nd = 0 then 0 else 1, nI (nx_ex nd), lN d, fa, cu)) rfl (by omega) (by omega) (p + 2) 59 (a / d) (a % d) (by omega) (by omega) (Nat.mod_lt _ hd0)
        rw [show nI (p + 2 - (p + 2)) = (0 : Int32) by rw [Nat.sub_self]; rfl] at e1
        rw [e1, xj_bnd_eq]
        dsimp only
        have hdm : a / d * d + a % d = a := by rw [Nat.mul_comm]; exact Nat.div_add_mod a d
        rw [hdm] at e2
        have hw : w' = a * 2 ^ (p + 2) / d := by
          rw [← e2, Nat.mul_comm w', Nat.mul_add_div hd0, Nat.div_eq_of_lt e3, Nat.add_zero]
        have hr : r' = a * 2 ^ (p + 2) % d := by
          rw [← e2, Nat.mul_comm w', Nat.mul_add_mod, Nat.mod_eq_of_lt e3]
        have hr0 : (if lN r' = (0 : Int64) then (0 : Int32) else (1 : Int32)) = if r' = 0 then 0 else 1 := by
          simp only [show (lN r' = (0 : Int64)) ↔ r' = 0 from nb_eq (b := 0) (by omega) (by decide)]
        rw [xj_bnd_eq, hr0, xj_bnd_eq, xj_bnd_eq]
        obtain ⟨T, hT⟩ : ∃ T, T + p = 60 := ⟨60 - p, by omega⟩
        have hN : a * 2 ^ 62 = a * 2 ^ (p + 2) * 2 ^ T := by
          rw [Nat.mul_assoc, ← Nat.pow_add]; congr 2; omega
        have hT0 : 0 < 2 ^ T := Nat.two_pow_pos T
        have hX : w' = a * 2 ^ 62 / (d * 2 ^ T) := by rw [hw, hN, Nat.mul_div_mul_right _ _ hT0]
        have hM : a * 2 ^ 62 % (d * 2 ^ T) = r' * 2 ^ T := by rw [hN, Nat.mul_mod_mul_right, hr]
        have hMz : (a * 2 ^ 62 % (d * 2 ^ T) = 0) ↔ r' = 0 := by
          rw [hM]; constructor
          · intro k; rcases Nat.mul_eq_zero.mp k with k | k
            · exact k
            · omega
          · intro k; rw [k, Nat.zero_mul]
        have lo : 2 ^ (p + 1) ≤ w' := by
          rw [hw, Nat.le_div_iff_mul_le hd0]
          rw [show a * 2 ^ (p + 2) = 2 ^ (p + 1) * (2 * a) by rw [Nat.pow_succ 2 (p + 1)]; ac_rfl]
          exact Nat.mul_le_mul_left _ (by omega)
        have hi : w' < 2 ^ (p + 3) := by
          rw [hw, Nat.div_lt_iff_lt_mul hd0]
          rw [show 2 ^ (p + 3) * d = (2 * d) * 2 ^ (p + 2) by rw [Nat.pow_succ 2 (p + 2)]; ac_rfl]
          exact Nat.mul_lt_mul_of_pos_right (by omega) (Nat.two_pow_pos _)
        obtain ⟨n, hn, hb1, hb2⟩ := ly_bl (X := w') (by have := Nat.two_pow_pos (p + 1); omega)
        have hnle := ly_bl_le hb1 hi
        have hnge := ly_bl_ge hb2 lo
        exact ly_core f u o p1 p4 _ _ _ _ _ 0 0 _ _ (N := a * 2 ^ 62) (D := d) (T := T) (n := n) (X := w') hs hd0 hX hb1 hb2 hn (by omega) (Or.inl (by omega)) (by simp only [hMz]) hE (by omega) (by omega) (by rw [hpw]; omega) rfl
  · rw [if_neg (fun c => h ((ly_ge ..).mp c)), if_neg h]; rfl
