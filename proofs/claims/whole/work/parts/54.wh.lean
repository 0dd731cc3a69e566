theorem nb_neg {a : Nat} (h : a ≤ 2 ^ 64) : -lN a = lN (2 ^ 64 - a) := by
  have h1 : lN (2 ^ 64 - a) + lN a = 0 := by
    rw [lN_add, show 2 ^ 64 - a + a = 2 ^ 64 by omega, nb_mod]; rfl
  generalize lN (2 ^ 64 - a) = x at h1 ⊢
  generalize lN a = y at h1 ⊢
  grind
theorem ly_kshl {a b u : Nat} (hu : u = 56 ∨ u = 48 ∨ u = 32) (h : a % 2 ^ 32 = b % 2 ^ 32) : xj_shl (lN a) (nI u) = xj_shl (lN b) (nI u) := by
  rw [nb_shl _ (by omega), nb_shl _ (by omega), nb_mod (a * 2 ^ u), nb_mod (b * 2 ^ u)]
  congr 1
  rcases hu with rfl | rfl | rfl <;> omega
theorem nb_shrT (x : Int64) {k : Nat} (hk : k < 64) : (xj_shr x (nI k)).toInt = x.toInt / 2 ^ k := by
  unfold xj_shr
  rw [nb_c k hk]
  have hD : ((lN k).toBitVec.smod 64).toNat = k := by
    rw [nb_tb, nb_sm k hk, BitVec.toNat_ofNat, Nat.mod_eq_of_lt (by omega)]
  have e : (x >>> lN k).toInt = x.toInt >>> k := by
    conv => rhs; rw [← hD]
    exact BitVec.toInt_sshiftRight ..
  rw [e, Int.shiftRight_eq_div_pow]
  rfl
theorem ly_kept {x : Int64} {u : Nat} (hu : u = 56 ∨ u = 48 ∨ u = 32) : -2 ^ 31 ≤ (xj_shr x (nI u)).toInt ∧ (xj_shr x (nI u)).toInt < 2 ^ 31 := by
  have h1 := Int64.le_toInt x
  have h2 := Int64.toInt_lt x
  rw [nb_shrT x (by omega)]
  rcases hu with rfl | rfl | rfl <;> omega
theorem ly_fl (k : Int64) (z : Int32) : mf_X0_flagsOf k ||| z = (((if (0 : Int64) ≤ k then (0 : Int32) else (8 : Int32)) ||| (if k = (0 : Int64) then (4 : Int32) else (0 : Int32))) ||| z) := by
  have z6 : (0 : Int64).toInt = 0 := by decide
  unfold mf_X0_flagsOf
  by_cases c : k = 0
  · subst c; rw [if_pos rfl, if_pos rfl, if_pos (by decide)]; rfl
  · rw [if_neg c, if_neg c]
    by_cases d : (0 : Int64) ≤ k
    · rw [if_pos d]; rfl
    · rw [if_neg d]; rfl
/-- one whole number: class and reference answer and keep the same -/
theorem ly_wcore {E E' : Int64} {far : Int32} {u : Nat} (hu : u = 56 ∨ u = 48 ∨ u = 32) (h : (E = E' ∧ far = 0) ∨ (xj_shl E (nI u) = xj_shl E' (nI u) ∧ (E.toInt < -2 ^ 31 ∨ 2 ^ 31 ≤ E.toInt) ∧ (far = 0 → (E'.toInt < -2 ^ 31 ∨ 2 ^ 31 ≤ E'.toInt)))) :
    xj_shr (xj_shl E (nI u)) (nI u) = xj_shr (xj_shl E' (nI u)) (nI u) ∧ (if xj_shr (xj_shl E (nI u)) (nI u) = E then (0 : Int32) else 2) = (if far = 0 then (if xj_shr (xj_shl E' (nI u)) (nI u) = E' then (0 : Int32) else 2) else 2) := by
  rcases h with ⟨h1, h2⟩ | ⟨h1, h2, h3⟩
  · subst h1; rw [if_pos h2]; exact ⟨rfl, rfl⟩
  · rw [h1]
    refine ⟨rfl, ?_⟩
    have hk := ly_kept (x := xj_shl E' (nI u)) hu
    generalize xj_shr (xj_shl E' (nI u)) (nI u) = K at *
    have n1 : ¬ K = E := by intro c; subst c; omega
    rw [if_neg n1]
    by_cases c : far = 0
    · have n2 : ¬ K = E' := by intro k; subst k; have := h3 c; omega
      rw [if_pos c, if_neg n2]
    · rw [if_neg c]
theorem ly_wy (d : Nat) (hd : 1 ≤ d) (z : Nat) : (z / 2 ^ (d - 1) + 1) / 2 = z / 2 ^ d + z / 2 ^ (d - 1) % 2 := by
  obtain ⟨k, rfl⟩ : ∃ k, d = k + 1 := ⟨d - 1, by omega⟩
  rw [Nat.add_sub_cancel, Nat.pow_succ, ← Nat.div_div_eq_div_mul]
  omega
theorem ly_whole (f : Nat → Int64) (u o mi xe : Int32) (bi : Int64) (fa cu p1 p2 p3 p4 p5 : Int32) : ly_r (mf_Y_whole f u o mi xe bi fa cu p1 p2 p3 p4 p5) = mf_X0_whole f u o p1 p2 p3 p4 p5 := by
  have hcl : ∀ (P Q : Int32 × (Nat → Int64) × Int32 × Int32), (if p3 = (1 : Int32) then P else (if p3 = (2 : Int32) then P else (if p3 = (4 : Int32) then P else Q))) = if (p3 = 1 ∨ p3 = 2 ∨ p3 = 4) then P else Q := by
    intro P Q
    by_cases a : p3 = 1
    · simp [a]
    · by_cases b : p3 = 2
      · simp [b]
      · by_cases c : p3 = 4 <;> simp [a, b, c]
  have hcl2 : ∀ (P Q : Int32 × (Nat → Int64) × Int32 × Int32 × Int32 × Int32 × Int64 × Int32 × Int32), (if p3 = (1 : Int32) then P else (if p3 = (2 : Int32) then P else (if p3 = (4 : Int32) then P else Q))) = if (p3 = 1 ∨ p3 = 2 ∨ p3 = 4) then P else Q := by
    intro P Q
    by_cases a : p3 = 1
    · simp [a]
    · by_cases b : p3 = 2
      · simp [b]
      · by_cases c : p3 = 4 <;> simp [a, b, c]
  unfold mf_Y_whole mf_X0_whole
  rw [ly_one, xj_bnd_eq]
  rw [show ∀ (a : Int32 × (Nat → Int64) × Int32 × Int32) (F : Int32 × (Nat → Int64) × Int32 × Int32 → Int32 × (Nat → Int64) × Int32 × Int32), xj_bnd a F = F a from fun _ _ => rfl]
  rw [hcl]
  rw [show ∀ (a : Int32 × (Nat → Int64) × Int32 × Int32 × Int32 × Int32 × Int64 × Int32 × Int32) (F : Int32 × (Nat → Int64) × Int32 × Int32 × Int32 × Int32 × Int64 × Int32 × Int32 → Int32 × (Nat → Int64) × Int32 × Int32 × Int32 × Int32 × Int64 × Int32 × Int32), xj_bnd a F = F a from fun _ _ => rfl]
  rw [hcl2]
  by_cases hn : p3 = 1 ∨ p3 = 2 ∨ p3 = 4
  · rw [if_pos hn, if_pos hn]
    rw [show ∀ (F : Int32 → Int32 × (Nat → Int64) × Int32 × Int32), xj_bnd (mf_X0_refusalOf f u o p1 p2 p2 p5) F = F (mf_X0_refusalOf f u o p1 p2 p2 p5) from fun _ => rfl]
    by_cases h : mf_X0_refusalOf f u o p1 p2 p2 p5 = 0
    · rw [if_pos h, if_neg (by rw [h]; decide), if_pos ((ly_ge ..).mpr h)]
      have hsz := ly_size h
      obtain ⟨n, hnn, h8, hi1, hi2⟩ := ly_in f p2 hsz
      have hx := nx_ex_lt n
      have hfr := nx_fr_lt hnn
      have hsg := ly_sg2 n
      obtain ⟨w, hw, hwu⟩ : ∃ w, (w = 56 ∨ w = 48 ∨ w = 32) ∧ (64 : Int32) - ((8 : Int32) * p3) = nI w := by
        rcases hn with k | k | k <;> subst k
        · exact ⟨56, Or.inl rfl, by decide⟩
        · exact ⟨48, Or.inr (Or.inl rfl), by decide⟩
        · exact ⟨32, Or.inr (Or.inr rfl), by decide⟩
      rw [ly_val u o hnn hi2]
      rw [show mf_Y_in f u o mi xe bi fa cu p1 p2 = lN n from hi1, xj_bnd_eq, ny_take f u o mi xe bi fa cu p1 hnn h8, xj_bnd_eq]
      dsimp only
      have hT8 : ((nI (nx_ex n) - (128 : Int32)) - (56 : Int32)).toInt = (nx_ex n : Int) - 128 - 56 :=
        ly_sT (ly_sT (nI_toInt (by omega)) (show (128 : Int32).toInt = 128 by decide) (by omega) (by omega) (by omega) (by omega)) (show (56 : Int32).toInt = 56 by decide) (by omega) (by omega) (by omega) (by omega)
      have z0 : (0 : Int32).toInt = 0 := by decide
      have hm0 : ((if nx_sg n = 0 then (0 : Int32) else 1) = 0) ↔ nx_sg n = 0 := by by_cases k : nx_sg n = 0 <;> simp [k]
      have hin : ∃ (E' : Int64) (far : Int32), ((mf_X0_wholeOf (nx_v (decide (nx_sg n ≠ 0)) (nx_M n)) p4 = E' ∧ far = 0) ∨ (xj_shl (mf_X0_wholeOf (nx_v (decide (nx_sg n ≠ 0)) (nx_M n)) p4) (nI w) = xj_shl E' (nI w) ∧ ((mf_X0_wholeOf (nx_v (decide (nx_sg n ≠ 0)) (nx_M n)) p4).toInt < -2 ^ 31 ∨ 2 ^ 31 ≤ (mf_X0_wholeOf (nx_v (decide (nx_sg n ≠ 0)) (nx_M n)) p4).toInt) ∧ (far = 0 → (E'.toInt < -2 ^ 31 ∨ 2 ^ 31 ≤ E'.toInt)))) ∧
          (if ((nI (nx_ex n) - (128 : Int32)) - (56 : Int32)) ≤ 0 then (0 : Int32) else (if lN (if nx_ex n = 0 then 0 else 2 ^ 55 + nx_fr n) = (0 : Int64) then (0 : Int32) else (1 : Int32))) = far ∧
          (if (if nx_sg n = 0 then (0 : Int32) else 1) = 0 then (if ((nI (nx_ex n) - (128 : Int32)) - (56 : Int32)) < 0 then (if ((nI (nx_ex n) - (128 : Int32)) - (56 : Int32)) < (-56 : Int32) then (0 : Int64) else (if p4 = 0 then (xj_shr (lN (if nx_ex n = 0 then 0 else 2 ^ 55 + nx_fr n)) (-((nI (nx_ex n) - (128 : Int32)) - (56 : Int32)))) else ((xj_shr (lN (if nx_ex n = 0 then 0 else 2 ^ 55 + nx_fr n)) (-((nI (nx_ex n) - (128 : Int32)) - (56 : Int32)))) + ((xj_shr (lN (if nx_ex n = 0 then 0 else 2 ^ 55 + nx_fr n)) ((-((nI (nx_ex n) - (128 : Int32)) - (56 : Int32))) - (1 : Int32))) &&& (1 : Int64))))) else (if ((nI (nx_ex n) - (128 : Int32)) - (56 : Int32)) ≤ (63 : Int32) then (xj_shl (lN (if nx_ex n = 0 then 0 else 2 ^ 55 + nx_fr n)) ((nI (nx_ex n) - (128 : Int32)) - (56 : Int32))) else (0 : Int64))) else (-(if ((nI (nx_ex n) - (128 : Int32)) - (56 : Int32)) < 0 then (if ((nI (nx_ex n) - (128 : Int32)) - (56 : Int32)) < (-56 : Int32) then (0 : Int64) else (if p4 = 0 then (xj_shr (lN (if nx_ex n = 0 then 0 else 2 ^ 55 + nx_fr n)) (-((nI (nx_ex n) - (128 : Int32)) - (56 : Int32)))) else ((xj_shr (lN (if nx_ex n = 0 then 0 else 2 ^ 55 + nx_fr n)) (-((nI (nx_ex n) - (128 : Int32)) - (56 : Int32)))) + ((xj_shr (lN (if nx_ex n = 0 then 0 else 2 ^ 55 + nx_fr n)) ((-((nI (nx_ex n) - (128 : Int32)) - (56 : Int32))) - (1 : Int32))) &&& (1 : Int64))))) else (if ((nI (nx_ex n) - (128 : Int32)) - (56 : Int32)) ≤ (63 : Int32) then (xj_shl (lN (if nx_ex n = 0 then 0 else 2 ^ 55 + nx_fr n)) ((nI (nx_ex n) - (128 : Int32)) - (56 : Int32))) else (0 : Int64))))) = E' := by
        have z6 : (0 : Int64).toInt = 0 := by decide
        have hz0 : ∀ b, nx_v b 0 = 0 := by decide
        have hw0 : mf_X0_wholeOf 0 p4 = 0 := by unfold mf_X0_wholeOf; rw [if_pos rfl]
        have c56 : (-56 : Int32).toInt = -56 := by decide
        have c63 : (63 : Int32).toInt = 63 := by decide
        have hWg : ∀ y8 : Int32, y8 = ((nI (nx_ex n) - (128 : Int32)) - (56 : Int32)) → nx_ex n ≠ 0 → mf_X0_wholeOf (nx_v (decide (nx_sg n ≠ 0)) (nx_M n)) p4 = (if nx_sg n = 0 then mf_X0_wholeSize (lN (2 ^ 55 + nx_fr n)) y8 p4 else -mf_X0_wholeSize (lN (2 ^ 55 + nx_fr n)) y8 p4) := by
          intro y8 hy8 c0
          obtain ⟨a1, a2, a3⟩ := nx_M_ex hnn c0
          unfold mf_X0_wholeOf
          rw [if_neg (fun k => a3 ((nx_v0 (nx_M_lt hnn)).mp k))]
          simp only [xj_bnd_eq]
          rw [nx_exponentOf (nx_M_lt hnn), nx_significandOf (nx_M_lt hnn), a1, a2, ← hy8]
          by_cases k : nx_sg n = 0
          · rw [if_pos k, if_pos ((nx_vge (nx_M_lt hnn)).mpr (Or.inl (by simp [k])))]
          · rw [if_neg k, if_neg (fun c => by rcases (nx_vge (nx_M_lt hnn)).mp c with c | c; simp [k] at c; exact a3 c)]
        obtain ⟨y8, hy8⟩ : ∃ y8, y8 = ((nI (nx_ex n) - (128 : Int32)) - (56 : Int32)) := ⟨_, rfl⟩
        have hW := hWg y8 hy8
        rw [← hy8] at hT8 ⊢
        clear hWg hy8
        by_cases c0 : nx_ex n = 0
        · have hM : nx_M n = 0 := by unfold nx_M; rw [if_pos c0]
          refine ⟨0, 0, Or.inl ⟨by rw [hM, hz0]; exact hw0, rfl⟩, ?_, ?_⟩
          · rw [if_pos (by rw [Int32.le_iff_toInt_le, hT8, z0]; omega)]
          · have q1 : y8 < 0 := by rw [Int32.lt_iff_toInt_lt, hT8, z0]; omega
            have q2 : y8 < (-56 : Int32) := by rw [Int32.lt_iff_toInt_lt, hT8, c56]; omega
            rw [if_pos q1, if_pos q2]
            split <;> rfl
        · rw [hW c0]
          simp only [if_neg c0]
          obtain ⟨sg, hsig⟩ : ∃ sg, sg = 2 ^ 55 + nx_fr n := ⟨_, rfl⟩
          rw [← hsig]
          have hs1 : 2 ^ 55 ≤ sg := by omega
          have hs2 : sg < 2 ^ 56 := by omega
          have hsn : ¬ lN sg = (0 : Int64) := fun k => by have := (nb_eq (b := 0) (show sg < 2 ^ 64 by omega) (by decide)).mp k; omega
          by_cases hup : 184 ≤ nx_ex n
          · obtain ⟨k, hk⟩ : ∃ k, nx_ex n = 184 + k := ⟨nx_ex n - 184, by omega⟩
            have hk8 : y8.toInt = (k : Int) := by rw [hT8]; omega
            have hy : y8 = nI k := nx_ofT hk8 (by omega)
            have q1 : ¬ y8 < 0 := by rw [Int32.lt_iff_toInt_lt, hk8, z0]; omega
            rw [nx_wholeUp hs2 (by omega) hk8 p4, if_neg q1, if_neg hsn]
            obtain ⟨B, hB⟩ : ∃ B, B = (if k ≤ 63 then sg * 2 ^ k % 2 ^ 64 else 0) := ⟨_, rfl⟩
            have hBl : B < 2 ^ 64 := by rw [hB]; split <;> omega
            have hB32 : sg * 2 ^ k % 2 ^ 32 = B % 2 ^ 32 := by
              rw [hB]
              by_cases c : k ≤ 63
              · rw [if_pos c]; omega
              · rw [if_neg c, show k = (k - 32) + 32 by omega, Nat.pow_add, ← Nat.mul_assoc, Nat.mul_mod_left]
            have hBe : (if y8 ≤ (63 : Int32) then (xj_shl (lN sg) y8) else (0 : Int64)) = lN B := by
              rw [hB]
              by_cases c : k ≤ 63
              · rw [if_pos (by rw [Int32.le_iff_toInt_le, hk8, c63]; omega), if_pos c, hy, nb_shl _ (by omega)]; exact nb_mod _
              · rw [if_neg (by rw [Int32.le_iff_toInt_le, hk8, c63]; omega), if_neg c]; rfl
            rw [hBe]
            have hS : (2 ^ 55 + sg * 2 ^ k % 2 ^ 32) % 2 ^ 32 = B % 2 ^ 32 := by omega
            obtain ⟨A, hA⟩ : ∃ A, A = 2 ^ 55 + sg * 2 ^ k % 2 ^ 32 := ⟨_, rfl⟩
            rw [← hA] at hS ⊢
            have hA1 : 2 ^ 55 ≤ A ∧ A < 2 ^ 56 := by omega
            refine ⟨_, _, Or.inr ⟨?_, ?_, ?_⟩, rfl, rfl⟩
            · by_cases g : nx_sg n = 0
              · rw [if_pos g, if_pos (hm0.mpr g)]; exact ly_kshl hw hS
              · rw [if_neg g, if_neg (fun c => g (hm0.mp c)), nb_neg (by omega), nb_neg (by omega)]
                exact ly_kshl hw (by omega)
            · by_cases g : nx_sg n = 0
              · rw [if_pos g, pk_lT (by omega)]; omega
              · rw [if_neg g, nx_negT (by omega)]; omega
            · intro hf
              have hk0 : k = 0 := by
                by_cases c : y8 ≤ 0
                · rw [Int32.le_iff_toInt_le, hk8, z0] at c; omega
                · rw [if_neg c] at hf; exact absurd hf (by decide)
              have hBs : B = sg := by rw [hB, hk0, if_pos (by decide)]; omega
              rw [hBs]
              by_cases g : nx_sg n = 0
              · rw [if_pos (hm0.mpr g), pk_lT (by omega)]; omega
              · rw [if_neg (fun c => g (hm0.mp c)), nx_negT (by omega)]; omega
          · obtain ⟨d, hd⟩ : ∃ d, nx_ex n + d = 184 := ⟨184 - nx_ex n, by omega⟩
            have hk8 : y8.toInt = -(d : Int) := by rw [hT8]; omega
            have q1 : y8 < 0 := by rw [Int32.lt_iff_toInt_lt, hk8, z0]; omega
            have hyd : -y8 = nI d := nx_neg32 hk8 (by omega)
            rw [nx_wholeDown hs2 (by omega) (by omega) hk8 p4, if_pos q1, hyd]
            have hin2 : (if y8 < (-56 : Int32) then (0 : Int64) else (if p4 = 0 then (xj_shr (lN sg) (nI d)) else ((xj_shr (lN sg) (nI d)) + ((xj_shr (lN sg) ((nI d) - (1 : Int32))) &&& (1 : Int64))))) = lN (if p4 = 0 then sg / 2 ^ d else (sg / 2 ^ (d - 1) + 1) / 2) := by
              by_cases c : 56 < d
              · rw [if_pos (by rw [Int32.lt_iff_toInt_lt, hk8, c56]; omega)]
                have b1 : 2 ^ 56 ≤ 2 ^ (d - 1) := Nat.pow_le_pow_right (by decide) (by omega)
                have b2 : 2 ^ 56 ≤ 2 ^ d := Nat.pow_le_pow_right (by decide) (by omega)
                rw [Nat.div_eq_of_lt (show sg < 2 ^ d by omega), Nat.div_eq_of_lt (show sg < 2 ^ (d - 1) by omega)]
                split <;> rfl
              · rw [if_neg (by rw [Int32.lt_iff_toInt_lt, hk8, c56]; omega)]
                by_cases g : p4 = 0
                · rw [if_pos g, if_pos g, nb_shr (by omega) (by omega)]
                · rw [if_neg g, if_neg g, show (1 : Int32) = nI 1 from rfl, pk_sub (by omega), nb_shr (by omega) (by omega), nb_shr (by omega) (by omega), show (1 : Int64) = lN (2 ^ 1 - 1) from rfl, nb_mask (by have := Nat.div_le_self sg (2 ^ (d - 1)); omega) (by decide), lN_add, ly_wy d (by omega)]
            rw [hin2]
            refine ⟨_, _, Or.inl ⟨?_, ?_⟩, rfl, rfl⟩
            · by_cases g : nx_sg n = 0
              · rw [if_pos g, if_pos (hm0.mpr g)]
              · rw [if_neg g, if_neg (fun c => g (hm0.mp c))]
            · rw [if_pos (by rw [Int32.le_iff_toInt_le, hk8, z0]; omega)]
      obtain ⟨E', far, hE, hfar, hE'⟩ := hin
      simp only [xj_bnd_eq]
      rw [hfar, hE', hwu]
      obtain ⟨c1, c2⟩ := ly_wcore hw hE
      rw [ly_fl, c2, c1]
      rfl
    · rw [if_neg h]
      rcases ly_ref3 f u o p1 p2 p2 p5 with k | k | k
      · exact absurd k h
      · rw [k, if_pos rfl]; rfl
      · rw [if_neg (by rw [k]; decide), if_neg (by rw [k]; decide)]; rfl
  · rw [if_neg hn, if_neg hn]
    split <;> rfl
