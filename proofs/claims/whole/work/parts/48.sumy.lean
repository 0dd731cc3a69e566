theorem xj_eta8l (a : Int64 × (Nat → Int64) × Int32 × Int32 × Int32 × Int32 × Int64 × Int32 × Int32) : xj_bnd a (fun q => (q.1, (q.2.1, q.2.2.1, q.2.2.2.1, q.2.2.2.2.1, q.2.2.2.2.2.1, q.2.2.2.2.2.2.1, q.2.2.2.2.2.2.2.1, q.2.2.2.2.2.2.2.2))) = a := rfl
theorem ny_moved {y d : Nat} (h : y < 2 ^ 62) (hd : d ≤ 300) : (if nI d ≤ (62 : Int32) then (xj_shr (lN y) (nI d)) else (0 : Int64)) = lN (y / 2 ^ d) := by
  by_cases c : d ≤ 62
  · rw [if_pos (by rw [show (62 : Int32) = nI 62 from rfl, nI_leI (by omega) (by decide)]; exact c), nb_shr (by omega) (by omega)]
  · rw [if_neg (by rw [show (62 : Int32) = nI 62 from rfl, nI_leI (by omega) (by decide)]; exact c)]
    have : 2 ^ 62 ≤ 2 ^ d := Nat.pow_le_pow_right (by decide) (by omega)
    rw [Nat.div_eq_of_lt (by omega)]; rfl
theorem ny_more {y d : Nat} (h : y < 2 ^ 62) (h0 : 0 < y) (hd : d ≤ 300) : (if (62 : Int32) < nI d then (1 : Int32) else (if (xj_shl (lN (y / 2 ^ d)) (nI d)) = lN y then (0 : Int32) else (1 : Int32))) = if y % 2 ^ d = 0 then 0 else 1 := by
  by_cases c : 62 < d
  · rw [if_pos (by rw [show (62 : Int32) = nI 62 from rfl, nI_ltI (by decide) (by omega)]; exact c)]
    have : 2 ^ 62 ≤ 2 ^ d := Nat.pow_le_pow_right (by decide) (by omega)
    rw [if_neg (by rw [Nat.mod_eq_of_lt (by omega)]; omega)]
  · rw [if_neg (by rw [show (62 : Int32) = nI 62 from rfl, nI_ltI (by decide) (by omega)]; exact c), nb_shl _ (by omega)]
    have hdm := Nat.div_add_mod y (2 ^ d)
    have hle : y / 2 ^ d * 2 ^ d ≤ y := Nat.div_mul_le_self _ _
    have e : (lN (y / 2 ^ d * 2 ^ d) = lN y) ↔ y % 2 ^ d = 0 := by
      rw [nb_eq (by omega) (by omega), Nat.mul_comm]; omega
    simp only [e]
theorem ny_x {ma mc more : Int32} {A Q R : Nat} {same : Bool} (hs : (ma = mc) ↔ same = true) (hm : more = if R = 0 then 0 else 1) (hR : R ≤ 1) (hle : Q + R ≤ A) : (if ma = mc then (lN A + lN Q) else (xj_bnd (if more = 0 then (0 : Int64) else (1 : Int64)) (fun y26 => ((lN A - lN Q) - y26)))) = lN (if same then A + Q else A - Q - R) := by
  cases same with
  | true => rw [if_pos (hs.mpr rfl), lN_add]; rfl
  | false =>
    rw [if_neg (fun h => absurd (hs.mp h) (by decide)), xj_bnd_eq, hm]
    rcases (show R = 0 ∨ R = 1 by omega) with h | h
    · subst h
      rw [if_pos rfl, if_pos rfl, show (0 : Int64) = lN 0 from rfl, lN_sub (by omega), lN_sub (by omega)]; rfl
    · subst h
      rw [if_neg (by decide), if_neg (by decide), show (1 : Int64) = lN 1 from rfl, lN_sub (by omega), lN_sub (by omega)]
      first | done | rfl
theorem ny_added (f : Nat → Int64) (u o mi xe : Int32) (bi : Int64) (fa cu size : Int32) {s p T na nc : Nat} (hna : na < 2 ^ 64) (hnc : nc < 2 ^ 64) (hs : (size = 4 ∧ s = 39 ∧ p = 24) ∨ (size = 8 ∧ s = 7 ∧ p = 56)) (hT : T + p = 56) (h8a : size = 8 ∨ na < 2 ^ 32) (h8c : size = 8 ∨ nc < 2 ^ 32) (ca : nx_ex na ≠ 0) (cc : nx_ex nc ≠ 0) (nl ns : Nat)
    (hls : (nx_M na < nx_M nc ∧ nl = nc ∧ ns = na) ∨ (¬ nx_M na < nx_M nc ∧ nl = na ∧ ns = nc)) {same : Bool} (hsame : same = decide (nx_sg nl = nx_sg ns)) {tl ts d : Nat} (htl : 2 ^ 55 + nx_fr nl = tl * 2 ^ T) (hts : 2 ^ 55 + nx_fr ns = ts * 2 ^ T) (hd : nx_ex nl = nx_ex ns + d) (hle : ts * 2 ^ 6 / 2 ^ d + (if ts * 2 ^ 6 % 2 ^ d = 0 then 0 else 1) ≤ tl * 2 ^ 6) :
    mf_Y_added f u o mi xe bi fa cu size (lN na) (lN nc) = mf_Y_rounds f u o (if nx_sg nc = 0 then 0 else 1) (nI (nx_ex nc)) (lN (2 ^ 55 + nx_fr nc)) 0 0 size (if nx_sg nl = 0 then 0 else 1) (lN (if same then tl * 2 ^ 6 + ts * 2 ^ 6 / 2 ^ d else tl * 2 ^ 6 - ts * 2 ^ 6 / 2 ^ d - (if ts * 2 ^ 6 % 2 ^ d = 0 then 0 else 1))) (((nI (nx_ex nl) - (128 : Int32)) - nI p) - (6 : Int32)) (if ts * 2 ^ 6 % 2 ^ d = 0 then 0 else 1) := by
  have hp : (p = 24 ∧ T = 32) ∨ (p = 56 ∧ T = 0) := by rcases hs with ⟨_, _, b⟩ | ⟨_, _, b⟩ <;> omega
  have hxa := nx_ex_lt na
  have hxc := nx_ex_lt nc
  have hfa := nx_fr_lt hna
  have hfc := nx_fr_lt hnc
  have hy5 : mf_Y_many size = nI p := by
    rcases hs with ⟨h1, h2, h3⟩ | ⟨h1, h2, h3⟩ <;> subst h1 h3 <;> rfl
  have h56 : (56 : Int32) - nI p = nI T := by rw [show (56 : Int32) = nI 56 from rfl, pk_sub (by omega)]; congr 1; omega
  have hT0 : 0 < 2 ^ T := Nat.two_pow_pos T
  obtain ⟨ta, hta⟩ : ∃ ta, 2 ^ 55 + nx_fr na = ta * 2 ^ T := by
    rcases hls with ⟨_, h1, h2⟩ | ⟨_, h1, h2⟩
    · exact ⟨ts, by rw [← h2]; exact hts⟩
    · exact ⟨tl, by rw [← h1]; exact htl⟩
  obtain ⟨tc, htc⟩ : ∃ tc, 2 ^ 55 + nx_fr nc = tc * 2 ^ T := by
    rcases hls with ⟨_, h1, h2⟩ | ⟨_, h1, h2⟩
    · exact ⟨tl, by rw [← h1]; exact htl⟩
    · exact ⟨ts, by rw [← h2]; exact hts⟩
  have hta2 : ta < 2 ^ 56 := by rcases hp with ⟨_, rfl⟩ | ⟨_, rfl⟩ <;> omega
  have htc2 : tc < 2 ^ 56 := by rcases hp with ⟨_, rfl⟩ | ⟨_, rfl⟩ <;> omega
  have hta0 : 0 < ta := by rcases hp with ⟨_, rfl⟩ | ⟨_, rfl⟩ <;> omega
  have htc0 : 0 < tc := by rcases hp with ⟨_, rfl⟩ | ⟨_, rfl⟩ <;> omega
  have hy7 : xj_shr (lN (2 ^ 55 + nx_fr na)) ((56 : Int32) - nI p) = lN ta := by
    rw [h56, nb_shr (by omega) (by omega), hta, Nat.mul_div_cancel _ hT0]
  have hy9 : xj_shr (lN (2 ^ 55 + nx_fr nc)) ((56 : Int32) - nI p) = lN tc := by
    rw [h56, nb_shr (by omega) (by omega), htc, Nat.mul_div_cancel _ hT0]
  have hM : nx_M na < nx_M nc ↔ (nx_ex na < nx_ex nc ∨ (nx_ex nc = nx_ex na ∧ ta < tc)) := by
    unfold nx_M
    rw [if_neg ca, if_neg cc]
    rcases hp with ⟨_, rfl⟩ | ⟨_, rfl⟩ <;> omega
  have hy11 : (if nI (nx_ex na) < nI (nx_ex nc) then (1 : Int32) else (if nI (nx_ex nc) = nI (nx_ex na) then (if lN tc ≤ lN ta then (0 : Int32) else (1 : Int32)) else (0 : Int32))) = if nx_M na < nx_M nc then 1 else 0 := by
    simp only [nI_ltI (show nx_ex na < 2 ^ 31 by omega) (show nx_ex nc < 2 ^ 31 by omega), nI_eq (show nx_ex nc < 2 ^ 31 by omega) (show nx_ex na < 2 ^ 31 by omega), nb_le (show tc < 2 ^ 63 by omega) (show ta < 2 ^ 63 by omega), hM]
    by_cases a : nx_ex na < nx_ex nc
    · simp [a]
    · by_cases b : nx_ex nc = nx_ex na
      · by_cases e : tc ≤ ta
        · simp [b, e, show ¬ ta < tc by omega]
        · simp [b, e, show ta < tc by omega]
      · simp [a, b]
  have hR1 : (if ts * 2 ^ 6 % 2 ^ d = 0 then 0 else 1) ≤ 1 := by split <;> omega
  have hmR : (if ts * 2 ^ 6 % 2 ^ d = 0 then (0 : Int32) else 1) = if (if ts * 2 ^ 6 % 2 ^ d = 0 then 0 else 1) = 0 then 0 else 1 := by split <;> simp
  have hbool : ∀ a b : Nat, ((if a = 0 then (0 : Int32) else 1) = (if b = 0 then 0 else 1)) ↔ ((a = 0) ↔ (b = 0)) := by
    intro a b; by_cases h1 : a = 0 <;> by_cases h2 : b = 0 <;> simp [h1, h2]
  have hsa := ly_sg2 na
  have hsc := ly_sg2 nc
  have hz : ∀ (e : Nat), (if e = 0 then (1 : Int32) else 0) = 0 ↔ e ≠ 0 := by intro e; by_cases h : e = 0 <;> simp [h]
  unfold mf_Y_added
  rw [ny_isZero hna, xj_bnd_eq, if_pos ((hz _).mpr ca), ny_isZero hnc, xj_bnd_eq, if_pos ((hz _).mpr cc), hy5, xj_bnd_eq, ny_take f u o mi xe bi 0 0 size hna h8a, if_neg ca, xj_bnd_eq]
  dsimp only
  rw [hy7, xj_bnd_eq, ny_take f u o _ _ _ 0 0 size hnc h8c, if_neg cc, xj_bnd_eq]
  dsimp only
  rw [hy9, xj_bnd_eq, hy11]
  have h6 : ∀ t, t < 2 ^ 56 → xj_shl (lN t) (6 : Int32) = lN (t * 2 ^ 6) := fun t _ => by rw [show (6 : Int32) = nI 6 from rfl, nb_shl _ (by decide)]
  rcases hls with ⟨h, h1, h2⟩ | ⟨h, h1, h2⟩
  · subst h1 h2
    have e1 : tl = tc := Nat.eq_of_mul_eq_mul_right hT0 (htl.symm.trans htc)
    have e2 : ts = ta := Nat.eq_of_mul_eq_mul_right hT0 (hts.symm.trans hta)
    subst e1 e2
    have n1 : ¬ (1 : Int32) = 0 := by decide
    rw [if_pos h, xj_bnd_eq, if_neg n1, xj_bnd_eq, h6 _ htc2, xj_bnd_eq, if_neg n1, xj_bnd_eq, h6 _ hta2, xj_bnd_eq, if_neg n1, show nI (nx_ex nl) - nI (nx_ex ns) = nI d by rw [pk_sub (by omega)]; congr 1; omega, xj_bnd_eq, ny_moved (by omega) (by omega), xj_bnd_eq, ny_more (by omega) (by omega) (by omega), xj_bnd_eq, ny_x (same := same) (R := if ts * 2 ^ 6 % 2 ^ d = 0 then 0 else 1) (by rw [hbool, hsame]; simp; omega) hmR hR1 hle, xj_bnd_eq, if_neg n1, xj_bnd_eq, if_neg n1, xj_bnd_eq, xj_eta8l]
  · subst h1 h2
    have e1 : tl = ta := Nat.eq_of_mul_eq_mul_right hT0 (htl.symm.trans hta)
    have e2 : ts = tc := Nat.eq_of_mul_eq_mul_right hT0 (hts.symm.trans htc)
    subst e1 e2
    have n1 : (0 : Int32) = 0 := rfl
    rw [if_neg h, xj_bnd_eq, if_pos n1, xj_bnd_eq, h6 _ hta2, xj_bnd_eq, if_pos n1, xj_bnd_eq, h6 _ htc2, xj_bnd_eq, if_pos n1, show nI (nx_ex nl) - nI (nx_ex ns) = nI d by rw [pk_sub (by omega)]; congr 1; omega, xj_bnd_eq, ny_moved (by omega) (by omega), xj_bnd_eq, ny_more (by omega) (by omega) (by omega), xj_bnd_eq, ny_x (same := same) (R := if ts * 2 ^ 6 % 2 ^ d = 0 then 0 else 1) (by rw [hbool, hsame]; simp; omega) hmR hR1 hle, xj_bnd_eq, if_pos n1, xj_bnd_eq, if_pos n1, xj_bnd_eq, xj_eta8l]
