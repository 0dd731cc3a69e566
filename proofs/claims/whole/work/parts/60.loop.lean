set_option maxHeartbeats 8000000 in
set_option maxRecDepth 100000 in
theorem lx_loop {p : Program} {l : Launch} {e : Env} {s : State} {m : MethodId} {below : List Frame} {meth : Method} {c : Code} {dC : Nat → ClassId} {dI : Nat → Nat → Nat} {b L : Nat} {xs : Nat → Int32} (hL : L ≤ 3072) (C0 : lw_At p s m meth c b L xs) (h0 h_f : Nat) (cA_f : ClassId) (k0 k_g : Nat) (cB_g : ClassId) (hK : va_K (dC, dI) vwCl [(cA_f, .long), (cB_g, .long)] s) :
    ∀ (n i : Nat) (x3 : Int32), i ≤ L → L + 1 ≤ i + n → x3 = nI i → ∀ (sx : (Nat → Int64) × Int32 × Int32) (sm : (Nat → Int64) × Int32 × Int32 × Int32 × Int32 × Int64 × Int32 × Int32), lx_R sx sm → ∀ (H : Heap) (locs : List Loc), va_P (dC, dI) vwCl (mw_X0 h0 h_f cA_f sx ++ mw_Y k0 k_g cB_g sm) H → va_D (fun q : Nat => s.heap.size ≤ q) (mw_X0 h0 h_f cA_f sx ++ mw_Y k0 k_g cB_g sm) → va_S (fun q : Nat => s.heap.size ≤ q) s.heap H locs → ∀ (ls : Array Slot), lv_has ls 4 [(0, .ref b), (1, .ref h0), (2, .ref k0), (3, .int x3)] → W p l e room_1 s m #[Value.ref b] below meth c H locs 4 27 (lw_Z below #[Value.ref b] s) (F0 m 18 ls []) := by
  obtain ⟨hx, hb, hr, hml, hown, hts, hX, hbl, hlocks, hgv⟩ := id C0
  have hbA : ¬ (fun q : Nat => s.heap.size ≤ q) b := Nat.not_le.mpr hbl
  intro n
  induction n with
  | zero =>
    intro i x3 h1 h2
    exact absurd h2 (by omega)
  | succ n ih =>
    intro i x3 hi hin ex3 sx sm hR H locs hP hD hS ls hl
    refine lv_iload_n hx hb dL_law_18 rfl (lv_at hl 3 rfl) ?_
    refine lv_aload_n hx hb dL_law_19 rfl (lv_at hl 0 rfl) ?_
    refine va_slen hx hb hX hbl hbA hS dL_law_20 ?_
    refine lv_bipush (v := (6 : Int32)) hx hb dL_law_21 (by decide) ?_
    refine lv_isub hx hb dL_law_23 ?_
    have e6 : (Int32.ofNat L - (6 : Int32)).toInt = (L : Int) - 6 := by
      rw [Int32.toInt_sub, show (Int32.ofNat L).toInt = (L : Int) from nI_toInt (by omega), show (6 : Int32).toInt = 6 from by decide]
      apply Int.bmod_eq_of_le <;> omega
    refine lv_icmp_gt (tgt := 706) hx hb dL_law_24 (by decide) (fun c1 => ?_) (fun c1 => ?_)
    · refine lv_iconst (v := 1) hx hb dL_law_706 (by decide) ?_
      refine va_forget (fun q hq => hS.2.2 q hq) ?_
      exact lw_ret hx hb hr hlocks dL_law_707
    · have hi6 : i + 5 < L := by
        rw [Int32.lt_iff_toInt_lt, e6, ex3, nI_toInt (by omega)] at c1
        omega
      have hvi : vp_in x3 L := by rw [ex3]; exact vp_in_nI (by omega) (by omega)
      refine lv_aload_n hx hb dL_law_27 rfl (lv_at hl 0 rfl) ?_
      refine lv_iload_n hx hb dL_law_28 rfl (lv_at hl 3 rfl) ?_
      refine va_sld hx hb hX hbl hbA hS hvi dL_law_29 ?_
      refine lv_bipush (v := (15 : Int32)) hx hb dL_law_30 (by decide) ?_
      refine lv_iand hx hb dL_law_32 ?_
      have K : ∀ (sx : (Nat → Int64) × Int32 × Int32) (sm : (Nat → Int64) × Int32 × Int32 × Int32 × Int32 × Int64 × Int32 × Int32), lx_R sx sm → ∀ (H : Heap) (locs : List Loc), va_P (dC, dI) vwCl (mw_X0 h0 h_f cA_f sx ++ mw_Y k0 k_g cB_g sm) H → va_D (fun q : Nat => s.heap.size ≤ q) (mw_X0 h0 h_f cA_f sx ++ mw_Y k0 k_g cB_g sm) → va_S (fun q : Nat => s.heap.size ≤ q) s.heap H locs → ∀ (ls : Array Slot), lv_has ls 4 [(0, .ref b), (1, .ref h0), (2, .ref k0), (3, .int x3)] → W p l e room_1 s m #[Value.ref b] below meth c H locs 4 27 (lw_Z below #[Value.ref b] s) (F0 m 700 ls []) := by
        intro sx sm hR H locs hP hD hS ls hl
        obtain ⟨y3, ey3⟩ : ∃ y : Int32, y = x3 + 6 := ⟨_, rfl⟩
        refine lv_iinc (v := y3) (lv' := [(3, .int y3), (0, .ref b), (1, .ref h0), (2, .ref k0)]) hx hb dL_law_700 hl (k := 3) rfl (by rw [ey3]; rfl) (by decide) rfl (fun ls hl => ?_)
        refine lv_goto (tgt := 18) hx hb dL_law_703 (by decide) ?_
        exact ih (i + 6) y3 (by omega) (by omega) (by rw [ey3, ex3]; exact nI_add i 6) sx sm hR _ _ hP hD hS ls (lv_sub hl [1, 2, 3, 0] rfl)
      obtain ⟨j, hj, ej⟩ := pk_andE (xs (Int32.toNatClampNeg x3)) (m := (15 : Int32)) 4 (by decide)
      rw [ej]
      obtain ⟨f', u', o', mi, xe, bi, fa, cu⟩ := sm
      obtain ⟨f, u, o⟩ := sx
      obtain ⟨hR1, hu, ho⟩ := id hR
      injection hR1 with r1 r2
      injection r2 with r2 r3
      dsimp only at r1 r2 r3 hu ho
      subst r1 r2 r3
      rcases (show j = 0 ∨ j = 1 ∨ j = 2 ∨ j = 3 ∨ j = 4 ∨ j = 5 ∨ j = 6 ∨ j = 7 ∨ j = 8 ∨ j = 9 ∨ j = 10 ∨ j = 11 ∨ j = 12 ∨ (12 < j ∧ j < 16) by omega) with rfl | rfl | rfl | rfl | rfl | rfl | rfl | rfl | rfl | rfl | rfl | rfl | rfl | hj2
      · refine lv_tableIn (off := 67) (tgt := 100) hx hb dL_law_33 (by decide) (by decide) (by decide) (by decide) ?_
        exact lx_case_set hL C0 h0 h_f cA_f k0 k_g cB_g hK _ _ _ mi xe bi fa cu hu ho i x3 ex3 hi6 K H locs hP hD hS _ hl
      · refine lv_tableIn (off := 130) (tgt := 163) hx hb dL_law_33 (by decide) (by decide) (by decide) (by decide) ?_
        exact lx_case_get hL C0 h0 h_f cA_f k0 k_g cB_g hK _ _ _ mi xe bi fa cu hu ho i x3 ex3 hi6 K H locs hP hD hS _ hl
      · refine lv_tableIn (off := 154) (tgt := 187) hx hb dL_law_33 (by decide) (by decide) (by decide) (by decide) ?_
        exact lx_case_under hL C0 h0 h_f cA_f k0 k_g cB_g hK _ _ _ mi xe bi fa cu hu ho i x3 ex3 hi6 K H locs hP hD hS _ hl
      · refine lv_tableIn (off := 191) (tgt := 224) hx hb dL_law_33 (by decide) (by decide) (by decide) (by decide) ?_
        exact lx_case_sum hL C0 h0 h_f cA_f k0 k_g cB_g hK _ _ _ mi xe bi fa cu hu ho i x3 ex3 hi6 K H locs hP hD hS _ hl
      · refine lv_tableIn (off := 244) (tgt := 277) hx hb dL_law_33 (by decide) (by decide) (by decide) (by decide) ?_
        exact lx_case_less hL C0 h0 h_f cA_f k0 k_g cB_g hK _ _ _ mi xe bi fa cu hu ho i x3 ex3 hi6 K H locs hP hD hS _ hl
      · refine lv_tableIn (off := 297) (tgt := 330) hx hb dL_law_33 (by decide) (by decide) (by decide) (by decide) ?_
        exact lx_case_product hL C0 h0 h_f cA_f k0 k_g cB_g hK _ _ _ mi xe bi fa cu hu ho i x3 ex3 hi6 K H locs hP hD hS _ hl
      · refine lv_tableIn (off := 350) (tgt := 383) hx hb dL_law_33 (by decide) (by decide) (by decide) (by decide) ?_
        exact lx_case_quotient hL C0 h0 h_f cA_f k0 k_g cB_g hK _ _ _ mi xe bi fa cu hu ho i x3 ex3 hi6 K H locs hP hD hS _ hl
      · refine lv_tableIn (off := 403) (tgt := 436) hx hb dL_law_33 (by decide) (by decide) (by decide) (by decide) ?_
        exact lx_case_negative hL C0 h0 h_f cA_f k0 k_g cB_g hK _ _ _ mi xe bi fa cu hu ho i x3 ex3 hi6 K H locs hP hD hS _ hl
      · refine lv_tableIn (off := 446) (tgt := 479) hx hb dL_law_33 (by decide) (by decide) (by decide) (by decide) ?_
        exact lx_case_compare hL C0 h0 h_f cA_f k0 k_g cB_g hK _ _ _ mi xe bi fa cu hu ho i x3 ex3 hi6 K H locs hP hD hS _ hl
      · refine lv_tableIn (off := 489) (tgt := 522) hx hb dL_law_33 (by decide) (by decide) (by decide) (by decide) ?_
        exact lx_case_change hL C0 h0 h_f cA_f k0 k_g cB_g hK _ _ _ mi xe bi fa cu hu ho i x3 ex3 hi6 K H locs hP hD hS _ hl
      · refine lv_tableIn (off := 532) (tgt := 565) hx hb dL_law_33 (by decide) (by decide) (by decide) (by decide) ?_
        exact lx_case_whole hL C0 h0 h_f cA_f k0 k_g cB_g hK _ _ _ mi xe bi fa cu hu ho i x3 ex3 hi6 K H locs hP hD hS _ hl
      · refine lv_tableIn (off := 611) (tgt := 644) hx hb dL_law_33 (by decide) (by decide) (by decide) (by decide) ?_
        exact lx_case_number hL C0 h0 h_f cA_f k0 k_g cB_g hK _ _ _ mi xe bi fa cu hu ho i x3 ex3 hi6 K H locs hP hD hS _ hl
      · refine lv_tableIn (off := 654) (tgt := 687) hx hb dL_law_33 (by decide) (by decide) (by decide) (by decide) ?_
        exact lx_case_lost hL C0 h0 h_f cA_f k0 k_g cB_g hK _ _ _ mi xe bi fa cu hu ho i x3 ex3 hi6 K H locs hP hD hS _ hl
      · refine lv_tableOut (tgt := 700) hx hb dL_law_33 (Or.inr (by rw [nI_toInt (by omega)]; omega)) (by decide) ?_
        exact K _ _ hR _ _ hP hD hS _ hl
