def ml_X0_wideQuotient_9 (p2 : Int64) : Nat → Int64 → Int64 → Int32 → Int64 × Int64 × Int32
  | 0, v1, v2, v3 => (v1, v2, v3)
  | n + 1, v1, v2, v3 => (if (63 : Int32) ≤ v3 then (v1, v2, v3) else (xj_bnd (xj_shl v1 (1 : Int32)) (fun y6 => (xj_bnd (if v2 < p2 then y6 else (xj_bnd (v2 - p2) (fun y8 => (xj_bnd (y6 ||| (1 : Int64)) (fun y9 => y9))))) (fun y8 => (xj_bnd (if v2 < p2 then v2 else (xj_bnd (v2 - p2) (fun y8 => (xj_bnd (y6 ||| (1 : Int64)) (fun y9 => y8))))) (fun y9 => (xj_bnd (xj_shl y9 (1 : Int32)) (fun y10 => (xj_bnd (v3 + (1 : Int32)) (fun y11 => (ml_X0_wideQuotient_9 p2 n y8 y10 y11))))))))))))
theorem ml_X0_wideQuotient_9_s (p2 : Int64) (n : Nat) (v1 : Int64) (v2 : Int64) (v3 : Int32) : ml_X0_wideQuotient_9 p2 (n + 1) v1 v2 v3 = (if (63 : Int32) ≤ v3 then (v1, v2, v3) else (xj_bnd (xj_shl v1 (1 : Int32)) (fun y6 => (xj_bnd (if v2 < p2 then y6 else (xj_bnd (v2 - p2) (fun y8 => (xj_bnd (y6 ||| (1 : Int64)) (fun y9 => y9))))) (fun y8 => (xj_bnd (if v2 < p2 then v2 else (xj_bnd (v2 - p2) (fun y8 => (xj_bnd (y6 ||| (1 : Int64)) (fun y9 => y8))))) (fun y9 => (xj_bnd (xj_shl y9 (1 : Int32)) (fun y10 => (xj_bnd (v3 + (1 : Int32)) (fun y11 => (ml_X0_wideQuotient_9 p2 n y8 y10 y11)))))))))))) := rfl
def mf_X0_wideQuotient (p1 : Int64) (p2 : Int64) : Int64 := (xj_bnd (ml_X0_wideQuotient_9 p2 64 (0 : Int64) p1 (0 : Int32)) (fun q4 => (if q4.2.1 = (0 : Int64) then q4.1 else (q4.1 ||| (1 : Int64)))))
set_option maxHeartbeats 4000000 in
set_option maxRecDepth 100000 in
theorem mc_X0_wideQuotient (l : Launch) (p1 : Int64) (p2 : Int64) : xj_Pl l yX0_wideQuotient wsX0_wideQuotient ({ frames := 0, cells := 0, slots := 0, locals := 0 }) [.long p1, .long p2] (mf_X0_wideQuotient p1 p2) := by
  intro sz
  refine Met.ofW (cc := cX0_wideQuotient) (maxL := 9) (ret := (some .long)) (by decide) rfl ?_
  intro p e s m args below meth c s₁ B hml hv
  obtain ⟨rfl, hsz⟩ := hv
  have hx := B.exec
  have hb := B.bytes
  have hr := B.returns
  have hts := atoms_spec (ws := wsX0_wideQuotient) B.pre
  have hown : s.vm.findClass RX0 = some m.cls := findClass_of_methodNamed B.named
  have hlocks := B.notSynchronized
  subst hsz
  generalize hAe : va_A [] s.heap.size = A
  have hA : ∀ q : Nat, s.heap.size ≤ q → A q := fun q h => by rw [← hAe]; exact Or.inr h
  have hS : va_S A s.heap s.heap [] := va_S.rf
  generalize hT : mf_X0_wideQuotient p1 p2 = T
  have hF := hT.symm
  unfold mf_X0_wideQuotient at hF
  have hl := lv_entry ([.long p1, .long p2]) (n := 9) (Nat.le_of_ble_eq_true rfl)
  rw [lg_entry_eq]
  generalize (lg_sl ([.long p1, .long p2]) ++ List.replicate (9 - (lg_sl ([.long p1, .long p2])).length) Slot.unset).toArray = ls at hl ⊢
  have hl : lv_has ls 9 [(0, .long p1), (2, .long p2)] := hl
  refine lv_lload_n hx hb dX0_wideQuotient_0 rfl (lv_at hl 0 rfl) ?_
  refine lv_lstore (lv' := [(4, .long p1), (0, .long p1), (2, .long p2)]) hx hb dX0_wideQuotient_1 hl (by decide) rfl (fun ls hl => ?_)
  refine lv_lconst (v := (0 : Int64)) hx hb dX0_wideQuotient_3 (by decide) ?_
  refine lv_lstore (lv' := [(6, .long (0 : Int64)), (4, .long p1), (0, .long p1), (2, .long p2)]) hx hb dX0_wideQuotient_4 hl (by decide) rfl (fun ls hl => ?_)
  refine lv_iconst (v := (0 : Int32)) hx hb dX0_wideQuotient_6 (by decide) ?_
  refine lv_istore (lv' := [(8, .int (0 : Int32)), (6, .long (0 : Int64)), (4, .long p1), (0, .long p1), (2, .long p2)]) hx hb dX0_wideQuotient_7 hl (by decide) rfl (fun ls hl => ?_)
  obtain ⟨q4, eq4⟩ : ∃ z : Int64 × Int64 × Int32, z = (ml_X0_wideQuotient_9 p2 64 (0 : Int64) p1 (0 : Int32)) := ⟨_, rfl⟩
  replace hF := xj_bz hF eq4
  refine xj_join 53 (fun ls' st' => lv_has ls' 9 [(6, .long q4.1), (4, .long q4.2.1), (8, .int q4.2.2), (0, .long p1), (2, .long p2)] ∧ st' = []) ?_ (fun K53 => ?_)
  · rintro ls st ⟨hl, rfl⟩
    refine lv_lload hx hb dX0_wideQuotient_53 (lv_at hl 1 rfl) ?_
    refine lv_lconst (v := (0 : Int64)) hx hb dX0_wideQuotient_55 (by decide) ?_
    refine xj_l_eq (tgt := 67) hx hb dX0_wideQuotient_56 dX0_wideQuotient_57 (by decide) (fun c14 => ?_) (fun c14 => ?_)
    · replace hF := xj_t hF c14
      refine lv_lload hx hb dX0_wideQuotient_67 (lv_at hl 0 rfl) ?_
      exact W.lret (v := q4.1) hx hb hr (fun t ht hW => ⟨⟨_, (), rfl, hF.symm, trivial⟩, hS.F ht⟩) hS.2.2 dX0_wideQuotient_69
    · replace hF := xj_f hF c14
      refine lv_lload hx hb dX0_wideQuotient_60 (lv_at hl 0 rfl) ?_
      refine lv_lconst (v := (1 : Int64)) hx hb dX0_wideQuotient_62 (by decide) ?_
      refine lv_lor hx hb dX0_wideQuotient_63 ?_
      refine lv_goto (tgt := 69) hx hb dX0_wideQuotient_64 (by decide) ?_
      exact W.lret (v := (q4.1 ||| (1 : Int64))) hx hb hr (fun t ht hW => ⟨⟨_, (), rfl, hF.symm, trivial⟩, hS.F ht⟩) hS.2.2 dX0_wideQuotient_69
  · refine xj_loop 9 (fun n ls' st' => ∃ (v1 : Int64) (v2 : Int64) (v3 : Int32), q4 = ml_X0_wideQuotient_9 p2 n v1 v2 v3 ∧ (∃ k0 : Nat, v3 = nI k0 ∧ k0 ≤ 63 ∧ k0 + n = 64) ∧ lv_has ls' 9 [(6, .long v1), (4, .long v2), (8, .int v3), (0, .long p1), (2, .long p2)] ∧ st' = []) 64 ⟨(0 : Int64), p1, (0 : Int32), eq4, ⟨0, nI_0.symm, by omega, by omega⟩, lv_sub hl [1, 2, 0, 3, 4] rfl, rfl⟩ ?_ ?_
    · rintro n ih ls st ⟨v1, v2, v3, hq, ⟨k0, hk0, hk1, hk2⟩, hl, rfl⟩
      have hq := hq.trans (ml_X0_wideQuotient_9_s  p2 n v1 v2 v3)
      refine lv_iload hx hb dX0_wideQuotient_9 (lv_at hl 2 rfl) ?_
      refine lv_bipush (v := (63 : Int32)) hx hb dX0_wideQuotient_11 (by decide) ?_
      refine lv_icmp_ge (tgt := 53) hx hb dX0_wideQuotient_13 (by decide) (fun c5 => ?_) (fun c5 => ?_)
      · replace hq := xj_t hq c5
        subst hq
        exact K53 _ _ ⟨lv_sub hl [0, 1, 2, 3, 4] rfl, rfl⟩
      · replace hq := xj_f hq c5
        refine lv_lload hx hb dX0_wideQuotient_16 (lv_at hl 0 rfl) ?_
        refine lv_iconst (v := (1 : Int32)) hx hb dX0_wideQuotient_18 (by decide) ?_
        refine lv_lshl (v := (xj_shl v1 (1 : Int32))) hx hb dX0_wideQuotient_19 rfl ?_
        refine lv_topl (fun y6 ey6 => ?_)
        replace hq := xj_bz hq ey6
        refine lv_lstore (lv' := [(6, .long y6), (4, .long v2), (8, .int v3), (0, .long p1), (2, .long p2)]) hx hb dX0_wideQuotient_20 hl (by decide) rfl (fun ls hl => ?_)
        refine lv_lload hx hb dX0_wideQuotient_22 (lv_at hl 1 rfl) ?_
        refine lv_lload_n hx hb dX0_wideQuotient_24 rfl (lv_at hl 4 rfl) ?_
        obtain ⟨y8, ey8⟩ : ∃ z : Int64, z = (if v2 < p2 then y6 else (xj_bnd (v2 - p2) (fun y8 => (xj_bnd (y6 ||| (1 : Int64)) (fun y9 => y9))))) := ⟨_, rfl⟩
        replace hq := xj_bz hq ey8
        obtain ⟨y9, ey9⟩ : ∃ z : Int64, z = (if v2 < p2 then v2 else (xj_bnd (v2 - p2) (fun y8 => (xj_bnd (y6 ||| (1 : Int64)) (fun y9 => y8))))) := ⟨_, rfl⟩
        replace hq := xj_bz hq ey9
        refine xj_join 41 (fun ls' st' => lv_has ls' 9 [(6, .long y8), (4, .long y9), (8, .int v3), (0, .long p1), (2, .long p2)] ∧ st' = []) ?_ (fun K41 => ?_)
        · rintro ls st ⟨hl, rfl⟩
          refine lv_lload hx hb dX0_wideQuotient_41 (lv_at hl 1 rfl) ?_
          refine lv_iconst (v := (1 : Int32)) hx hb dX0_wideQuotient_43 (by decide) ?_
          refine lv_lshl (v := (xj_shl y9 (1 : Int32))) hx hb dX0_wideQuotient_44 rfl ?_
          refine lv_topl (fun y10 ey10 => ?_)
          replace hq := xj_bz hq ey10
          refine lv_lstore (lv' := [(4, .long y10), (6, .long y8), (8, .int v3), (0, .long p1), (2, .long p2)]) hx hb dX0_wideQuotient_45 hl (by decide) rfl (fun ls hl => ?_)
          obtain ⟨y11, ey11⟩ : ∃ z : Int32, z = (v3 + (1 : Int32)) := ⟨_, rfl⟩
          replace hq := xj_bz hq ey11
          refine lv_iinc (v := y11) (lv' := [(8, .int y11), (4, .long y10), (6, .long y8), (0, .long p1), (2, .long p2)]) hx hb dX0_wideQuotient_47 hl (k := 2) rfl (by rw [ey11]; rfl) (by decide) rfl (fun ls hl => ?_)
          refine lv_goto (tgt := 9) hx hb dX0_wideQuotient_50 (by decide) ?_
          exact ih _ _ ⟨y8, y10, y11, hq, ⟨k0 + 1, by rw [ey11, hk0]; exact nI_1 k0, xj_ctr (B := 63) hk0 rfl (by decide) hk1 (by assumption), by omega⟩, lv_sub hl [2, 1, 0, 3, 4] rfl, rfl⟩
        · refine xj_l_lt (tgt := 41) hx hb dX0_wideQuotient_25 dX0_wideQuotient_26 (by decide) (fun c7 => ?_) (fun c7 => ?_)
          · replace ey8 := xj_t ey8 c7
            replace ey9 := xj_t ey9 c7
            subst ey8
            subst ey9
            exact K41 _ _ ⟨lv_sub hl [0, 1, 2, 3, 4] rfl, rfl⟩
          · replace ey8 := xj_f ey8 c7
            replace ey9 := xj_f ey9 c7
            refine lv_lload hx hb dX0_wideQuotient_29 (lv_at hl 1 rfl) ?_
            refine lv_lload_n hx hb dX0_wideQuotient_31 rfl (lv_at hl 4 rfl) ?_
            refine lv_lsub hx hb dX0_wideQuotient_32 ?_
            refine lv_topl (fun y12 ey12 => ?_)
            replace ey8 := xj_bz ey8 ey12
            replace ey9 := xj_bz ey9 ey12
            refine lv_lstore (lv' := [(4, .long y12), (6, .long y6), (8, .int v3), (0, .long p1), (2, .long p2)]) hx hb dX0_wideQuotient_33 hl (by decide) rfl (fun ls hl => ?_)
            refine lv_lload hx hb dX0_wideQuotient_35 (lv_at hl 1 rfl) ?_
            refine lv_lconst (v := (1 : Int64)) hx hb dX0_wideQuotient_37 (by decide) ?_
            refine lv_lor hx hb dX0_wideQuotient_38 ?_
            refine lv_topl (fun y13 ey13 => ?_)
            replace ey8 := xj_bz ey8 ey13
            replace ey9 := xj_bz ey9 ey13
            refine lv_lstore (lv' := [(6, .long y13), (4, .long y12), (8, .int v3), (0, .long p1), (2, .long p2)]) hx hb dX0_wideQuotient_39 hl (by decide) rfl (fun ls hl => ?_)
            subst ey8
            subst ey9
            exact K41 _ _ ⟨lv_sub hl [0, 1, 2, 3, 4] rfl, rfl⟩
    · rintro ls st ⟨v1, v2, v3, hq, ⟨k0, hk0, hk1, hk2⟩, hl, rfl⟩
      omega
def mf_X0_storeQuotient (f : Nat → Int64) (u : Int32) (o : Int32) (p1 : Int32) (p2 : Int32) (p3 : Int64) (p4 : Int64) : Int32 × (Nat → Int64) × Int32 × Int32 := (if p3 = (0 : Int64) then (xj_bnd (mf_X0_storeZero f u o p2 (0 : Int32)) (fun q15 => (q15.1, (q15.2.1, q15.2.2.1, q15.2.2.2)))) else (xj_bnd (mf_X0_significandOf p3) (fun y2 => (xj_bnd (mf_X0_significandOf p4) (fun y3 => (xj_bnd (mf_X0_wideQuotient y2 y3) (fun y4 => (xj_bnd (mf_X0_exponentOf p3) (fun y5 => (xj_bnd (mf_X0_exponentOf p4) (fun y6 => (xj_bnd (((y5 - y6) + (128 : Int32)) + (1 : Int32)) (fun y7 => (xj_bnd (if (0 : Int64) ≤ p3 then (0 : Int32) else (1 : Int32)) (fun y9 => (xj_bnd (if (0 : Int64) ≤ p4 then (0 : Int32) else (1 : Int32)) (fun y11 => (xj_bnd (if y9 = y11 then (0 : Int32) else (1 : Int32)) (fun y13 => (xj_bnd (mf_X0_storeRounded f u o p1 p2 y13 y7 y4) (fun q14 => (q14.1, (q14.2.1, q14.2.2.1, q14.2.2.2)))))))))))))))))))))))
set_option maxHeartbeats 4000000 in
set_option maxRecDepth 100000 in
theorem mc_X0_storeQuotient (l : Launch) (dC : Nat → ClassId) (dI : Nat → Nat → Nat) (h0 h_f : Nat) (cA_f : ClassId) (f : Nat → Int64) (u : Int32) (o : Int32) (p1 : Int32) (p2 : Int32) (p3 : Int64) (p4 : Int64) (hin2 : vp_in p2 8) : xj_Oi l (dC, dI) vwCl [(cA_f, .long)] (mw_X0 h0 h_f cA_f) yX0_storeQuotient wsX0_storeQuotient ({ frames := 2, cells := 0, slots := 0, locals := 54 }) [.ref h0, .int p1, .int p2, .long p3, .long p4] (f, u, o) (mf_X0_storeQuotient f u o p1 p2 p3 p4) := by
  intro sz
  refine Met.ofW (cc := cX0_storeQuotient) (maxL := 10) (ret := (some .int)) (by decide) rfl ?_
  intro p e s m args below meth c s₁ B hml hv
  obtain ⟨rfl, hsz, hP, hK, hD0⟩ := hv
  have hx := B.exec
  have hb := B.bytes
  have hr := B.returns
  have hts := atoms_spec (ws := wsX0_storeQuotient) B.pre
  have hown : s.vm.findClass RX0 = some m.cls := findClass_of_methodNamed B.named
  have hlocks := B.notSynchronized
  subst hsz
  have hD := hD0.self (sz := s.heap.size)
  generalize hAe : va_A (mw_X0 h0 h_f cA_f (f, u, o)) s.heap.size = A at hD ⊢
  have hA : ∀ q : Nat, s.heap.size ≤ q → A q := fun q h => by rw [← hAe]; exact Or.inr h
  have hS : va_S A s.heap s.heap [] := va_S.rf
  have hP : va_P (dC, dI) vwCl [(h0, .inr (0, [.ref h_f, .int u, .int o])), (h_f, .inl (cA_f, 8, .inr (.inl f)))] s.heap := hP
  have hD : va_D A [(h0, .inr (0, [.ref h_f, .int u, .int o])), (h_f, .inl (cA_f, 8, .inr (.inl f)))] := hD
  generalize hT : mf_X0_storeQuotient f u o p1 p2 p3 p4 = T
  have hF := hT.symm
  unfold mf_X0_storeQuotient at hF
  have hl := lv_entry ([.ref h0, .int p1, .int p2, .long p3, .long p4]) (n := 10) (Nat.le_of_ble_eq_true rfl)
  rw [lg_entry_eq]
  generalize (lg_sl ([.ref h0, .int p1, .int p2, .long p3, .long p4]) ++ List.replicate (10 - (lg_sl ([.ref h0, .int p1, .int p2, .long p3, .long p4])).length) Slot.unset).toArray = ls at hl ⊢
  have hl : lv_has ls 10 [(0, .ref h0), (1, .int p1), (2, .int p2), (3, .long p3), (5, .long p4)] := hl
  refine lv_lload_n hx hb dX0_storeQuotient_0 rfl (lv_at hl 3 rfl) ?_
  refine lv_lconst (v := (0 : Int64)) hx hb dX0_storeQuotient_1 (by decide) ?_
  refine xj_l_ne (tgt := 13) hx hb dX0_storeQuotient_2 dX0_storeQuotient_3 (by decide) (fun c1 => ?_) (fun c1 => ?_)
  · replace hF := xj_f hF c1
    refine lv_lload_n hx hb dX0_storeQuotient_13 rfl (lv_at hl 3 rfl) ?_
    refine xj_sl (As := [.long p3]) (rest := []) ⟨hx, hb, hml, hown, hts⟩ (mc_X0_significandOf l p3) (va_cwS 1 hts gX0_storeQuotient_X0_significandOf rfl rfl rfl (by decide +kernel) ⟨Nat.le_of_ble_eq_true rfl, Nat.le_of_ble_eq_true rfl⟩) hS hA rfl hl.1 rfl (Nat.le_of_ble_eq_true rfl) dX0_storeQuotient_14 ⟨Nat.zero_le _, Nat.zero_le _⟩ (fun H9 locs9 hk9 hS => ?_)
    have hP := xj_kept hP hk9
    refine lv_topl (fun y2 ey2 => ?_)
    replace hF := xj_bz hF ey2
    refine lv_lload hx hb dX0_storeQuotient_17 (lv_at hl 4 rfl) ?_
    refine xj_sl (As := [.long p4]) (rest := [.long y2]) ⟨hx, hb, hml, hown, hts⟩ (mc_X0_significandOf l p4) (va_cwS 1 hts gX0_storeQuotient_X0_significandOf rfl rfl rfl (by decide +kernel) ⟨Nat.le_of_ble_eq_true rfl, Nat.le_of_ble_eq_true rfl⟩) hS hA rfl hl.1 rfl (Nat.le_of_ble_eq_true rfl) dX0_storeQuotient_19 ⟨Nat.zero_le _, Nat.zero_le _⟩ (fun H9 locs9 hk9 hS => ?_)
    have hP := xj_kept hP hk9
    refine lv_topl (fun y3 ey3 => ?_)
    replace hF := xj_bz hF ey3
    refine xj_sl (As := [.long y2, .long y3]) (rest := []) ⟨hx, hb, hml, hown, hts⟩ (mc_X0_wideQuotient l y2 y3) (va_cwS 2 hts gX0_storeQuotient_X0_wideQuotient rfl rfl rfl (by decide +kernel) ⟨Nat.le_of_ble_eq_true rfl, Nat.le_of_ble_eq_true rfl⟩) hS hA rfl hl.1 rfl (Nat.le_of_ble_eq_true rfl) dX0_storeQuotient_22 ⟨Nat.zero_le _, Nat.zero_le _⟩ (fun H9 locs9 hk9 hS => ?_)
    have hP := xj_kept hP hk9
    refine lv_topl (fun y4 ey4 => ?_)
    replace hF := xj_bz hF ey4
    refine lv_lstore (lv' := [(7, .long y4), (0, .ref h0), (1, .int p1), (2, .int p2), (3, .long p3), (5, .long p4)]) hx hb dX0_storeQuotient_25 hl (by decide) rfl (fun ls hl => ?_)
    refine lv_lload_n hx hb dX0_storeQuotient_27 rfl (lv_at hl 4 rfl) ?_
    refine xj_si (As := [.long p3]) (rest := []) ⟨hx, hb, hml, hown, hts⟩ (mc_X0_exponentOf l p3) (va_cwS 1 hts gX0_storeQuotient_X0_exponentOf rfl rfl rfl (by decide +kernel) ⟨Nat.le_of_ble_eq_true rfl, Nat.le_of_ble_eq_true rfl⟩) hS hA rfl hl.1 rfl (Nat.le_of_ble_eq_true rfl) dX0_storeQuotient_28 ⟨Nat.zero_le _, Nat.zero_le _⟩ (fun H9 locs9 hk9 hS => ?_)
    have hP := xj_kept hP hk9
    refine lv_topi (fun y5 ey5 => ?_)
    replace hF := xj_bz hF ey5
    refine lv_lload hx hb dX0_storeQuotient_31 (lv_at hl 5 rfl) ?_
    refine xj_si (As := [.long p4]) (rest := [.int y5]) ⟨hx, hb, hml, hown, hts⟩ (mc_X0_exponentOf l p4) (va_cwS 1 hts gX0_storeQuotient_X0_exponentOf rfl rfl rfl (by decide +kernel) ⟨Nat.le_of_ble_eq_true rfl, Nat.le_of_ble_eq_true rfl⟩) hS hA rfl hl.1 rfl (Nat.le_of_ble_eq_true rfl) dX0_storeQuotient_33 ⟨Nat.zero_le _, Nat.zero_le _⟩ (fun H9 locs9 hk9 hS => ?_)
    have hP := xj_kept hP hk9
    refine lv_topi (fun y6 ey6 => ?_)
    replace hF := xj_bz hF ey6
    refine lv_isub hx hb dX0_storeQuotient_36 ?_
    refine lv_sipush (v := (128 : Int32)) hx hb dX0_storeQuotient_37 (by decide) ?_
    refine lv_iadd hx hb dX0_storeQuotient_40 ?_
    refine lv_iconst (v := (1 : Int32)) hx hb dX0_storeQuotient_41 (by decide) ?_
    refine lv_iadd hx hb dX0_storeQuotient_42 ?_
    refine lv_topi (fun y7 ey7 => ?_)
    replace hF := xj_bz hF ey7
    refine lv_istore (lv' := [(9, .int y7), (7, .long y4), (0, .ref h0), (1, .int p1), (2, .int p2), (3, .long p3), (5, .long p4)]) hx hb dX0_storeQuotient_43 hl (by decide) rfl (fun ls hl => ?_)
    refine lv_aload_n hx hb dX0_storeQuotient_45 rfl (lv_at hl 2 rfl) ?_
    refine lv_iload_n hx hb dX0_storeQuotient_46 rfl (lv_at hl 3 rfl) ?_
    refine lv_iload_n hx hb dX0_storeQuotient_47 rfl (lv_at hl 4 rfl) ?_
    refine lv_lload_n hx hb dX0_storeQuotient_48 rfl (lv_at hl 5 rfl) ?_
    refine lv_lconst (v := (0 : Int64)) hx hb dX0_storeQuotient_49 (by decide) ?_
    obtain ⟨y9, ey9⟩ : ∃ z : Int32, z = (if (0 : Int64) ≤ p3 then (0 : Int32) else (1 : Int32)) := ⟨_, rfl⟩
    replace hF := xj_bz hF ey9
    refine xj_join 59 (fun ls' st' => lv_has ls' 10 [(9, .int y7), (7, .long y4), (0, .ref h0), (1, .int p1), (2, .int p2), (3, .long p3), (5, .long p4)] ∧ st' = [.int y9, .int p2, .int p1, .ref h0]) ?_ (fun K59 => ?_)
    · rintro ls st ⟨hl, rfl⟩
      refine lv_lload hx hb dX0_storeQuotient_59 (lv_at hl 6 rfl) ?_
      refine lv_lconst (v := (0 : Int64)) hx hb dX0_storeQuotient_61 (by decide) ?_
      obtain ⟨y11, ey11⟩ : ∃ z : Int32, z = (if (0 : Int64) ≤ p4 then (0 : Int32) else (1 : Int32)) := ⟨_, rfl⟩
      replace hF := xj_bz hF ey11
      refine xj_join 71 (fun ls' st' => lv_has ls' 10 [(9, .int y7), (7, .long y4), (0, .ref h0), (1, .int p1), (2, .int p2), (3, .long p3), (5, .long p4)] ∧ st' = [.int y11, .int y9, .int p2, .int p1, .ref h0]) ?_ (fun K71 => ?_)
      · rintro ls st ⟨hl, rfl⟩
        obtain ⟨y13, ey13⟩ : ∃ z : Int32, z = (if y9 = y11 then (0 : Int32) else (1 : Int32)) := ⟨_, rfl⟩
        replace hF := xj_bz hF ey13
        refine xj_join 79 (fun ls' st' => lv_has ls' 10 [(9, .int y7), (7, .long y4), (0, .ref h0), (1, .int p1), (2, .int p2), (3, .long p3), (5, .long p4)] ∧ st' = [.int y13, .int p2, .int p1, .ref h0]) ?_ (fun K79 => ?_)
        · rintro ls st ⟨hl, rfl⟩
          refine lv_iload hx hb dX0_storeQuotient_79 (lv_at hl 0 rfl) ?_
          refine lv_lload hx hb dX0_storeQuotient_81 (lv_at hl 1 rfl) ?_
          obtain ⟨q14, eq14⟩ : ∃ z : Int32 × (Nat → Int64) × Int32 × Int32, z = (mf_X0_storeRounded f u o p1 p2 y13 y7 y4) := ⟨_, rfl⟩
          replace hF := xj_bz hF eq14
          refine xj_vi (r := q14) (As := [.int p1, .int p2, .int y13, .int y7, .long y4]) (rest := []) (Wd := mw_X0 h0 h_f cA_f) (wr := []) ⟨hx, hb, hml, hown, hts⟩ (by rw [eq14]; exact mc_X0_storeRounded l dC dI h0 h_f cA_f f u o p1 p2 y13 y7 y4 (hin2)) (cwV 5 hts gX0_storeQuotient_X0_storeRounded rfl rfl rfl (by decide +kernel) ⟨Nat.le_of_ble_eq_true rfl, Nat.le_of_ble_eq_true rfl⟩) hP hK hD hS hA [0, 1] [] [0] rfl (by decide) rfl (by decide) (by decide) rfl (va_recv hK hP (ci := 0) (q0 := 0) rfl rfl) rfl hl.1 rfl (Nat.le_of_ble_eq_true rfl) dX0_storeQuotient_83 ⟨Nat.zero_le _, Nat.zero_le _⟩ (fun H9 locs9 hP hD hS => ?_)
          have hP : va_P (dC, dI) vwCl [(h0, .inr (0, [.ref h_f, .int q14.2.2.1, .int q14.2.2.2])), (h_f, .inl (cA_f, 8, .inr (.inl q14.2.1)))] _ := hP
          have hD : va_D A [(h0, .inr (0, [.ref h_f, .int q14.2.2.1, .int q14.2.2.2])), (h_f, .inl (cA_f, 8, .inr (.inl q14.2.1)))] := hD
          exact W.iret (v := q14.1) hx hb hr (fun t ht hW => ⟨⟨_, (q14.2.1, q14.2.2.1, q14.2.2.2), rfl, hF.symm, by rw [ht]; exact hP, hD⟩, hS.F ht⟩) hS.2.2 dX0_storeQuotient_86
        · refine lv_icmp_eq (tgt := 78) hx hb dX0_storeQuotient_71 (by decide) (fun c12 => ?_) (fun c12 => ?_)
          · replace ey13 := xj_t ey13 c12
            refine lv_iconst (v := (0 : Int32)) hx hb dX0_storeQuotient_78 (by decide) ?_
            subst ey13
            exact K79 _ _ ⟨lv_sub hl [0, 1, 2, 3, 4, 5, 6] rfl, rfl⟩
          · replace ey13 := xj_f ey13 c12
            refine lv_iconst (v := (1 : Int32)) hx hb dX0_storeQuotient_74 (by decide) ?_
            refine lv_goto (tgt := 79) hx hb dX0_storeQuotient_75 (by decide) ?_
            subst ey13
            exact K79 _ _ ⟨lv_sub hl [0, 1, 2, 3, 4, 5, 6] rfl, rfl⟩
      · refine xj_l_ge (tgt := 70) hx hb dX0_storeQuotient_62 dX0_storeQuotient_63 (by decide) (fun c10 => ?_) (fun c10 => ?_)
        · replace ey11 := xj_t ey11 c10
          refine lv_iconst (v := (0 : Int32)) hx hb dX0_storeQuotient_70 (by decide) ?_
          subst ey11
          exact K71 _ _ ⟨lv_sub hl [0, 1, 2, 3, 4, 5, 6] rfl, rfl⟩
        · replace ey11 := xj_f ey11 c10
          refine lv_iconst (v := (1 : Int32)) hx hb dX0_storeQuotient_66 (by decide) ?_
          refine lv_goto (tgt := 71) hx hb dX0_storeQuotient_67 (by decide) ?_
          subst ey11
          exact K71 _ _ ⟨lv_sub hl [0, 1, 2, 3, 4, 5, 6] rfl, rfl⟩
    · refine xj_l_ge (tgt := 58) hx hb dX0_storeQuotient_50 dX0_storeQuotient_51 (by decide) (fun c8 => ?_) (fun c8 => ?_)
      · replace ey9 := xj_t ey9 c8
        refine lv_iconst (v := (0 : Int32)) hx hb dX0_storeQuotient_58 (by decide) ?_
        subst ey9
        exact K59 _ _ ⟨lv_sub hl [0, 1, 2, 3, 4, 5, 6] rfl, rfl⟩
      · replace ey9 := xj_f ey9 c8
        refine lv_iconst (v := (1 : Int32)) hx hb dX0_storeQuotient_54 (by decide) ?_
        refine lv_goto (tgt := 59) hx hb dX0_storeQuotient_55 (by decide) ?_
        subst ey9
        exact K59 _ _ ⟨lv_sub hl [0, 1, 2, 3, 4, 5, 6] rfl, rfl⟩
  · replace hF := xj_t hF c1
    refine lv_aload_n hx hb dX0_storeQuotient_6 rfl (lv_at hl 0 rfl) ?_
    refine lv_iload_n hx hb dX0_storeQuotient_7 rfl (lv_at hl 2 rfl) ?_
    refine lv_iconst (v := (0 : Int32)) hx hb dX0_storeQuotient_8 (by decide) ?_
    obtain ⟨q15, eq15⟩ : ∃ z : Int32 × (Nat → Int64) × Int32 × Int32, z = (mf_X0_storeZero f u o p2 (0 : Int32)) := ⟨_, rfl⟩
    replace hF := xj_bz hF eq15
    refine xj_vi (r := q15) (As := [.int p2, .int (0 : Int32)]) (rest := []) (Wd := mw_X0 h0 h_f cA_f) (wr := []) ⟨hx, hb, hml, hown, hts⟩ (by rw [eq15]; exact mc_X0_storeZero l dC dI h0 h_f cA_f f u o p2 (0 : Int32) (hin2) (Or.inl rfl)) (cwV 2 hts gX0_storeQuotient_X0_storeZero rfl rfl rfl (by decide +kernel) ⟨Nat.le_of_ble_eq_true rfl, Nat.le_of_ble_eq_true rfl⟩) hP hK hD hS hA [0, 1] [] [0] rfl (by decide) rfl (by decide) (by decide) rfl (va_recv hK hP (ci := 0) (q0 := 0) rfl rfl) rfl hl.1 rfl (Nat.le_of_ble_eq_true rfl) dX0_storeQuotient_9 ⟨Nat.zero_le _, Nat.zero_le _⟩ (fun H9 locs9 hP hD hS => ?_)
    have hP : va_P (dC, dI) vwCl [(h0, .inr (0, [.ref h_f, .int q15.2.2.1, .int q15.2.2.2])), (h_f, .inl (cA_f, 8, .inr (.inl q15.2.1)))] _ := hP
    have hD : va_D A [(h0, .inr (0, [.ref h_f, .int q15.2.2.1, .int q15.2.2.2])), (h_f, .inl (cA_f, 8, .inr (.inl q15.2.1)))] := hD
    exact W.iret (v := q15.1) hx hb hr (fun t ht hW => ⟨⟨_, (q15.2.1, q15.2.2.1, q15.2.2.2), rfl, hF.symm, by rw [ht]; exact hP, hD⟩, hS.F ht⟩) hS.2.2 dX0_storeQuotient_12
def mf_X0_wholeSize (p1 : Int64) (p2 : Int32) (p3 : Int32) : Int64 := (if p2 < 0 then (xj_bnd (-p2) (fun y2 => (if y2 ≤ (56 : Int32) then (if p3 = 0 then (xj_ush p1 y2) else (xj_ush ((xj_ush p1 (y2 - (1 : Int32))) + (1 : Int64)) (1 : Int32))) else (0 : Int64)))) else (xj_bnd (if (32 : Int32) ≤ p2 then (0 : Int64) else ((xj_shl p1 p2) &&& (4294967295 : Int64))) (fun y6 => (y6 ||| (36028797018963968 : Int64)))))
set_option maxHeartbeats 4000000 in
set_option maxRecDepth 100000 in
theorem mc_X0_wholeSize (l : Launch) (p1 : Int64) (p2 : Int32) (p3 : Int32) : xj_Pl l yX0_wholeSize wsX0_wholeSize ({ frames := 0, cells := 0, slots := 0, locals := 0 }) [.long p1, .int p2, .int p3] (mf_X0_wholeSize p1 p2 p3) := by
  intro sz
  refine Met.ofW (cc := cX0_wholeSize) (maxL := 6) (ret := (some .long)) (by decide) rfl ?_
  intro p e s m args below meth c s₁ B hml hv
  obtain ⟨rfl, hsz⟩ := hv
  have hx := B.exec
  have hb := B.bytes
  have hr := B.returns
  have hts := atoms_spec (ws := wsX0_wholeSize) B.pre
  have hown : s.vm.findClass RX0 = some m.cls := findClass_of_methodNamed B.named
  have hlocks := B.notSynchronized
  subst hsz
  generalize hAe : va_A [] s.heap.size = A
  have hA : ∀ q : Nat, s.heap.size ≤ q → A q := fun q h => by rw [← hAe]; exact Or.inr h
  have hS : va_S A s.heap s.heap [] := va_S.rf
  generalize hT : mf_X0_wholeSize p1 p2 p3 = T
  have hF := hT.symm
  unfold mf_X0_wholeSize at hF
  have hl := lv_entry ([.long p1, .int p2, .int p3]) (n := 6) (Nat.le_of_ble_eq_true rfl)
  rw [lg_entry_eq]
  generalize (lg_sl ([.long p1, .int p2, .int p3]) ++ List.replicate (6 - (lg_sl ([.long p1, .int p2, .int p3])).length) Slot.unset).toArray = ls at hl ⊢
  have hl : lv_has ls 6 [(0, .long p1), (2, .int p2), (3, .int p3)] := hl
  refine lv_iload_n hx hb dX0_wholeSize_0 rfl (lv_at hl 1 rfl) ?_
  refine lv_if_lt (tgt := 30) hx hb dX0_wholeSize_1 (by decide) (fun c1 => ?_) (fun c1 => ?_)
  · replace hF := xj_t hF c1
    refine lv_iload_n hx hb dX0_wholeSize_30 rfl (lv_at hl 1 rfl) ?_
    refine lv_ineg hx hb dX0_wholeSize_31 ?_
    refine lv_topi (fun y2 ey2 => ?_)
    replace hF := xj_bz hF ey2
    refine lv_istore (lv' := [(4, .int y2), (0, .long p1), (2, .int p2), (3, .int p3)]) hx hb dX0_wholeSize_32 hl (by decide) rfl (fun ls hl => ?_)
    refine lv_iload hx hb dX0_wholeSize_34 (lv_at hl 0 rfl) ?_
    refine lv_bipush (v := (56 : Int32)) hx hb dX0_wholeSize_36 (by decide) ?_
    refine lv_icmp_le (tgt := 43) hx hb dX0_wholeSize_38 (by decide) (fun c3 => ?_) (fun c3 => ?_)
    · replace hF := xj_t hF c3
      refine lv_iload_n hx hb dX0_wholeSize_43 rfl (lv_at hl 3 rfl) ?_
      refine lv_if_eq (tgt := 60) hx hb dX0_wholeSize_44 (by decide) (fun c4 => ?_) (fun c4 => ?_)
      · replace hF := xj_t hF c4
        refine lv_lload_n hx hb dX0_wholeSize_60 rfl (lv_at hl 1 rfl) ?_
        refine lv_iload hx hb dX0_wholeSize_61 (lv_at hl 0 rfl) ?_
        refine lv_lushr (v := (xj_ush p1 y2)) hx hb dX0_wholeSize_63 rfl ?_
        exact W.lret (v := (xj_ush p1 y2)) hx hb hr (fun t ht hW => ⟨⟨_, (), rfl, hF.symm, trivial⟩, hS.F ht⟩) hS.2.2 dX0_wholeSize_64
      · replace hF := xj_f hF c4
        refine lv_lload_n hx hb dX0_wholeSize_47 rfl (lv_at hl 1 rfl) ?_
        refine lv_iload hx hb dX0_wholeSize_48 (lv_at hl 0 rfl) ?_
        refine lv_iconst (v := (1 : Int32)) hx hb dX0_wholeSize_50 (by decide) ?_
        refine lv_isub hx hb dX0_wholeSize_51 ?_
        refine lv_lushr (v := (xj_ush p1 (y2 - (1 : Int32)))) hx hb dX0_wholeSize_52 rfl ?_
        refine lv_lconst (v := (1 : Int64)) hx hb dX0_wholeSize_53 (by decide) ?_
        refine lv_ladd hx hb dX0_wholeSize_54 ?_
        refine lv_iconst (v := (1 : Int32)) hx hb dX0_wholeSize_55 (by decide) ?_
        refine lv_lushr (v := (xj_ush ((xj_ush p1 (y2 - (1 : Int32))) + (1 : Int64)) (1 : Int32))) hx hb dX0_wholeSize_56 rfl ?_
        refine lv_goto (tgt := 64) hx hb dX0_wholeSize_57 (by decide) ?_
        exact W.lret (v := (xj_ush ((xj_ush p1 (y2 - (1 : Int32))) + (1 : Int64)) (1 : Int32))) hx hb hr (fun t ht hW => ⟨⟨_, (), rfl, hF.symm, trivial⟩, hS.F ht⟩) hS.2.2 dX0_wholeSize_64
    · replace hF := xj_f hF c3
      refine lv_lconst (v := (0 : Int64)) hx hb dX0_wholeSize_41 (by decide) ?_
      exact W.lret (v := (0 : Int64)) hx hb hr (fun t ht hW => ⟨⟨_, (), rfl, hF.symm, trivial⟩, hS.F ht⟩) hS.2.2 dX0_wholeSize_42
  · replace hF := xj_f hF c1
    refine lv_iload_n hx hb dX0_wholeSize_4 rfl (lv_at hl 1 rfl) ?_
    refine lv_bipush (v := (32 : Int32)) hx hb dX0_wholeSize_5 (by decide) ?_
    obtain ⟨y6, ey6⟩ : ∃ z : Int64, z = (if (32 : Int32) ≤ p2 then (0 : Int64) else ((xj_shl p1 p2) &&& (4294967295 : Int64))) := ⟨_, rfl⟩
    replace hF := xj_bz hF ey6
    refine xj_join 21 (fun ls' st' => lv_has ls' 6 [(0, .long p1), (2, .int p2), (3, .int p3)] ∧ st' = [.long y6]) ?_ (fun K21 => ?_)
    · rintro ls st ⟨hl, rfl⟩
      refine lv_lstore (lv' := [(4, .long y6), (0, .long p1), (2, .int p2), (3, .int p3)]) hx hb dX0_wholeSize_21 hl (by decide) rfl (fun ls hl => ?_)
      refine lv_lload hx hb dX0_wholeSize_23 (lv_at hl 0 rfl) ?_
      refine lv_ldc2 (own := RX0) (v := (36028797018963968 : Int64)) hx hb hown (hts (.constantLong RX0 91 (36028797018963968 : Int64)) (by decide +kernel)) dX0_wholeSize_25 ?_
      refine lv_lor hx hb dX0_wholeSize_28 ?_
      exact W.lret (v := (y6 ||| (36028797018963968 : Int64))) hx hb hr (fun t ht hW => ⟨⟨_, (), rfl, hF.symm, trivial⟩, hS.F ht⟩) hS.2.2 dX0_wholeSize_29
    · refine lv_icmp_ge (tgt := 20) hx hb dX0_wholeSize_7 (by decide) (fun c5 => ?_) (fun c5 => ?_)
      · replace ey6 := xj_t ey6 c5
        refine lv_lconst (v := (0 : Int64)) hx hb dX0_wholeSize_20 (by decide) ?_
        subst ey6
        exact K21 _ _ ⟨lv_sub hl [0, 1, 2] rfl, rfl⟩
      · replace ey6 := xj_f ey6 c5
        refine lv_lload_n hx hb dX0_wholeSize_10 rfl (lv_at hl 0 rfl) ?_
        refine lv_iload_n hx hb dX0_wholeSize_11 rfl (lv_at hl 1 rfl) ?_
        refine lv_lshl (v := (xj_shl p1 p2)) hx hb dX0_wholeSize_12 rfl ?_
        refine lv_ldc2 (own := RX0) (v := (4294967295 : Int64)) hx hb hown (hts (.constantLong RX0 80 (4294967295 : Int64)) (by decide +kernel)) dX0_wholeSize_13 ?_
        refine lv_land hx hb dX0_wholeSize_16 ?_
        refine lv_goto (tgt := 21) hx hb dX0_wholeSize_17 (by decide) ?_
        subst ey6
        exact K21 _ _ ⟨lv_sub hl [0, 1, 2] rfl, rfl⟩
def mf_X0_wholeOf (p1 : Int64) (p2 : Int32) : Int64 := (if p1 = (0 : Int64) then (0 : Int64) else (xj_bnd (mf_X0_exponentOf p1) (fun y2 => (xj_bnd ((y2 - (128 : Int32)) - (56 : Int32)) (fun y3 => (xj_bnd (mf_X0_significandOf p1) (fun y4 => (xj_bnd (mf_X0_wholeSize y4 y3 p2) (fun y5 => (if (0 : Int64) ≤ p1 then y5 else (-y5)))))))))))
set_option maxHeartbeats 4000000 in
set_option maxRecDepth 100000 in
theorem mc_X0_wholeOf (l : Launch) (p1 : Int64) (p2 : Int32) : xj_Pl l yX0_wholeOf wsX0_wholeOf ({ frames := 2, cells := 0, slots := 0, locals := 34 }) [.long p1, .int p2] (mf_X0_wholeOf p1 p2) := by
  intro sz
  refine Met.ofW (cc := cX0_wholeOf) (maxL := 6) (ret := (some .long)) (by decide) rfl ?_
  intro p e s m args below meth c s₁ B hml hv
  obtain ⟨rfl, hsz⟩ := hv
  have hx := B.exec
  have hb := B.bytes
  have hr := B.returns
  have hts := atoms_spec (ws := wsX0_wholeOf) B.pre
  have hown : s.vm.findClass RX0 = some m.cls := findClass_of_methodNamed B.named
  have hlocks := B.notSynchronized
  subst hsz
  generalize hAe : va_A [] s.heap.size = A
  have hA : ∀ q : Nat, s.heap.size ≤ q → A q := fun q h => by rw [← hAe]; exact Or.inr h
  have hS : va_S A s.heap s.heap [] := va_S.rf
  generalize hT : mf_X0_wholeOf p1 p2 = T
  have hF := hT.symm
  unfold mf_X0_wholeOf at hF
  have hl := lv_entry ([.long p1, .int p2]) (n := 6) (Nat.le_of_ble_eq_true rfl)
  rw [lg_entry_eq]
  generalize (lg_sl ([.long p1, .int p2]) ++ List.replicate (6 - (lg_sl ([.long p1, .int p2])).length) Slot.unset).toArray = ls at hl ⊢
  have hl : lv_has ls 6 [(0, .long p1), (2, .int p2)] := hl
  refine lv_lload_n hx hb dX0_wholeOf_0 rfl (lv_at hl 0 rfl) ?_
  refine lv_lconst (v := (0 : Int64)) hx hb dX0_wholeOf_1 (by decide) ?_
  refine xj_l_ne (tgt := 8) hx hb dX0_wholeOf_2 dX0_wholeOf_3 (by decide) (fun c1 => ?_) (fun c1 => ?_)
  · replace hF := xj_f hF c1
    refine lv_lload_n hx hb dX0_wholeOf_8 rfl (lv_at hl 0 rfl) ?_
    refine xj_si (As := [.long p1]) (rest := []) ⟨hx, hb, hml, hown, hts⟩ (mc_X0_exponentOf l p1) (va_cwS 1 hts gX0_wholeOf_X0_exponentOf rfl rfl rfl (by decide +kernel) ⟨Nat.le_of_ble_eq_true rfl, Nat.le_of_ble_eq_true rfl⟩) hS hA rfl hl.1 rfl (Nat.le_of_ble_eq_true rfl) dX0_wholeOf_9 ⟨Nat.zero_le _, Nat.zero_le _⟩ (fun H9 locs9 hk9 hS => ?_)
    refine lv_topi (fun y2 ey2 => ?_)
    replace hF := xj_bz hF ey2
    refine lv_sipush (v := (128 : Int32)) hx hb dX0_wholeOf_12 (by decide) ?_
    refine lv_isub hx hb dX0_wholeOf_15 ?_
    refine lv_bipush (v := (56 : Int32)) hx hb dX0_wholeOf_16 (by decide) ?_
    refine lv_isub hx hb dX0_wholeOf_18 ?_
    refine lv_topi (fun y3 ey3 => ?_)
    replace hF := xj_bz hF ey3
    refine lv_istore_n (lv' := [(3, .int y3), (0, .long p1), (2, .int p2)]) hx hb dX0_wholeOf_19 rfl hl (by decide) rfl (fun ls hl => ?_)
    refine lv_lload_n hx hb dX0_wholeOf_20 rfl (lv_at hl 1 rfl) ?_
    refine xj_sl (As := [.long p1]) (rest := []) ⟨hx, hb, hml, hown, hts⟩ (mc_X0_significandOf l p1) (va_cwS 1 hts gX0_wholeOf_X0_significandOf rfl rfl rfl (by decide +kernel) ⟨Nat.le_of_ble_eq_true rfl, Nat.le_of_ble_eq_true rfl⟩) hS hA rfl hl.1 rfl (Nat.le_of_ble_eq_true rfl) dX0_wholeOf_21 ⟨Nat.zero_le _, Nat.zero_le _⟩ (fun H9 locs9 hk9 hS => ?_)
    refine lv_topl (fun y4 ey4 => ?_)
    replace hF := xj_bz hF ey4
    refine lv_iload_n hx hb dX0_wholeOf_24 rfl (lv_at hl 0 rfl) ?_
    refine lv_iload_n hx hb dX0_wholeOf_25 rfl (lv_at hl 2 rfl) ?_
    refine xj_sl (As := [.long y4, .int y3, .int p2]) (rest := []) ⟨hx, hb, hml, hown, hts⟩ (mc_X0_wholeSize l y4 y3 p2) (va_cwS 3 hts gX0_wholeOf_X0_wholeSize rfl rfl rfl (by decide +kernel) ⟨Nat.le_of_ble_eq_true rfl, Nat.le_of_ble_eq_true rfl⟩) hS hA rfl hl.1 rfl (Nat.le_of_ble_eq_true rfl) dX0_wholeOf_26 ⟨Nat.zero_le _, Nat.zero_le _⟩ (fun H9 locs9 hk9 hS => ?_)
    refine lv_topl (fun y5 ey5 => ?_)
    replace hF := xj_bz hF ey5
    refine lv_lstore (lv' := [(4, .long y5), (3, .int y3), (0, .long p1), (2, .int p2)]) hx hb dX0_wholeOf_29 hl (by decide) rfl (fun ls hl => ?_)
    refine lv_lload_n hx hb dX0_wholeOf_31 rfl (lv_at hl 2 rfl) ?_
    refine lv_lconst (v := (0 : Int64)) hx hb dX0_wholeOf_32 (by decide) ?_
    refine xj_l_ge (tgt := 43) hx hb dX0_wholeOf_33 dX0_wholeOf_34 (by decide) (fun c6 => ?_) (fun c6 => ?_)
    · replace hF := xj_t hF c6
      refine lv_lload hx hb dX0_wholeOf_43 (lv_at hl 0 rfl) ?_
      exact W.lret (v := y5) hx hb hr (fun t ht hW => ⟨⟨_, (), rfl, hF.symm, trivial⟩, hS.F ht⟩) hS.2.2 dX0_wholeOf_45
    · replace hF := xj_f hF c6
      refine lv_lload hx hb dX0_wholeOf_37 (lv_at hl 0 rfl) ?_
      refine lv_lneg hx hb dX0_wholeOf_39 ?_
      refine lv_goto (tgt := 45) hx hb dX0_wholeOf_40 (by decide) ?_
      exact W.lret (v := (-y5)) hx hb hr (fun t ht hW => ⟨⟨_, (), rfl, hF.symm, trivial⟩, hS.F ht⟩) hS.2.2 dX0_wholeOf_45
  · replace hF := xj_t hF c1
    refine lv_lconst (v := (0 : Int64)) hx hb dX0_wholeOf_6 (by decide) ?_
    exact W.lret (v := (0 : Int64)) hx hb hr (fun t ht hW => ⟨⟨_, (), rfl, hF.symm, trivial⟩, hS.F ht⟩) hS.2.2 dX0_wholeOf_7
