def mf_Y_two (g : Nat → Int64) (ak : Int32) (il : Int32) (mi : Int32) (xe : Int32) (bi : Int64) (fa : Int32) (cu : Int32) (p1 : Int32) (p2 : Int32) (p3 : Int32) (p4 : Int32) : Int32 := (xj_bnd (mf_Y_isSize p1) (fun y1 => (if y1 = 0 then (-5 : Int32) else (xj_bnd (mf_Y_isRegister p2) (fun y3 => (if y3 = 0 then (-5 : Int32) else (xj_bnd (mf_Y_isRegister p3) (fun y5 => (if y5 = 0 then (-5 : Int32) else (xj_bnd (mf_Y_isRegister p4) (fun y7 => (if y7 = 0 then (-5 : Int32) else (xj_bnd (mf_Y_in g ak il mi xe bi fa cu p1 p2) (fun y9 => (xj_bnd (mf_Y_isReserved y9) (fun y10 => (if y10 = 0 then (xj_bnd (mf_Y_in g ak il mi xe bi fa cu p1 p3) (fun y12 => (xj_bnd (mf_Y_isReserved y12) (fun y13 => (if y13 = 0 then (0 : Int32) else (-1 : Int32)))))) else (-1 : Int32))))))))))))))))))
set_option maxHeartbeats 4000000 in
set_option maxRecDepth 100000 in
theorem mc_Y_two (l : Launch) (dC : Nat → ClassId) (dI : Nat → Nat → Nat) (k0 k_g : Nat) (cB_g : ClassId) (g : Nat → Int64) (ak : Int32) (il : Int32) (mi : Int32) (xe : Int32) (bi : Int64) (fa : Int32) (cu : Int32) (p1 : Int32) (p2 : Int32) (p3 : Int32) (p4 : Int32) : xj_Oi l (dC, dI) vwCl [(cB_g, .long)] (mw_Y k0 k_g cB_g) yY_two wsY_two ({ frames := 1, cells := 0, slots := 0, locals := 22 }) [.ref k0, .int p1, .int p2, .int p3, .int p4] (g, ak, il, mi, xe, bi, fa, cu) (mf_Y_two g ak il mi xe bi fa cu p1 p2 p3 p4, (g, ak, il, mi, xe, bi, fa, cu)) := by
  intro sz
  refine Met.ofW (cc := cY_two) (maxL := 5) (ret := (some .int)) (by decide) rfl ?_
  intro p e s m args below meth c s₁ B hml hv
  obtain ⟨rfl, hsz, hP, hK, hD0⟩ := hv
  have hx := B.exec
  have hb := B.bytes
  have hr := B.returns
  have hts := atoms_spec (ws := wsY_two) B.pre
  have hown : s.vm.findClass RX1 = some m.cls := findClass_of_methodNamed B.named
  have hlocks := B.notSynchronized
  subst hsz
  have hD := hD0.self (sz := s.heap.size)
  generalize hAe : va_A (mw_Y k0 k_g cB_g (g, ak, il, mi, xe, bi, fa, cu)) s.heap.size = A at hD ⊢
  have hA : ∀ q : Nat, s.heap.size ≤ q → A q := fun q h => by rw [← hAe]; exact Or.inr h
  have hS : va_S A s.heap s.heap [] := va_S.rf
  have hP : va_P (dC, dI) vwCl [(k0, .inr (1, [.ref k_g, .int ak, .int il, .int mi, .int xe, .long bi, .int fa, .int cu])), (k_g, .inl (cB_g, 8, .inr (.inl g)))] s.heap := hP
  have hD : va_D A [(k0, .inr (1, [.ref k_g, .int ak, .int il, .int mi, .int xe, .long bi, .int fa, .int cu])), (k_g, .inl (cB_g, 8, .inr (.inl g)))] := hD
  generalize hT : mf_Y_two g ak il mi xe bi fa cu p1 p2 p3 p4 = T
  have hF := hT.symm
  unfold mf_Y_two at hF
  have hl := lv_entry ([.ref k0, .int p1, .int p2, .int p3, .int p4]) (n := 5) (Nat.le_of_ble_eq_true rfl)
  rw [lg_entry_eq]
  generalize (lg_sl ([.ref k0, .int p1, .int p2, .int p3, .int p4]) ++ List.replicate (5 - (lg_sl ([.ref k0, .int p1, .int p2, .int p3, .int p4])).length) Slot.unset).toArray = ls at hl ⊢
  have hl : lv_has ls 5 [(0, .ref k0), (1, .int p1), (2, .int p2), (3, .int p3), (4, .int p4)] := hl
  refine lv_iload_n hx hb dY_two_0 rfl (lv_at hl 1 rfl) ?_
  refine xj_si (As := [.int p1]) (rest := []) ⟨hx, hb, hml, hown, hts⟩ (mc_Y_isSize l p1) (va_cwS 1 hts (gY_isSize _) rfl rfl rfl (by decide +kernel) ⟨Nat.le_of_ble_eq_true rfl, Nat.le_of_ble_eq_true rfl⟩) hS hA rfl hl.1 rfl (Nat.le_of_ble_eq_true rfl) dY_two_1 ⟨Nat.zero_le _, Nat.zero_le _⟩ (fun H9 locs9 hk9 hS => ?_)
  have hP := xj_kept hP hk9
  refine lv_topi (fun y1 ey1 => ?_)
  replace hF := xj_bz hF ey1
  refine lv_if_eq (tgt := 29) hx hb dY_two_4 (by decide) (fun c2 => ?_) (fun c2 => ?_)
  · replace hF := xj_t hF c2
    refine lv_bipush (v := (-5 : Int32)) hx hb dY_two_29 (by decide) ?_
    exact W.iret (v := (-5 : Int32)) hx hb hr (fun t ht hW => ⟨⟨_, (g, ak, il, mi, xe, bi, fa, cu), rfl, by rw [hF], by rw [ht]; exact hP, hD⟩, hS.F ht⟩) hS.2.2 dY_two_31
  · replace hF := xj_f hF c2
    refine lv_iload_n hx hb dY_two_7 rfl (lv_at hl 2 rfl) ?_
    refine xj_si (As := [.int p2]) (rest := []) ⟨hx, hb, hml, hown, hts⟩ (mc_Y_isRegister l p2) (va_cwS 1 hts (gY_isRegister _) rfl rfl rfl (by decide +kernel) ⟨Nat.le_of_ble_eq_true rfl, Nat.le_of_ble_eq_true rfl⟩) hS hA rfl hl.1 rfl (Nat.le_of_ble_eq_true rfl) dY_two_8 ⟨Nat.zero_le _, Nat.zero_le _⟩ (fun H9 locs9 hk9 hS => ?_)
    have hP := xj_kept hP hk9
    refine lv_topi (fun y3 ey3 => ?_)
    replace hF := xj_bz hF ey3
    refine lv_if_eq (tgt := 29) hx hb dY_two_11 (by decide) (fun c4 => ?_) (fun c4 => ?_)
    · replace hF := xj_t hF c4
      refine lv_bipush (v := (-5 : Int32)) hx hb dY_two_29 (by decide) ?_
      exact W.iret (v := (-5 : Int32)) hx hb hr (fun t ht hW => ⟨⟨_, (g, ak, il, mi, xe, bi, fa, cu), rfl, by rw [hF], by rw [ht]; exact hP, hD⟩, hS.F ht⟩) hS.2.2 dY_two_31
    · replace hF := xj_f hF c4
      refine lv_iload_n hx hb dY_two_14 rfl (lv_at hl 3 rfl) ?_
      refine xj_si (As := [.int p3]) (rest := []) ⟨hx, hb, hml, hown, hts⟩ (mc_Y_isRegister l p3) (va_cwS 1 hts (gY_isRegister _) rfl rfl rfl (by decide +kernel) ⟨Nat.le_of_ble_eq_true rfl, Nat.le_of_ble_eq_true rfl⟩) hS hA rfl hl.1 rfl (Nat.le_of_ble_eq_true rfl) dY_two_15 ⟨Nat.zero_le _, Nat.zero_le _⟩ (fun H9 locs9 hk9 hS => ?_)
      have hP := xj_kept hP hk9
      refine lv_topi (fun y5 ey5 => ?_)
      replace hF := xj_bz hF ey5
      refine lv_if_eq (tgt := 29) hx hb dY_two_18 (by decide) (fun c6 => ?_) (fun c6 => ?_)
      · replace hF := xj_t hF c6
        refine lv_bipush (v := (-5 : Int32)) hx hb dY_two_29 (by decide) ?_
        exact W.iret (v := (-5 : Int32)) hx hb hr (fun t ht hW => ⟨⟨_, (g, ak, il, mi, xe, bi, fa, cu), rfl, by rw [hF], by rw [ht]; exact hP, hD⟩, hS.F ht⟩) hS.2.2 dY_two_31
      · replace hF := xj_f hF c6
        refine lv_iload hx hb dY_two_21 (lv_at hl 4 rfl) ?_
        refine xj_si (As := [.int p4]) (rest := []) ⟨hx, hb, hml, hown, hts⟩ (mc_Y_isRegister l p4) (va_cwS 1 hts (gY_isRegister _) rfl rfl rfl (by decide +kernel) ⟨Nat.le_of_ble_eq_true rfl, Nat.le_of_ble_eq_true rfl⟩) hS hA rfl hl.1 rfl (Nat.le_of_ble_eq_true rfl) dY_two_23 ⟨Nat.zero_le _, Nat.zero_le _⟩ (fun H9 locs9 hk9 hS => ?_)
        have hP := xj_kept hP hk9
        refine lv_topi (fun y7 ey7 => ?_)
        replace hF := xj_bz hF ey7
        refine lv_if_ne (tgt := 32) hx hb dY_two_26 (by decide) (fun c8 => ?_) (fun c8 => ?_)
        · replace hF := xj_f hF c8
          refine lv_aload_n hx hb dY_two_32 rfl (lv_at hl 0 rfl) ?_
          refine lv_iload_n hx hb dY_two_33 rfl (lv_at hl 1 rfl) ?_
          refine lv_iload_n hx hb dY_two_34 rfl (lv_at hl 2 rfl) ?_
          refine xj_vl (As := [.int p1, .int p2]) (rest := []) (Wd := mw_Y k0 k_g cB_g) (wr := []) ⟨hx, hb, hml, hown, hts⟩ (mc_Y_in l dC dI k0 k_g cB_g g ak il mi xe bi fa cu p1 p2 (ms_reg (fun h9 => c4 (ey3.trans h9)))) (cwV 2 hts (gY_in _) rfl rfl rfl (by decide +kernel) ⟨Nat.le_of_ble_eq_true rfl, Nat.le_of_ble_eq_true rfl⟩) hP hK hD hS hA [0, 1] [] [0] rfl (by decide) rfl (by decide) (by decide) rfl (va_recv hK hP (ci := 1) (q0 := 0) rfl rfl) rfl hl.1 rfl (Nat.le_of_ble_eq_true rfl) dY_two_35 ⟨Nat.zero_le _, Nat.zero_le _⟩ (fun H9 locs9 hP hD hS => ?_)
          have hP : va_P (dC, dI) vwCl [(k0, .inr (1, [.ref k_g, .int ak, .int il, .int mi, .int xe, .long bi, .int fa, .int cu])), (k_g, .inl (cB_g, 8, .inr (.inl g)))] _ := hP
          have hD : va_D A [(k0, .inr (1, [.ref k_g, .int ak, .int il, .int mi, .int xe, .long bi, .int fa, .int cu])), (k_g, .inl (cB_g, 8, .inr (.inl g)))] := hD
          refine lv_topl (fun y9 ey9 => ?_)
          replace hF := xj_bz hF ey9
          refine xj_si (As := [.long y9]) (rest := []) ⟨hx, hb, hml, hown, hts⟩ (mc_Y_isReserved l y9) (va_cwS 1 hts (gY_isReserved _) rfl rfl rfl (by decide +kernel) ⟨Nat.le_of_ble_eq_true rfl, Nat.le_of_ble_eq_true rfl⟩) hS hA rfl hl.1 rfl (Nat.le_of_ble_eq_true rfl) dY_two_38 ⟨Nat.zero_le _, Nat.zero_le _⟩ (fun H9 locs9 hk9 hS => ?_)
          have hP := xj_kept hP hk9
          refine lv_topi (fun y10 ey10 => ?_)
          replace hF := xj_bz hF ey10
          refine lv_if_ne (tgt := 56) hx hb dY_two_41 (by decide) (fun c11 => ?_) (fun c11 => ?_)
          · replace hF := xj_f hF c11
            refine lv_iconst (v := (-1 : Int32)) hx hb dY_two_56 (by decide) ?_
            refine lv_goto (tgt := 61) hx hb dY_two_57 (by decide) ?_
            exact W.iret (v := (-1 : Int32)) hx hb hr (fun t ht hW => ⟨⟨_, (g, ak, il, mi, xe, bi, fa, cu), rfl, by rw [hF], by rw [ht]; exact hP, hD⟩, hS.F ht⟩) hS.2.2 dY_two_61
          · replace hF := xj_t hF c11
            refine lv_aload_n hx hb dY_two_44 rfl (lv_at hl 0 rfl) ?_
            refine lv_iload_n hx hb dY_two_45 rfl (lv_at hl 1 rfl) ?_
            refine lv_iload_n hx hb dY_two_46 rfl (lv_at hl 3 rfl) ?_
            refine xj_vl (As := [.int p1, .int p3]) (rest := []) (Wd := mw_Y k0 k_g cB_g) (wr := []) ⟨hx, hb, hml, hown, hts⟩ (mc_Y_in l dC dI k0 k_g cB_g g ak il mi xe bi fa cu p1 p3 (ms_reg (fun h9 => c6 (ey5.trans h9)))) (cwV 2 hts (gY_in _) rfl rfl rfl (by decide +kernel) ⟨Nat.le_of_ble_eq_true rfl, Nat.le_of_ble_eq_true rfl⟩) hP hK hD hS hA [0, 1] [] [0] rfl (by decide) rfl (by decide) (by decide) rfl (va_recv hK hP (ci := 1) (q0 := 0) rfl rfl) rfl hl.1 rfl (Nat.le_of_ble_eq_true rfl) dY_two_47 ⟨Nat.zero_le _, Nat.zero_le _⟩ (fun H9 locs9 hP hD hS => ?_)
            have hP : va_P (dC, dI) vwCl [(k0, .inr (1, [.ref k_g, .int ak, .int il, .int mi, .int xe, .long bi, .int fa, .int cu])), (k_g, .inl (cB_g, 8, .inr (.inl g)))] _ := hP
            have hD : va_D A [(k0, .inr (1, [.ref k_g, .int ak, .int il, .int mi, .int xe, .long bi, .int fa, .int cu])), (k_g, .inl (cB_g, 8, .inr (.inl g)))] := hD
            refine lv_topl (fun y12 ey12 => ?_)
            replace hF := xj_bz hF ey12
            refine xj_si (As := [.long y12]) (rest := []) ⟨hx, hb, hml, hown, hts⟩ (mc_Y_isReserved l y12) (va_cwS 1 hts (gY_isReserved _) rfl rfl rfl (by decide +kernel) ⟨Nat.le_of_ble_eq_true rfl, Nat.le_of_ble_eq_true rfl⟩) hS hA rfl hl.1 rfl (Nat.le_of_ble_eq_true rfl) dY_two_50 ⟨Nat.zero_le _, Nat.zero_le _⟩ (fun H9 locs9 hk9 hS => ?_)
            have hP := xj_kept hP hk9
            refine lv_topi (fun y13 ey13 => ?_)
            replace hF := xj_bz hF ey13
            refine lv_if_eq (tgt := 60) hx hb dY_two_53 (by decide) (fun c14 => ?_) (fun c14 => ?_)
            · replace hF := xj_t hF c14
              refine lv_iconst (v := (0 : Int32)) hx hb dY_two_60 (by decide) ?_
              exact W.iret (v := (0 : Int32)) hx hb hr (fun t ht hW => ⟨⟨_, (g, ak, il, mi, xe, bi, fa, cu), rfl, by rw [hF], by rw [ht]; exact hP, hD⟩, hS.F ht⟩) hS.2.2 dY_two_61
            · replace hF := xj_f hF c14
              refine lv_iconst (v := (-1 : Int32)) hx hb dY_two_56 (by decide) ?_
              refine lv_goto (tgt := 61) hx hb dY_two_57 (by decide) ?_
              exact W.iret (v := (-1 : Int32)) hx hb hr (fun t ht hW => ⟨⟨_, (g, ak, il, mi, xe, bi, fa, cu), rfl, by rw [hF], by rw [ht]; exact hP, hD⟩, hS.F ht⟩) hS.2.2 dY_two_61
        · replace hF := xj_t hF c8
          refine lv_bipush (v := (-5 : Int32)) hx hb dY_two_29 (by decide) ?_
          exact W.iret (v := (-5 : Int32)) hx hb hr (fun t ht hW => ⟨⟨_, (g, ak, il, mi, xe, bi, fa, cu), rfl, by rw [hF], by rw [ht]; exact hP, hD⟩, hS.F ht⟩) hS.2.2 dY_two_31
theorem ms_two {g : Nat → Int64} {ak il mi xe : Int32} {bi : Int64} {fa cu a b c d : Int32} (h : 0 ≤ mf_Y_two g ak il mi xe bi fa cu a b c d) : vp_in b 8 ∧ vp_in c 8 ∧ vp_in d 8 := by
  unfold mf_Y_two xj_bnd at h
  dsimp only at h
  by_cases h1 : mf_Y_isSize a = 0
  · rw [if_pos h1] at h; exact absurd h (by decide)
  · rw [if_neg h1] at h
    by_cases h2 : mf_Y_isRegister b = 0
    · rw [if_pos h2] at h; exact absurd h (by decide)
    · rw [if_neg h2] at h
      by_cases h3 : mf_Y_isRegister c = 0
      · rw [if_pos h3] at h; exact absurd h (by decide)
      · rw [if_neg h3] at h
        by_cases h4 : mf_Y_isRegister d = 0
        · rw [if_pos h4] at h; exact absurd h (by decide)
        · exact ⟨ms_reg h2, ms_reg h3, ms_reg h4⟩

def mf_Y_one (g : Nat → Int64) (ak : Int32) (il : Int32) (mi : Int32) (xe : Int32) (bi : Int64) (fa : Int32) (cu : Int32) (p1 : Int32) (p2 : Int32) (p3 : Int32) : Int32 := (xj_bnd (mf_Y_isSize p1) (fun y1 => (if y1 = 0 then (-5 : Int32) else (xj_bnd (mf_Y_isRegister p2) (fun y3 => (if y3 = 0 then (-5 : Int32) else (xj_bnd (mf_Y_isRegister p3) (fun y5 => (if y5 = 0 then (-5 : Int32) else (xj_bnd (mf_Y_in g ak il mi xe bi fa cu p1 p2) (fun y7 => (xj_bnd (mf_Y_isReserved y7) (fun y8 => (if y8 = 0 then (0 : Int32) else (-1 : Int32)))))))))))))))
set_option maxHeartbeats 4000000 in
set_option maxRecDepth 100000 in
theorem mc_Y_one (l : Launch) (dC : Nat → ClassId) (dI : Nat → Nat → Nat) (k0 k_g : Nat) (cB_g : ClassId) (g : Nat → Int64) (ak : Int32) (il : Int32) (mi : Int32) (xe : Int32) (bi : Int64) (fa : Int32) (cu : Int32) (p1 : Int32) (p2 : Int32) (p3 : Int32) : xj_Oi l (dC, dI) vwCl [(cB_g, .long)] (mw_Y k0 k_g cB_g) yY_one wsY_one ({ frames := 1, cells := 0, slots := 0, locals := 22 }) [.ref k0, .int p1, .int p2, .int p3] (g, ak, il, mi, xe, bi, fa, cu) (mf_Y_one g ak il mi xe bi fa cu p1 p2 p3, (g, ak, il, mi, xe, bi, fa, cu)) := by
  intro sz
  refine Met.ofW (cc := cY_one) (maxL := 4) (ret := (some .int)) (by decide) rfl ?_
  intro p e s m args below meth c s₁ B hml hv
  obtain ⟨rfl, hsz, hP, hK, hD0⟩ := hv
  have hx := B.exec
  have hb := B.bytes
  have hr := B.returns
  have hts := atoms_spec (ws := wsY_one) B.pre
  have hown : s.vm.findClass RX1 = some m.cls := findClass_of_methodNamed B.named
  have hlocks := B.notSynchronized
  subst hsz
  have hD := hD0.self (sz := s.heap.size)
  generalize hAe : va_A (mw_Y k0 k_g cB_g (g, ak, il, mi, xe, bi, fa, cu)) s.heap.size = A at hD ⊢
  have hA : ∀ q : Nat, s.heap.size ≤ q → A q := fun q h => by rw [← hAe]; exact Or.inr h
  have hS : va_S A s.heap s.heap [] := va_S.rf
  have hP : va_P (dC, dI) vwCl [(k0, .inr (1, [.ref k_g, .int ak, .int il, .int mi, .int xe, .long bi, .int fa, .int cu])), (k_g, .inl (cB_g, 8, .inr (.inl g)))] s.heap := hP
  have hD : va_D A [(k0, .inr (1, [.ref k_g, .int ak, .int il, .int mi, .int xe, .long bi, .int fa, .int cu])), (k_g, .inl (cB_g, 8, .inr (.inl g)))] := hD
  generalize hT : mf_Y_one g ak il mi xe bi fa cu p1 p2 p3 = T
  have hF := hT.symm
  unfold mf_Y_one at hF
  have hl := lv_entry ([.ref k0, .int p1, .int p2, .int p3]) (n := 4) (Nat.le_of_ble_eq_true rfl)
  rw [lg_entry_eq]
  generalize (lg_sl ([.ref k0, .int p1, .int p2, .int p3]) ++ List.replicate (4 - (lg_sl ([.ref k0, .int p1, .int p2, .int p3])).length) Slot.unset).toArray = ls at hl ⊢
  have hl : lv_has ls 4 [(0, .ref k0), (1, .int p1), (2, .int p2), (3, .int p3)] := hl
  refine lv_iload_n hx hb dY_one_0 rfl (lv_at hl 1 rfl) ?_
  refine xj_si (As := [.int p1]) (rest := []) ⟨hx, hb, hml, hown, hts⟩ (mc_Y_isSize l p1) (va_cwS 1 hts (gY_isSize _) rfl rfl rfl (by decide +kernel) ⟨Nat.le_of_ble_eq_true rfl, Nat.le_of_ble_eq_true rfl⟩) hS hA rfl hl.1 rfl (Nat.le_of_ble_eq_true rfl) dY_one_1 ⟨Nat.zero_le _, Nat.zero_le _⟩ (fun H9 locs9 hk9 hS => ?_)
  have hP := xj_kept hP hk9
  refine lv_topi (fun y1 ey1 => ?_)
  replace hF := xj_bz hF ey1
  refine lv_if_eq (tgt := 21) hx hb dY_one_4 (by decide) (fun c2 => ?_) (fun c2 => ?_)
  · replace hF := xj_t hF c2
    refine lv_bipush (v := (-5 : Int32)) hx hb dY_one_21 (by decide) ?_
    exact W.iret (v := (-5 : Int32)) hx hb hr (fun t ht hW => ⟨⟨_, (g, ak, il, mi, xe, bi, fa, cu), rfl, by rw [hF], by rw [ht]; exact hP, hD⟩, hS.F ht⟩) hS.2.2 dY_one_23
  · replace hF := xj_f hF c2
    refine lv_iload_n hx hb dY_one_7 rfl (lv_at hl 2 rfl) ?_
    refine xj_si (As := [.int p2]) (rest := []) ⟨hx, hb, hml, hown, hts⟩ (mc_Y_isRegister l p2) (va_cwS 1 hts (gY_isRegister _) rfl rfl rfl (by decide +kernel) ⟨Nat.le_of_ble_eq_true rfl, Nat.le_of_ble_eq_true rfl⟩) hS hA rfl hl.1 rfl (Nat.le_of_ble_eq_true rfl) dY_one_8 ⟨Nat.zero_le _, Nat.zero_le _⟩ (fun H9 locs9 hk9 hS => ?_)
    have hP := xj_kept hP hk9
    refine lv_topi (fun y3 ey3 => ?_)
    replace hF := xj_bz hF ey3
    refine lv_if_eq (tgt := 21) hx hb dY_one_11 (by decide) (fun c4 => ?_) (fun c4 => ?_)
    · replace hF := xj_t hF c4
      refine lv_bipush (v := (-5 : Int32)) hx hb dY_one_21 (by decide) ?_
      exact W.iret (v := (-5 : Int32)) hx hb hr (fun t ht hW => ⟨⟨_, (g, ak, il, mi, xe, bi, fa, cu), rfl, by rw [hF], by rw [ht]; exact hP, hD⟩, hS.F ht⟩) hS.2.2 dY_one_23
    · replace hF := xj_f hF c4
      refine lv_iload_n hx hb dY_one_14 rfl (lv_at hl 3 rfl) ?_
      refine xj_si (As := [.int p3]) (rest := []) ⟨hx, hb, hml, hown, hts⟩ (mc_Y_isRegister l p3) (va_cwS 1 hts (gY_isRegister _) rfl rfl rfl (by decide +kernel) ⟨Nat.le_of_ble_eq_true rfl, Nat.le_of_ble_eq_true rfl⟩) hS hA rfl hl.1 rfl (Nat.le_of_ble_eq_true rfl) dY_one_15 ⟨Nat.zero_le _, Nat.zero_le _⟩ (fun H9 locs9 hk9 hS => ?_)
      have hP := xj_kept hP hk9
      refine lv_topi (fun y5 ey5 => ?_)
      replace hF := xj_bz hF ey5
      refine lv_if_ne (tgt := 24) hx hb dY_one_18 (by decide) (fun c6 => ?_) (fun c6 => ?_)
      · replace hF := xj_f hF c6
        refine lv_aload_n hx hb dY_one_24 rfl (lv_at hl 0 rfl) ?_
        refine lv_iload_n hx hb dY_one_25 rfl (lv_at hl 1 rfl) ?_
        refine lv_iload_n hx hb dY_one_26 rfl (lv_at hl 2 rfl) ?_
        refine xj_vl (As := [.int p1, .int p2]) (rest := []) (Wd := mw_Y k0 k_g cB_g) (wr := []) ⟨hx, hb, hml, hown, hts⟩ (mc_Y_in l dC dI k0 k_g cB_g g ak il mi xe bi fa cu p1 p2 (ms_reg (fun h9 => c4 (ey3.trans h9)))) (cwV 2 hts (gY_in _) rfl rfl rfl (by decide +kernel) ⟨Nat.le_of_ble_eq_true rfl, Nat.le_of_ble_eq_true rfl⟩) hP hK hD hS hA [0, 1] [] [0] rfl (by decide) rfl (by decide) (by decide) rfl (va_recv hK hP (ci := 1) (q0 := 0) rfl rfl) rfl hl.1 rfl (Nat.le_of_ble_eq_true rfl) dY_one_27 ⟨Nat.zero_le _, Nat.zero_le _⟩ (fun H9 locs9 hP hD hS => ?_)
        have hP : va_P (dC, dI) vwCl [(k0, .inr (1, [.ref k_g, .int ak, .int il, .int mi, .int xe, .long bi, .int fa, .int cu])), (k_g, .inl (cB_g, 8, .inr (.inl g)))] _ := hP
        have hD : va_D A [(k0, .inr (1, [.ref k_g, .int ak, .int il, .int mi, .int xe, .long bi, .int fa, .int cu])), (k_g, .inl (cB_g, 8, .inr (.inl g)))] := hD
        refine lv_topl (fun y7 ey7 => ?_)
        replace hF := xj_bz hF ey7
        refine xj_si (As := [.long y7]) (rest := []) ⟨hx, hb, hml, hown, hts⟩ (mc_Y_isReserved l y7) (va_cwS 1 hts (gY_isReserved _) rfl rfl rfl (by decide +kernel) ⟨Nat.le_of_ble_eq_true rfl, Nat.le_of_ble_eq_true rfl⟩) hS hA rfl hl.1 rfl (Nat.le_of_ble_eq_true rfl) dY_one_30 ⟨Nat.zero_le _, Nat.zero_le _⟩ (fun H9 locs9 hk9 hS => ?_)
        have hP := xj_kept hP hk9
        refine lv_topi (fun y8 ey8 => ?_)
        replace hF := xj_bz hF ey8
        refine lv_if_eq (tgt := 40) hx hb dY_one_33 (by decide) (fun c9 => ?_) (fun c9 => ?_)
        · replace hF := xj_t hF c9
          refine lv_iconst (v := (0 : Int32)) hx hb dY_one_40 (by decide) ?_
          exact W.iret (v := (0 : Int32)) hx hb hr (fun t ht hW => ⟨⟨_, (g, ak, il, mi, xe, bi, fa, cu), rfl, by rw [hF], by rw [ht]; exact hP, hD⟩, hS.F ht⟩) hS.2.2 dY_one_41
        · replace hF := xj_f hF c9
          refine lv_iconst (v := (-1 : Int32)) hx hb dY_one_36 (by decide) ?_
          refine lv_goto (tgt := 41) hx hb dY_one_37 (by decide) ?_
          exact W.iret (v := (-1 : Int32)) hx hb hr (fun t ht hW => ⟨⟨_, (g, ak, il, mi, xe, bi, fa, cu), rfl, by rw [hF], by rw [ht]; exact hP, hD⟩, hS.F ht⟩) hS.2.2 dY_one_41
      · replace hF := xj_t hF c6
        refine lv_bipush (v := (-5 : Int32)) hx hb dY_one_21 (by decide) ?_
        exact W.iret (v := (-5 : Int32)) hx hb hr (fun t ht hW => ⟨⟨_, (g, ak, il, mi, xe, bi, fa, cu), rfl, by rw [hF], by rw [ht]; exact hP, hD⟩, hS.F ht⟩) hS.2.2 dY_one_23
theorem ms_one {g : Nat → Int64} {ak il mi xe : Int32} {bi : Int64} {fa cu a b d : Int32} (h : 0 ≤ mf_Y_one g ak il mi xe bi fa cu a b d) : vp_in b 8 ∧ vp_in d 8 := by
  unfold mf_Y_one xj_bnd at h
  dsimp only at h
  by_cases h1 : mf_Y_isSize a = 0
  · rw [if_pos h1] at h; exact absurd h (by decide)
  · rw [if_neg h1] at h
    by_cases h2 : mf_Y_isRegister b = 0
    · rw [if_pos h2] at h; exact absurd h (by decide)
    · rw [if_neg h2] at h
      by_cases h4 : mf_Y_isRegister d = 0
      · rw [if_pos h4] at h; exact absurd h (by decide)
      · exact ⟨ms_reg h2, ms_reg h4⟩

def mf_Y_set (g : Nat → Int64) (ak : Int32) (il : Int32) (mi : Int32) (xe : Int32) (bi : Int64) (fa : Int32) (cu : Int32) (p1 : Int32) (p2 : Int64) : Int32 × (Nat → Int64) × Int32 × Int32 × Int32 × Int32 × Int64 × Int32 × Int32 := (if p1 < 0 then ((0 : Int32), (g, ak, il, mi, xe, bi, fa, cu)) else (if p1 ≤ (7 : Int32) then ((1 : Int32), ((vp_updL g (Int32.toNatClampNeg p1) p2), ak, il, mi, xe, bi, fa, cu)) else ((0 : Int32), (g, ak, il, mi, xe, bi, fa, cu))))
set_option maxHeartbeats 4000000 in
set_option maxRecDepth 100000 in
theorem mc_Y_set (l : Launch) (dC : Nat → ClassId) (dI : Nat → Nat → Nat) (k0 k_g : Nat) (cB_g : ClassId) (g : Nat → Int64) (ak : Int32) (il : Int32) (mi : Int32) (xe : Int32) (bi : Int64) (fa : Int32) (cu : Int32) (p1 : Int32) (p2 : Int64) : xj_Oi l (dC, dI) vwCl [(cB_g, .long)] (mw_Y k0 k_g cB_g) yY_set wsY_set ({ frames := 0, cells := 0, slots := 0, locals := 0 }) [.ref k0, .int p1, .long p2] (g, ak, il, mi, xe, bi, fa, cu) (mf_Y_set g ak il mi xe bi fa cu p1 p2) := by
  intro sz
  refine Met.ofW (cc := cY_set) (maxL := 4) (ret := (some .boolean)) (by decide) rfl ?_
  intro p e s m args below meth c s₁ B hml hv
  obtain ⟨rfl, hsz, hP, hK, hD0⟩ := hv
  have hx := B.exec
  have hb := B.bytes
  have hr := B.returns
  have hts := atoms_spec (ws := wsY_set) B.pre
  have hown : s.vm.findClass RX1 = some m.cls := findClass_of_methodNamed B.named
  have hlocks := B.notSynchronized
  subst hsz
  have hD := hD0.self (sz := s.heap.size)
  generalize hAe : va_A (mw_Y k0 k_g cB_g (g, ak, il, mi, xe, bi, fa, cu)) s.heap.size = A at hD ⊢
  have hA : ∀ q : Nat, s.heap.size ≤ q → A q := fun q h => by rw [← hAe]; exact Or.inr h
  have hS : va_S A s.heap s.heap [] := va_S.rf
  have hP : va_P (dC, dI) vwCl [(k0, .inr (1, [.ref k_g, .int ak, .int il, .int mi, .int xe, .long bi, .int fa, .int cu])), (k_g, .inl (cB_g, 8, .inr (.inl g)))] s.heap := hP
  have hD : va_D A [(k0, .inr (1, [.ref k_g, .int ak, .int il, .int mi, .int xe, .long bi, .int fa, .int cu])), (k_g, .inl (cB_g, 8, .inr (.inl g)))] := hD
  generalize hT : mf_Y_set g ak il mi xe bi fa cu p1 p2 = T
  have hF := hT.symm
  unfold mf_Y_set at hF
  have hl := lv_entry ([.ref k0, .int p1, .long p2]) (n := 4) (Nat.le_of_ble_eq_true rfl)
  rw [lg_entry_eq]
  generalize (lg_sl ([.ref k0, .int p1, .long p2]) ++ List.replicate (4 - (lg_sl ([.ref k0, .int p1, .long p2])).length) Slot.unset).toArray = ls at hl ⊢
  have hl : lv_has ls 4 [(0, .ref k0), (1, .int p1), (2, .long p2)] := hl
  refine lv_iload_n hx hb dY_set_0 rfl (lv_at hl 1 rfl) ?_
  refine lv_if_lt (tgt := 10) hx hb dY_set_1 (by decide) (fun c1 => ?_) (fun c1 => ?_)
  · replace hF := xj_t hF c1
    refine lv_iconst (v := (0 : Int32)) hx hb dY_set_10 (by decide) ?_
    exact W.zret (v := (0 : Int32)) hx hb hr rfl (fun t ht hW => ⟨⟨_, (g, ak, il, mi, xe, bi, fa, cu), rfl, hF.symm, by rw [ht]; exact hP, hD⟩, hS.F ht⟩) hS.2.2 dY_set_11
  · replace hF := xj_f hF c1
    refine lv_iload_n hx hb dY_set_4 rfl (lv_at hl 1 rfl) ?_
    refine lv_bipush (v := (7 : Int32)) hx hb dY_set_5 (by decide) ?_
    refine lv_icmp_le (tgt := 12) hx hb dY_set_7 (by decide) (fun c2 => ?_) (fun c2 => ?_)
    · replace hF := xj_t hF c2
      refine lv_aload_n hx hb dY_set_12 rfl (lv_at hl 0 rfl) ?_
      refine va_get (D := (dC, dI)) (ci := 1) (v := .ref k_g) (C := RX1) (T := TX1) (N := 8) hx hb hts (fun w9 h9 => List.mem_cons_of_mem _ (inY w9 h9)) hown hK hP 0 rfl rfl 0 (by decide) (hts (.fieldLink RX1 7 "ExactFloatsModel" "register" "[J") (List.mem_cons_of_mem _ mY_29)) (fun _ h9 => h9) rfl dY_set_13 ?_
      refine lv_iload_n hx hb dY_set_16 rfl (lv_at hl 1 rfl) ?_
      refine lv_lload_n hx hb dY_set_17 rfl (lv_at hl 2 rfl) ?_
      refine va_last hx hb hK hP hD hS 1 0 rfl rfl (ms_in7 c1 c2) dY_set_18 (fun H9 locs9 hP hD hS => ?_)
      have hP : va_P (dC, dI) vwCl [(k0, .inr (1, [.ref k_g, .int ak, .int il, .int mi, .int xe, .long bi, .int fa, .int cu])), (k_g, .inl (cB_g, 8, .inr (.inl (vp_updL g (Int32.toNatClampNeg p1) p2))))] _ := hP
      have hD : va_D A [(k0, .inr (1, [.ref k_g, .int ak, .int il, .int mi, .int xe, .long bi, .int fa, .int cu])), (k_g, .inl (cB_g, 8, .inr (.inl (vp_updL g (Int32.toNatClampNeg p1) p2))))] := hD
      refine lv_iconst (v := (1 : Int32)) hx hb dY_set_19 (by decide) ?_
      exact W.zret (v := (1 : Int32)) hx hb hr rfl (fun t ht hW => ⟨⟨_, ((vp_updL g (Int32.toNatClampNeg p1) p2), ak, il, mi, xe, bi, fa, cu), rfl, hF.symm, by rw [ht]; exact hP, hD⟩, hS.F ht⟩) hS.2.2 dY_set_20
    · replace hF := xj_f hF c2
      refine lv_iconst (v := (0 : Int32)) hx hb dY_set_10 (by decide) ?_
      exact W.zret (v := (0 : Int32)) hx hb hr rfl (fun t ht hW => ⟨⟨_, (g, ak, il, mi, xe, bi, fa, cu), rfl, hF.symm, by rw [ht]; exact hP, hD⟩, hS.F ht⟩) hS.2.2 dY_set_11
def mf_Y_get (g : Nat → Int64) (ak : Int32) (il : Int32) (mi : Int32) (xe : Int32) (bi : Int64) (fa : Int32) (cu : Int32) (p1 : Int32) : Int64 := (if p1 < 0 then (0 : Int64) else (if p1 ≤ (7 : Int32) then (g (Int32.toNatClampNeg p1)) else (0 : Int64)))
set_option maxHeartbeats 4000000 in
set_option maxRecDepth 100000 in
theorem mc_Y_get (l : Launch) (dC : Nat → ClassId) (dI : Nat → Nat → Nat) (k0 k_g : Nat) (cB_g : ClassId) (g : Nat → Int64) (ak : Int32) (il : Int32) (mi : Int32) (xe : Int32) (bi : Int64) (fa : Int32) (cu : Int32) (p1 : Int32) : xj_Ol l (dC, dI) vwCl [(cB_g, .long)] (mw_Y k0 k_g cB_g) yY_get wsY_get ({ frames := 0, cells := 0, slots := 0, locals := 0 }) [.ref k0, .int p1] (g, ak, il, mi, xe, bi, fa, cu) (mf_Y_get g ak il mi xe bi fa cu p1, (g, ak, il, mi, xe, bi, fa, cu)) := by
  intro sz
  refine Met.ofW (cc := cY_get) (maxL := 2) (ret := (some .long)) (by decide) rfl ?_
  intro p e s m args below meth c s₁ B hml hv
  obtain ⟨rfl, hsz, hP, hK, hD0⟩ := hv
  have hx := B.exec
  have hb := B.bytes
  have hr := B.returns
  have hts := atoms_spec (ws := wsY_get) B.pre
  have hown : s.vm.findClass RX1 = some m.cls := findClass_of_methodNamed B.named
  have hlocks := B.notSynchronized
  subst hsz
  have hD := hD0.self (sz := s.heap.size)
  generalize hAe : va_A (mw_Y k0 k_g cB_g (g, ak, il, mi, xe, bi, fa, cu)) s.heap.size = A at hD ⊢
  have hA : ∀ q : Nat, s.heap.size ≤ q → A q := fun q h => by rw [← hAe]; exact Or.inr h
  have hS : va_S A s.heap s.heap [] := va_S.rf
  have hP : va_P (dC, dI) vwCl [(k0, .inr (1, [.ref k_g, .int ak, .int il, .int mi, .int xe, .long bi, .int fa, .int cu])), (k_g, .inl (cB_g, 8, .inr (.inl g)))] s.heap := hP
  have hD : va_D A [(k0, .inr (1, [.ref k_g, .int ak, .int il, .int mi, .int xe, .long bi, .int fa, .int cu])), (k_g, .inl (cB_g, 8, .inr (.inl g)))] := hD
  generalize hT : mf_Y_get g ak il mi xe bi fa cu p1 = T
  have hF := hT.symm
  unfold mf_Y_get at hF
  have hl := lv_entry ([.ref k0, .int p1]) (n := 2) (Nat.le_of_ble_eq_true rfl)
  rw [lg_entry_eq]
  generalize (lg_sl ([.ref k0, .int p1]) ++ List.replicate (2 - (lg_sl ([.ref k0, .int p1])).length) Slot.unset).toArray = ls at hl ⊢
  have hl : lv_has ls 2 [(0, .ref k0), (1, .int p1)] := hl
  refine lv_iload_n hx hb dY_get_0 rfl (lv_at hl 1 rfl) ?_
  refine lv_if_lt (tgt := 10) hx hb dY_get_1 (by decide) (fun c1 => ?_) (fun c1 => ?_)
  · replace hF := xj_t hF c1
    refine lv_lconst (v := (0 : Int64)) hx hb dY_get_10 (by decide) ?_
    refine lv_goto (tgt := 20) hx hb dY_get_11 (by decide) ?_
    exact W.lret (v := (0 : Int64)) hx hb hr (fun t ht hW => ⟨⟨_, (g, ak, il, mi, xe, bi, fa, cu), rfl, by rw [hF], by rw [ht]; exact hP, hD⟩, hS.F ht⟩) hS.2.2 dY_get_20
  · replace hF := xj_f hF c1
    refine lv_iload_n hx hb dY_get_4 rfl (lv_at hl 1 rfl) ?_
    refine lv_bipush (v := (7 : Int32)) hx hb dY_get_5 (by decide) ?_
    refine lv_icmp_le (tgt := 14) hx hb dY_get_7 (by decide) (fun c2 => ?_) (fun c2 => ?_)
    · replace hF := xj_t hF c2
      refine lv_aload_n hx hb dY_get_14 rfl (lv_at hl 0 rfl) ?_
      refine va_get (D := (dC, dI)) (ci := 1) (v := .ref k_g) (C := RX1) (T := TX1) (N := 8) hx hb hts (fun w9 h9 => List.mem_cons_of_mem _ (inY w9 h9)) hown hK hP 0 rfl rfl 0 (by decide) (hts (.fieldLink RX1 7 "ExactFloatsModel" "register" "[J") (List.mem_cons_of_mem _ mY_29)) (fun _ h9 => h9) rfl dY_get_15 ?_
      refine lv_iload_n hx hb dY_get_18 rfl (lv_at hl 1 rfl) ?_
      refine va_lald hx hb hK hP 1 0 rfl rfl (ms_in7 c1 c2) dY_get_19 ?_
      exact W.lret (v := (g (Int32.toNatClampNeg p1))) hx hb hr (fun t ht hW => ⟨⟨_, (g, ak, il, mi, xe, bi, fa, cu), rfl, by rw [hF], by rw [ht]; exact hP, hD⟩, hS.F ht⟩) hS.2.2 dY_get_20
    · replace hF := xj_f hF c2
      refine lv_lconst (v := (0 : Int64)) hx hb dY_get_10 (by decide) ?_
      refine lv_goto (tgt := 20) hx hb dY_get_11 (by decide) ?_
      exact W.lret (v := (0 : Int64)) hx hb hr (fun t ht hW => ⟨⟨_, (g, ak, il, mi, xe, bi, fa, cu), rfl, by rw [hF], by rw [ht]; exact hP, hD⟩, hS.F ht⟩) hS.2.2 dY_get_20
def mf_Y_under (g : Nat → Int64) (ak : Int32) (il : Int32) (mi : Int32) (xe : Int32) (bi : Int64) (fa : Int32) (cu : Int32) (p1 : Int32) : (Nat → Int64) × Int32 × Int32 × Int32 × Int32 × Int64 × Int32 × Int32 := (g, p1, il, mi, xe, bi, fa, cu)
set_option maxHeartbeats 4000000 in
set_option maxRecDepth 100000 in
theorem mc_Y_under (l : Launch) (dC : Nat → ClassId) (dI : Nat → Nat → Nat) (k0 k_g : Nat) (cB_g : ClassId) (g : Nat → Int64) (ak : Int32) (il : Int32) (mi : Int32) (xe : Int32) (bi : Int64) (fa : Int32) (cu : Int32) (p1 : Int32) (hb1 : p1 = 0 ∨ p1 = 1) : xj_Ov l (dC, dI) vwCl [(cB_g, .long)] (mw_Y k0 k_g cB_g) yY_under wsY_under ({ frames := 0, cells := 0, slots := 0, locals := 0 }) [.ref k0, .int p1] (g, ak, il, mi, xe, bi, fa, cu) (mf_Y_under g ak il mi xe bi fa cu p1) := by
  intro sz
  refine Met.ofW (cc := cY_under) (maxL := 2) (ret := none) (by decide) rfl ?_
  intro p e s m args below meth c s₁ B hml hv
  obtain ⟨rfl, hsz, hP, hK, hD0⟩ := hv
  have hx := B.exec
  have hb := B.bytes
  have hr := B.returns
  have hts := atoms_spec (ws := wsY_under) B.pre
  have hown : s.vm.findClass RX1 = some m.cls := findClass_of_methodNamed B.named
  have hlocks := B.notSynchronized
  subst hsz
  have hD := hD0.self (sz := s.heap.size)
  generalize hAe : va_A (mw_Y k0 k_g cB_g (g, ak, il, mi, xe, bi, fa, cu)) s.heap.size = A at hD ⊢
  have hA : ∀ q : Nat, s.heap.size ≤ q → A q := fun q h => by rw [← hAe]; exact Or.inr h
  have hS : va_S A s.heap s.heap [] := va_S.rf
  have hP : va_P (dC, dI) vwCl [(k0, .inr (1, [.ref k_g, .int ak, .int il, .int mi, .int xe, .long bi, .int fa, .int cu])), (k_g, .inl (cB_g, 8, .inr (.inl g)))] s.heap := hP
  have hD : va_D A [(k0, .inr (1, [.ref k_g, .int ak, .int il, .int mi, .int xe, .long bi, .int fa, .int cu])), (k_g, .inl (cB_g, 8, .inr (.inl g)))] := hD
  generalize hT : mf_Y_under g ak il mi xe bi fa cu p1 = T
  have hF := hT.symm
  unfold mf_Y_under at hF
  have hl := lv_entry ([.ref k0, .int p1]) (n := 2) (Nat.le_of_ble_eq_true rfl)
  rw [lg_entry_eq]
  generalize (lg_sl ([.ref k0, .int p1]) ++ List.replicate (2 - (lg_sl ([.ref k0, .int p1])).length) Slot.unset).toArray = ls at hl ⊢
  have hl : lv_has ls 2 [(0, .ref k0), (1, .int p1)] := hl
  refine lv_aload_n hx hb dY_under_0 rfl (lv_at hl 0 rfl) ?_
  refine lv_iload_n hx hb dY_under_1 rfl (lv_at hl 1 rfl) ?_
  refine va_put (D := (dC, dI)) (ci := 1) (v := .int p1) (ty := .boolean) (C := RX1) (T := TX1) (N := 8) hx hb hts (fun w9 h9 => List.mem_cons_of_mem _ (inY w9 h9)) tyX1 tyX1_ok nmX1 hown hK hP hD hS 0 rfl rfl 1 (by decide) (hts (.fieldLink RX1 13 "ExactFloatsModel" "asked" "Z") (List.mem_cons_of_mem _ mY_30)) (fun _ h9 => h9) rfl (by decide +kernel) (xj_nb (hb1)) (xj_fb (hb1)) (Nat.le_of_ble_eq_true rfl) dY_under_2 (fun H9 locs9 hP hD hS => ?_)
  have hP : va_P (dC, dI) vwCl [(k0, .inr (1, [.ref k_g, .int p1, .int il, .int mi, .int xe, .long bi, .int fa, .int cu])), (k_g, .inl (cB_g, 8, .inr (.inl g)))] _ := hP
  have hD : va_D A [(k0, .inr (1, [.ref k_g, .int p1, .int il, .int mi, .int xe, .long bi, .int fa, .int cu])), (k_g, .inl (cB_g, 8, .inr (.inl g)))] := hD
  exact W.vret hx hb hr (fun t ht hW => ⟨⟨(g, p1, il, mi, xe, bi, fa, cu), rfl, hF.symm, by rw [ht]; exact hP, hD⟩, hS.F ht⟩) hS.2.2 dY_under_5
def mf_Y_sum (g : Nat → Int64) (ak : Int32) (il : Int32) (mi : Int32) (xe : Int32) (bi : Int64) (fa : Int32) (cu : Int32) (p1 : Int32) (p2 : Int32) (p3 : Int32) (p4 : Int32) : Int32 × (Nat → Int64) × Int32 × Int32 × Int32 × Int32 × Int64 × Int32 × Int32 := (xj_bnd (mf_Y_two g ak il mi xe bi fa cu p1 p2 p3 p4) (fun y1 => (if 0 ≤ y1 then (xj_bnd (mf_Y_in g ak il mi xe bi fa cu p1 p3) (fun y3 => (xj_bnd (mf_Y_in g ak il mi xe bi fa cu p1 p2) (fun y4 => (xj_bnd (mf_Y_added g ak il mi xe bi fa cu p1 y3 y4) (fun q5 => (xj_bnd (mf_Y_gives q5.2.1 q5.2.2.1 q5.2.2.2.1 q5.2.2.2.2.1 q5.2.2.2.2.2.1 q5.2.2.2.2.2.2.1 q5.2.2.2.2.2.2.2.1 q5.2.2.2.2.2.2.2.2 q5.1 p4) (fun q6 => (q6.1, (q6.2.1, q6.2.2.1, q6.2.2.2.1, q6.2.2.2.2.1, q6.2.2.2.2.2.1, q6.2.2.2.2.2.2.1, q6.2.2.2.2.2.2.2.1, q6.2.2.2.2.2.2.2.2)))))))))) else (y1, (g, ak, il, mi, xe, bi, fa, cu)))))
set_option maxHeartbeats 4000000 in
set_option maxRecDepth 100000 in
theorem mc_Y_sum (l : Launch) (dC : Nat → ClassId) (dI : Nat → Nat → Nat) (k0 k_g : Nat) (cB_g : ClassId) (g : Nat → Int64) (ak : Int32) (il : Int32) (mi : Int32) (xe : Int32) (bi : Int64) (fa : Int32) (cu : Int32) (p1 : Int32) (p2 : Int32) (p3 : Int32) (p4 : Int32) : xj_Oi l (dC, dI) vwCl [(cB_g, .long)] (mw_Y k0 k_g cB_g) yY_sum wsY_sum ({ frames := 3, cells := 0, slots := 0, locals := 101 }) [.ref k0, .int p1, .int p2, .int p3, .int p4] (g, ak, il, mi, xe, bi, fa, cu) (mf_Y_sum g ak il mi xe bi fa cu p1 p2 p3 p4) := by
  intro sz
  refine Met.ofW (cc := cY_sum) (maxL := 6) (ret := (some .int)) (by decide) rfl ?_
  intro p e s m args below meth c s₁ B hml hv
  obtain ⟨rfl, hsz, hP, hK, hD0⟩ := hv
  have hx := B.exec
  have hb := B.bytes
  have hr := B.returns
  have hts := atoms_spec (ws := wsY_sum) B.pre
  have hown : s.vm.findClass RX1 = some m.cls := findClass_of_methodNamed B.named
  have hlocks := B.notSynchronized
  subst hsz
  have hD := hD0.self (sz := s.heap.size)
  generalize hAe : va_A (mw_Y k0 k_g cB_g (g, ak, il, mi, xe, bi, fa, cu)) s.heap.size = A at hD ⊢
  have hA : ∀ q : Nat, s.heap.size ≤ q → A q := fun q h => by rw [← hAe]; exact Or.inr h
  have hS : va_S A s.heap s.heap [] := va_S.rf
  have hP : va_P (dC, dI) vwCl [(k0, .inr (1, [.ref k_g, .int ak, .int il, .int mi, .int xe, .long bi, .int fa, .int cu])), (k_g, .inl (cB_g, 8, .inr (.inl g)))] s.heap := hP
  have hD : va_D A [(k0, .inr (1, [.ref k_g, .int ak, .int il, .int mi, .int xe, .long bi, .int fa, .int cu])), (k_g, .inl (cB_g, 8, .inr (.inl g)))] := hD
  generalize hT : mf_Y_sum g ak il mi xe bi fa cu p1 p2 p3 p4 = T
  have hF := hT.symm
  unfold mf_Y_sum at hF
  have hl := lv_entry ([.ref k0, .int p1, .int p2, .int p3, .int p4]) (n := 6) (Nat.le_of_ble_eq_true rfl)
  rw [lg_entry_eq]
  generalize (lg_sl ([.ref k0, .int p1, .int p2, .int p3, .int p4]) ++ List.replicate (6 - (lg_sl ([.ref k0, .int p1, .int p2, .int p3, .int p4])).length) Slot.unset).toArray = ls at hl ⊢
  have hl : lv_has ls 6 [(0, .ref k0), (1, .int p1), (2, .int p2), (3, .int p3), (4, .int p4)] := hl
  refine lv_aload_n hx hb dY_sum_0 rfl (lv_at hl 0 rfl) ?_
  refine lv_iload_n hx hb dY_sum_1 rfl (lv_at hl 1 rfl) ?_
  refine lv_iload_n hx hb dY_sum_2 rfl (lv_at hl 2 rfl) ?_
  refine lv_iload_n hx hb dY_sum_3 rfl (lv_at hl 3 rfl) ?_
  refine lv_iload hx hb dY_sum_4 (lv_at hl 4 rfl) ?_
  refine xj_vi (As := [.int p1, .int p2, .int p3, .int p4]) (rest := []) (Wd := mw_Y k0 k_g cB_g) (wr := []) ⟨hx, hb, hml, hown, hts⟩ (mc_Y_two l dC dI k0 k_g cB_g g ak il mi xe bi fa cu p1 p2 p3 p4) (cwV 4 hts (gY_two _) rfl rfl rfl (by decide +kernel) ⟨Nat.le_of_ble_eq_true rfl, Nat.le_of_ble_eq_true rfl⟩) hP hK hD hS hA [0, 1] [] [0] rfl (by decide) rfl (by decide) (by decide) rfl (va_recv hK hP (ci := 1) (q0 := 0) rfl rfl) rfl hl.1 rfl (Nat.le_of_ble_eq_true rfl) dY_sum_6 ⟨Nat.zero_le _, Nat.zero_le _⟩ (fun H9 locs9 hP hD hS => ?_)
  have hP : va_P (dC, dI) vwCl [(k0, .inr (1, [.ref k_g, .int ak, .int il, .int mi, .int xe, .long bi, .int fa, .int cu])), (k_g, .inl (cB_g, 8, .inr (.inl g)))] _ := hP
  have hD : va_D A [(k0, .inr (1, [.ref k_g, .int ak, .int il, .int mi, .int xe, .long bi, .int fa, .int cu])), (k_g, .inl (cB_g, 8, .inr (.inl g)))] := hD
  refine lv_topi (fun y1 ey1 => ?_)
  replace hF := xj_bz hF ey1
  refine lv_istore (lv' := [(5, .int y1), (0, .ref k0), (1, .int p1), (2, .int p2), (3, .int p3), (4, .int p4)]) hx hb dY_sum_9 hl (by decide) rfl (fun ls hl => ?_)
  refine lv_iload hx hb dY_sum_11 (lv_at hl 0 rfl) ?_
  refine lv_if_ge (tgt := 21) hx hb dY_sum_13 (by decide) (fun c2 => ?_) (fun c2 => ?_)
  · replace hF := xj_t hF c2
    refine lv_aload_n hx hb dY_sum_21 rfl (lv_at hl 1 rfl) ?_
    refine lv_aload_n hx hb dY_sum_22 rfl (lv_at hl 1 rfl) ?_
    refine lv_iload_n hx hb dY_sum_23 rfl (lv_at hl 2 rfl) ?_
    refine lv_aload_n hx hb dY_sum_24 rfl (lv_at hl 1 rfl) ?_
    refine lv_iload_n hx hb dY_sum_25 rfl (lv_at hl 2 rfl) ?_
    refine lv_iload_n hx hb dY_sum_26 rfl (lv_at hl 4 rfl) ?_
    refine xj_vl (As := [.int p1, .int p3]) (rest := [.int p1, .ref k0, .ref k0]) (Wd := mw_Y k0 k_g cB_g) (wr := []) ⟨hx, hb, hml, hown, hts⟩ (mc_Y_in l dC dI k0 k_g cB_g g ak il mi xe bi fa cu p1 p3 ((ms_two (xj_ge ey1 c2)).2.1)) (cwV 2 hts (gY_in _) rfl rfl rfl (by decide +kernel) ⟨Nat.le_of_ble_eq_true rfl, Nat.le_of_ble_eq_true rfl⟩) hP hK hD hS hA [0, 1] [] [0] rfl (by decide) rfl (by decide) (by decide) rfl (va_recv hK hP (ci := 1) (q0 := 0) rfl rfl) rfl hl.1 rfl (Nat.le_of_ble_eq_true rfl) dY_sum_27 ⟨Nat.zero_le _, Nat.zero_le _⟩ (fun H9 locs9 hP hD hS => ?_)
    have hP : va_P (dC, dI) vwCl [(k0, .inr (1, [.ref k_g, .int ak, .int il, .int mi, .int xe, .long bi, .int fa, .int cu])), (k_g, .inl (cB_g, 8, .inr (.inl g)))] _ := hP
    have hD : va_D A [(k0, .inr (1, [.ref k_g, .int ak, .int il, .int mi, .int xe, .long bi, .int fa, .int cu])), (k_g, .inl (cB_g, 8, .inr (.inl g)))] := hD
    refine lv_topl (fun y3 ey3 => ?_)
    replace hF := xj_bz hF ey3
    refine lv_aload_n hx hb dY_sum_30 rfl (lv_at hl 1 rfl) ?_
    refine lv_iload_n hx hb dY_sum_31 rfl (lv_at hl 2 rfl) ?_
    refine lv_iload_n hx hb dY_sum_32 rfl (lv_at hl 3 rfl) ?_
    refine xj_vl (As := [.int p1, .int p2]) (rest := [.long y3, .int p1, .ref k0, .ref k0]) (Wd := mw_Y k0 k_g cB_g) (wr := []) ⟨hx, hb, hml, hown, hts⟩ (mc_Y_in l dC dI k0 k_g cB_g g ak il mi xe bi fa cu p1 p2 ((ms_two (xj_ge ey1 c2)).1)) (cwV 2 hts (gY_in _) rfl rfl rfl (by decide +kernel) ⟨Nat.le_of_ble_eq_true rfl, Nat.le_of_ble_eq_true rfl⟩) hP hK hD hS hA [0, 1] [] [0] rfl (by decide) rfl (by decide) (by decide) rfl (va_recv hK hP (ci := 1) (q0 := 0) rfl rfl) rfl hl.1 rfl (Nat.le_of_ble_eq_true rfl) dY_sum_33 ⟨Nat.zero_le _, Nat.zero_le _⟩ (fun H9 locs9 hP hD hS => ?_)
    have hP : va_P (dC, dI) vwCl [(k0, .inr (1, [.ref k_g, .int ak, .int il, .int mi, .int xe, .long bi, .int fa, .int cu])), (k_g, .inl (cB_g, 8, .inr (.inl g)))] _ := hP
    have hD : va_D A [(k0, .inr (1, [.ref k_g, .int ak, .int il, .int mi, .int xe, .long bi, .int fa, .int cu])), (k_g, .inl (cB_g, 8, .inr (.inl g)))] := hD
    refine lv_topl (fun y4 ey4 => ?_)
    replace hF := xj_bz hF ey4
    obtain ⟨q5, eq5⟩ : ∃ z : Int64 × (Nat → Int64) × Int32 × Int32 × Int32 × Int32 × Int64 × Int32 × Int32, z = (mf_Y_added g ak il mi xe bi fa cu p1 y3 y4) := ⟨_, rfl⟩
    replace hF := xj_bz hF eq5
    refine xj_vl (r := q5) (As := [.int p1, .long y3, .long y4]) (rest := [.ref k0]) (Wd := mw_Y k0 k_g cB_g) (wr := []) ⟨hx, hb, hml, hown, hts⟩ (by rw [eq5]; exact mc_Y_added l dC dI k0 k_g cB_g g ak il mi xe bi fa cu p1 y3 y4) (cwV 3 hts (gY_added _) rfl rfl rfl (by decide +kernel) ⟨Nat.le_of_ble_eq_true rfl, Nat.le_of_ble_eq_true rfl⟩) hP hK hD hS hA [0, 1] [] [0] rfl (by decide) rfl (by decide) (by decide) rfl (va_recv hK hP (ci := 1) (q0 := 0) rfl rfl) rfl hl.1 rfl (Nat.le_of_ble_eq_true rfl) dY_sum_36 ⟨Nat.zero_le _, Nat.zero_le _⟩ (fun H9 locs9 hP hD hS => ?_)
    have hP : va_P (dC, dI) vwCl [(k0, .inr (1, [.ref k_g, .int q5.2.2.1, .int q5.2.2.2.1, .int q5.2.2.2.2.1, .int q5.2.2.2.2.2.1, .long q5.2.2.2.2.2.2.1, .int q5.2.2.2.2.2.2.2.1, .int q5.2.2.2.2.2.2.2.2])), (k_g, .inl (cB_g, 8, .inr (.inl q5.2.1)))] _ := hP
    have hD : va_D A [(k0, .inr (1, [.ref k_g, .int q5.2.2.1, .int q5.2.2.2.1, .int q5.2.2.2.2.1, .int q5.2.2.2.2.2.1, .long q5.2.2.2.2.2.2.1, .int q5.2.2.2.2.2.2.2.1, .int q5.2.2.2.2.2.2.2.2])), (k_g, .inl (cB_g, 8, .inr (.inl q5.2.1)))] := hD
    refine lv_iload hx hb dY_sum_39 (lv_at hl 5 rfl) ?_
    obtain ⟨q6, eq6⟩ : ∃ z : Int32 × (Nat → Int64) × Int32 × Int32 × Int32 × Int32 × Int64 × Int32 × Int32, z = (mf_Y_gives q5.2.1 q5.2.2.1 q5.2.2.2.1 q5.2.2.2.2.1 q5.2.2.2.2.2.1 q5.2.2.2.2.2.2.1 q5.2.2.2.2.2.2.2.1 q5.2.2.2.2.2.2.2.2 q5.1 p4) := ⟨_, rfl⟩
    replace hF := xj_bz hF eq6
    refine xj_vi (r := q6) (As := [.long q5.1, .int p4]) (rest := []) (Wd := mw_Y k0 k_g cB_g) (wr := []) ⟨hx, hb, hml, hown, hts⟩ (by rw [eq6]; exact mc_Y_gives l dC dI k0 k_g cB_g q5.2.1 q5.2.2.1 q5.2.2.2.1 q5.2.2.2.2.1 q5.2.2.2.2.2.1 q5.2.2.2.2.2.2.1 q5.2.2.2.2.2.2.2.1 q5.2.2.2.2.2.2.2.2 q5.1 p4 ((ms_two (xj_ge ey1 c2)).2.2) (by rw [eq5]; exact ms_cut_added)) (cwV 2 hts (gY_gives _) rfl rfl rfl (by decide +kernel) ⟨Nat.le_of_ble_eq_true rfl, Nat.le_of_ble_eq_true rfl⟩) hP hK hD hS hA [0, 1] [] [0] rfl (by decide) rfl (by decide) (by decide) rfl (va_recv hK hP (ci := 1) (q0 := 0) rfl rfl) rfl hl.1 rfl (Nat.le_of_ble_eq_true rfl) dY_sum_41 ⟨Nat.zero_le _, Nat.zero_le _⟩ (fun H9 locs9 hP hD hS => ?_)
    have hP : va_P (dC, dI) vwCl [(k0, .inr (1, [.ref k_g, .int q6.2.2.1, .int q6.2.2.2.1, .int q6.2.2.2.2.1, .int q6.2.2.2.2.2.1, .long q6.2.2.2.2.2.2.1, .int q6.2.2.2.2.2.2.2.1, .int q6.2.2.2.2.2.2.2.2])), (k_g, .inl (cB_g, 8, .inr (.inl q6.2.1)))] _ := hP
    have hD : va_D A [(k0, .inr (1, [.ref k_g, .int q6.2.2.1, .int q6.2.2.2.1, .int q6.2.2.2.2.1, .int q6.2.2.2.2.2.1, .long q6.2.2.2.2.2.2.1, .int q6.2.2.2.2.2.2.2.1, .int q6.2.2.2.2.2.2.2.2])), (k_g, .inl (cB_g, 8, .inr (.inl q6.2.1)))] := hD
    exact W.iret (v := q6.1) hx hb hr (fun t ht hW => ⟨⟨_, (q6.2.1, q6.2.2.1, q6.2.2.2.1, q6.2.2.2.2.1, q6.2.2.2.2.2.1, q6.2.2.2.2.2.2.1, q6.2.2.2.2.2.2.2.1, q6.2.2.2.2.2.2.2.2), rfl, hF.symm, by rw [ht]; exact hP, hD⟩, hS.F ht⟩) hS.2.2 dY_sum_44
  · replace hF := xj_f hF c2
    refine lv_iload hx hb dY_sum_16 (lv_at hl 0 rfl) ?_
    refine lv_goto (tgt := 44) hx hb dY_sum_18 (by decide) ?_
    exact W.iret (v := y1) hx hb hr (fun t ht hW => ⟨⟨_, (g, ak, il, mi, xe, bi, fa, cu), rfl, hF.symm, by rw [ht]; exact hP, hD⟩, hS.F ht⟩) hS.2.2 dY_sum_44
def mf_Y_less (g : Nat → Int64) (ak : Int32) (il : Int32) (mi : Int32) (xe : Int32) (bi : Int64) (fa : Int32) (cu : Int32) (p1 : Int32) (p2 : Int32) (p3 : Int32) (p4 : Int32) : Int32 × (Nat → Int64) × Int32 × Int32 × Int32 × Int32 × Int64 × Int32 × Int32 := (xj_bnd (mf_Y_two g ak il mi xe bi fa cu p1 p2 p3 p4) (fun y1 => (if 0 ≤ y1 then (xj_bnd (mf_Y_in g ak il mi xe bi fa cu p1 p3) (fun y3 => (xj_bnd (mf_Y_in g ak il mi xe bi fa cu p1 p2) (fun y4 => (xj_bnd (mf_Y_other y4) (fun y5 => (xj_bnd (mf_Y_added g ak il mi xe bi fa cu p1 y3 y5) (fun q6 => (xj_bnd (mf_Y_gives q6.2.1 q6.2.2.1 q6.2.2.2.1 q6.2.2.2.2.1 q6.2.2.2.2.2.1 q6.2.2.2.2.2.2.1 q6.2.2.2.2.2.2.2.1 q6.2.2.2.2.2.2.2.2 q6.1 p4) (fun q7 => (q7.1, (q7.2.1, q7.2.2.1, q7.2.2.2.1, q7.2.2.2.2.1, q7.2.2.2.2.2.1, q7.2.2.2.2.2.2.1, q7.2.2.2.2.2.2.2.1, q7.2.2.2.2.2.2.2.2)))))))))))) else (y1, (g, ak, il, mi, xe, bi, fa, cu)))))
set_option maxHeartbeats 4000000 in
set_option maxRecDepth 100000 in
theorem mc_Y_less (l : Launch) (dC : Nat → ClassId) (dI : Nat → Nat → Nat) (k0 k_g : Nat) (cB_g : ClassId) (g : Nat → Int64) (ak : Int32) (il : Int32) (mi : Int32) (xe : Int32) (bi : Int64) (fa : Int32) (cu : Int32) (p1 : Int32) (p2 : Int32) (p3 : Int32) (p4 : Int32) : xj_Oi l (dC, dI) vwCl [(cB_g, .long)] (mw_Y k0 k_g cB_g) yY_less wsY_less ({ frames := 3, cells := 0, slots := 0, locals := 101 }) [.ref k0, .int p1, .int p2, .int p3, .int p4] (g, ak, il, mi, xe, bi, fa, cu) (mf_Y_less g ak il mi xe bi fa cu p1 p2 p3 p4) := by
  intro sz
  refine Met.ofW (cc := cY_less) (maxL := 6) (ret := (some .int)) (by decide) rfl ?_
  intro p e s m args below meth c s₁ B hml hv
  obtain ⟨rfl, hsz, hP, hK, hD0⟩ := hv
  have hx := B.exec
  have hb := B.bytes
  have hr := B.returns
  have hts := atoms_spec (ws := wsY_less) B.pre
  have hown : s.vm.findClass RX1 = some m.cls := findClass_of_methodNamed B.named
  have hlocks := B.notSynchronized
  subst hsz
  have hD := hD0.self (sz := s.heap.size)
  generalize hAe : va_A (mw_Y k0 k_g cB_g (g, ak, il, mi, xe, bi, fa, cu)) s.heap.size = A at hD ⊢
  have hA : ∀ q : Nat, s.heap.size ≤ q → A q := fun q h => by rw [← hAe]; exact Or.inr h
  have hS : va_S A s.heap s.heap [] := va_S.rf
  have hP : va_P (dC, dI) vwCl [(k0, .inr (1, [.ref k_g, .int ak, .int il, .int mi, .int xe, .long bi, .int fa, .int cu])), (k_g, .inl (cB_g, 8, .inr (.inl g)))] s.heap := hP
  have hD : va_D A [(k0, .inr (1, [.ref k_g, .int ak, .int il, .int mi, .int xe, .long bi, .int fa, .int cu])), (k_g, .inl (cB_g, 8, .inr (.inl g)))] := hD
  generalize hT : mf_Y_less g ak il mi xe bi fa cu p1 p2 p3 p4 = T
  have hF := hT.symm
  unfold mf_Y_less at hF
  have hl := lv_entry ([.ref k0, .int p1, .int p2, .int p3, .int p4]) (n := 6) (Nat.le_of_ble_eq_true rfl)
  rw [lg_entry_eq]
  generalize (lg_sl ([.ref k0, .int p1, .int p2, .int p3, .int p4]) ++ List.replicate (6 - (lg_sl ([.ref k0, .int p1, .int p2, .int p3, .int p4])).length) Slot.unset).toArray = ls at hl ⊢
  have hl : lv_has ls 6 [(0, .ref k0), (1, .int p1), (2, .int p2), (3, .int p3), (4, .int p4)] := hl
  refine lv_aload_n hx hb dY_less_0 rfl (lv_at hl 0 rfl) ?_
  refine lv_iload_n hx hb dY_less_1 rfl (lv_at hl 1 rfl) ?_
  refine lv_iload_n hx hb dY_less_2 rfl (lv_at hl 2 rfl) ?_
  refine lv_iload_n hx hb dY_less_3 rfl (lv_at hl 3 rfl) ?_
  refine lv_iload hx hb dY_less_4 (lv_at hl 4 rfl) ?_
  refine xj_vi (As := [.int p1, .int p2, .int p3, .int p4]) (rest := []) (Wd := mw_Y k0 k_g cB_g) (wr := []) ⟨hx, hb, hml, hown, hts⟩ (mc_Y_two l dC dI k0 k_g cB_g g ak il mi xe bi fa cu p1 p2 p3 p4) (cwV 4 hts (gY_two _) rfl rfl rfl (by decide +kernel) ⟨Nat.le_of_ble_eq_true rfl, Nat.le_of_ble_eq_true rfl⟩) hP hK hD hS hA [0, 1] [] [0] rfl (by decide) rfl (by decide) (by decide) rfl (va_recv hK hP (ci := 1) (q0 := 0) rfl rfl) rfl hl.1 rfl (Nat.le_of_ble_eq_true rfl) dY_less_6 ⟨Nat.zero_le _, Nat.zero_le _⟩ (fun H9 locs9 hP hD hS => ?_)
  have hP : va_P (dC, dI) vwCl [(k0, .inr (1, [.ref k_g, .int ak, .int il, .int mi, .int xe, .long bi, .int fa, .int cu])), (k_g, .inl (cB_g, 8, .inr (.inl g)))] _ := hP
  have hD : va_D A [(k0, .inr (1, [.ref k_g, .int ak, .int il, .int mi, .int xe, .long bi, .int fa, .int cu])), (k_g, .inl (cB_g, 8, .inr (.inl g)))] := hD
  refine lv_topi (fun y1 ey1 => ?_)
  replace hF := xj_bz hF ey1
  refine lv_istore (lv' := [(5, .int y1), (0, .ref k0), (1, .int p1), (2, .int p2), (3, .int p3), (4, .int p4)]) hx hb dY_less_9 hl (by decide) rfl (fun ls hl => ?_)
  refine lv_iload hx hb dY_less_11 (lv_at hl 0 rfl) ?_
  refine lv_if_ge (tgt := 21) hx hb dY_less_13 (by decide) (fun c2 => ?_) (fun c2 => ?_)
  · replace hF := xj_t hF c2
    refine lv_aload_n hx hb dY_less_21 rfl (lv_at hl 1 rfl) ?_
    refine lv_aload_n hx hb dY_less_22 rfl (lv_at hl 1 rfl) ?_
    refine lv_iload_n hx hb dY_less_23 rfl (lv_at hl 2 rfl) ?_
    refine lv_aload_n hx hb dY_less_24 rfl (lv_at hl 1 rfl) ?_
    refine lv_iload_n hx hb dY_less_25 rfl (lv_at hl 2 rfl) ?_
    refine lv_iload_n hx hb dY_less_26 rfl (lv_at hl 4 rfl) ?_
    refine xj_vl (As := [.int p1, .int p3]) (rest := [.int p1, .ref k0, .ref k0]) (Wd := mw_Y k0 k_g cB_g) (wr := []) ⟨hx, hb, hml, hown, hts⟩ (mc_Y_in l dC dI k0 k_g cB_g g ak il mi xe bi fa cu p1 p3 ((ms_two (xj_ge ey1 c2)).2.1)) (cwV 2 hts (gY_in _) rfl rfl rfl (by decide +kernel) ⟨Nat.le_of_ble_eq_true rfl, Nat.le_of_ble_eq_true rfl⟩) hP hK hD hS hA [0, 1] [] [0] rfl (by decide) rfl (by decide) (by decide) rfl (va_recv hK hP (ci := 1) (q0 := 0) rfl rfl) rfl hl.1 rfl (Nat.le_of_ble_eq_true rfl) dY_less_27 ⟨Nat.zero_le _, Nat.zero_le _⟩ (fun H9 locs9 hP hD hS => ?_)
    have hP : va_P (dC, dI) vwCl [(k0, .inr (1, [.ref k_g, .int ak, .int il, .int mi, .int xe, .long bi, .int fa, .int cu])), (k_g, .inl (cB_g, 8, .inr (.inl g)))] _ := hP
    have hD : va_D A [(k0, .inr (1, [.ref k_g, .int ak, .int il, .int mi, .int xe, .long bi, .int fa, .int cu])), (k_g, .inl (cB_g, 8, .inr (.inl g)))] := hD
    refine lv_topl (fun y3 ey3 => ?_)
    replace hF := xj_bz hF ey3
    refine lv_aload_n hx hb dY_less_30 rfl (lv_at hl 1 rfl) ?_
    refine lv_iload_n hx hb dY_less_31 rfl (lv_at hl 2 rfl) ?_
    refine lv_iload_n hx hb dY_less_32 rfl (lv_at hl 3 rfl) ?_
    refine xj_vl (As := [.int p1, .int p2]) (rest := [.long y3, .int p1, .ref k0, .ref k0]) (Wd := mw_Y k0 k_g cB_g) (wr := []) ⟨hx, hb, hml, hown, hts⟩ (mc_Y_in l dC dI k0 k_g cB_g g ak il mi xe bi fa cu p1 p2 ((ms_two (xj_ge ey1 c2)).1)) (cwV 2 hts (gY_in _) rfl rfl rfl (by decide +kernel) ⟨Nat.le_of_ble_eq_true rfl, Nat.le_of_ble_eq_true rfl⟩) hP hK hD hS hA [0, 1] [] [0] rfl (by decide) rfl (by decide) (by decide) rfl (va_recv hK hP (ci := 1) (q0 := 0) rfl rfl) rfl hl.1 rfl (Nat.le_of_ble_eq_true rfl) dY_less_33 ⟨Nat.zero_le _, Nat.zero_le _⟩ (fun H9 locs9 hP hD hS => ?_)
    have hP : va_P (dC, dI) vwCl [(k0, .inr (1, [.ref k_g, .int ak, .int il, .int mi, .int xe, .long bi, .int fa, .int cu])), (k_g, .inl (cB_g, 8, .inr (.inl g)))] _ := hP
    have hD : va_D A [(k0, .inr (1, [.ref k_g, .int ak, .int il, .int mi, .int xe, .long bi, .int fa, .int cu])), (k_g, .inl (cB_g, 8, .inr (.inl g)))] := hD
    refine lv_topl (fun y4 ey4 => ?_)
    replace hF := xj_bz hF ey4
    refine xj_sl (As := [.long y4]) (rest := [.long y3, .int p1, .ref k0, .ref k0]) ⟨hx, hb, hml, hown, hts⟩ (mc_Y_other l y4) (va_cwS 1 hts (gY_other _) rfl rfl rfl (by decide +kernel) ⟨Nat.le_of_ble_eq_true rfl, Nat.le_of_ble_eq_true rfl⟩) hS hA rfl hl.1 rfl (Nat.le_of_ble_eq_true rfl) dY_less_36 ⟨Nat.zero_le _, Nat.zero_le _⟩ (fun H9 locs9 hk9 hS => ?_)
    have hP := xj_kept hP hk9
    refine lv_topl (fun y5 ey5 => ?_)
    replace hF := xj_bz hF ey5
    obtain ⟨q6, eq6⟩ : ∃ z : Int64 × (Nat → Int64) × Int32 × Int32 × Int32 × Int32 × Int64 × Int32 × Int32, z = (mf_Y_added g ak il mi xe bi fa cu p1 y3 y5) := ⟨_, rfl⟩
    replace hF := xj_bz hF eq6
    refine xj_vl (r := q6) (As := [.int p1, .long y3, .long y5]) (rest := [.ref k0]) (Wd := mw_Y k0 k_g cB_g) (wr := []) ⟨hx, hb, hml, hown, hts⟩ (by rw [eq6]; exact mc_Y_added l dC dI k0 k_g cB_g g ak il mi xe bi fa cu p1 y3 y5) (cwV 3 hts (gY_added _) rfl rfl rfl (by decide +kernel) ⟨Nat.le_of_ble_eq_true rfl, Nat.le_of_ble_eq_true rfl⟩) hP hK hD hS hA [0, 1] [] [0] rfl (by decide) rfl (by decide) (by decide) rfl (va_recv hK hP (ci := 1) (q0 := 0) rfl rfl) rfl hl.1 rfl (Nat.le_of_ble_eq_true rfl) dY_less_39 ⟨Nat.zero_le _, Nat.zero_le _⟩ (fun H9 locs9 hP hD hS => ?_)
    have hP : va_P (dC, dI) vwCl [(k0, .inr (1, [.ref k_g, .int q6.2.2.1, .int q6.2.2.2.1, .int q6.2.2.2.2.1, .int q6.2.2.2.2.2.1, .long q6.2.2.2.2.2.2.1, .int q6.2.2.2.2.2.2.2.1, .int q6.2.2.2.2.2.2.2.2])), (k_g, .inl (cB_g, 8, .inr (.inl q6.2.1)))] _ := hP
    have hD : va_D A [(k0, .inr (1, [.ref k_g, .int q6.2.2.1, .int q6.2.2.2.1, .int q6.2.2.2.2.1, .int q6.2.2.2.2.2.1, .long q6.2.2.2.2.2.2.1, .int q6.2.2.2.2.2.2.2.1, .int q6.2.2.2.2.2.2.2.2])), (k_g, .inl (cB_g, 8, .inr (.inl q6.2.1)))] := hD
    refine lv_iload hx hb dY_less_42 (lv_at hl 5 rfl) ?_
    obtain ⟨q7, eq7⟩ : ∃ z : Int32 × (Nat → Int64) × Int32 × Int32 × Int32 × Int32 × Int64 × Int32 × Int32, z = (mf_Y_gives q6.2.1 q6.2.2.1 q6.2.2.2.1 q6.2.2.2.2.1 q6.2.2.2.2.2.1 q6.2.2.2.2.2.2.1 q6.2.2.2.2.2.2.2.1 q6.2.2.2.2.2.2.2.2 q6.1 p4) := ⟨_, rfl⟩
    replace hF := xj_bz hF eq7
    refine xj_vi (r := q7) (As := [.long q6.1, .int p4]) (rest := []) (Wd := mw_Y k0 k_g cB_g) (wr := []) ⟨hx, hb, hml, hown, hts⟩ (by rw [eq7]; exact mc_Y_gives l dC dI k0 k_g cB_g q6.2.1 q6.2.2.1 q6.2.2.2.1 q6.2.2.2.2.1 q6.2.2.2.2.2.1 q6.2.2.2.2.2.2.1 q6.2.2.2.2.2.2.2.1 q6.2.2.2.2.2.2.2.2 q6.1 p4 ((ms_two (xj_ge ey1 c2)).2.2) (by rw [eq6]; exact ms_cut_added)) (cwV 2 hts (gY_gives _) rfl rfl rfl (by decide +kernel) ⟨Nat.le_of_ble_eq_true rfl, Nat.le_of_ble_eq_true rfl⟩) hP hK hD hS hA [0, 1] [] [0] rfl (by decide) rfl (by decide) (by decide) rfl (va_recv hK hP (ci := 1) (q0 := 0) rfl rfl) rfl hl.1 rfl (Nat.le_of_ble_eq_true rfl) dY_less_44 ⟨Nat.zero_le _, Nat.zero_le _⟩ (fun H9 locs9 hP hD hS => ?_)
    have hP : va_P (dC, dI) vwCl [(k0, .inr (1, [.ref k_g, .int q7.2.2.1, .int q7.2.2.2.1, .int q7.2.2.2.2.1, .int q7.2.2.2.2.2.1, .long q7.2.2.2.2.2.2.1, .int q7.2.2.2.2.2.2.2.1, .int q7.2.2.2.2.2.2.2.2])), (k_g, .inl (cB_g, 8, .inr (.inl q7.2.1)))] _ := hP
    have hD : va_D A [(k0, .inr (1, [.ref k_g, .int q7.2.2.1, .int q7.2.2.2.1, .int q7.2.2.2.2.1, .int q7.2.2.2.2.2.1, .long q7.2.2.2.2.2.2.1, .int q7.2.2.2.2.2.2.2.1, .int q7.2.2.2.2.2.2.2.2])), (k_g, .inl (cB_g, 8, .inr (.inl q7.2.1)))] := hD
    exact W.iret (v := q7.1) hx hb hr (fun t ht hW => ⟨⟨_, (q7.2.1, q7.2.2.1, q7.2.2.2.1, q7.2.2.2.2.1, q7.2.2.2.2.2.1, q7.2.2.2.2.2.2.1, q7.2.2.2.2.2.2.2.1, q7.2.2.2.2.2.2.2.2), rfl, hF.symm, by rw [ht]; exact hP, hD⟩, hS.F ht⟩) hS.2.2 dY_less_47
  · replace hF := xj_f hF c2
    refine lv_iload hx hb dY_less_16 (lv_at hl 0 rfl) ?_
    refine lv_goto (tgt := 47) hx hb dY_less_18 (by decide) ?_
    exact W.iret (v := y1) hx hb hr (fun t ht hW => ⟨⟨_, (g, ak, il, mi, xe, bi, fa, cu), rfl, hF.symm, by rw [ht]; exact hP, hD⟩, hS.F ht⟩) hS.2.2 dY_less_47
def mf_Y_negative (g : Nat → Int64) (ak : Int32) (il : Int32) (mi : Int32) (xe : Int32) (bi : Int64) (fa : Int32) (cu : Int32) (p1 : Int32) (p2 : Int32) (p3 : Int32) : Int32 × (Nat → Int64) × Int32 × Int32 × Int32 × Int32 × Int64 × Int32 × Int32 := (xj_bnd (mf_Y_one g ak il mi xe bi fa cu p1 p2 p3) (fun y1 => (if 0 ≤ y1 then (xj_bnd (mf_Y_in g ak il mi xe bi (0 : Int32) (0 : Int32) p1 p2) (fun y3 => (xj_bnd (mf_Y_other y3) (fun y4 => (xj_bnd (mf_Y_gives g ak il mi xe bi (0 : Int32) (0 : Int32) y4 p3) (fun q5 => (q5.1, (q5.2.1, q5.2.2.1, q5.2.2.2.1, q5.2.2.2.2.1, q5.2.2.2.2.2.1, q5.2.2.2.2.2.2.1, q5.2.2.2.2.2.2.2.1, q5.2.2.2.2.2.2.2.2)))))))) else (y1, (g, ak, il, mi, xe, bi, fa, cu)))))
set_option maxHeartbeats 4000000 in
set_option maxRecDepth 100000 in
theorem mc_Y_negative (l : Launch) (dC : Nat → ClassId) (dI : Nat → Nat → Nat) (k0 k_g : Nat) (cB_g : ClassId) (g : Nat → Int64) (ak : Int32) (il : Int32) (mi : Int32) (xe : Int32) (bi : Int64) (fa : Int32) (cu : Int32) (p1 : Int32) (p2 : Int32) (p3 : Int32) : xj_Oi l (dC, dI) vwCl [(cB_g, .long)] (mw_Y k0 k_g cB_g) yY_negative wsY_negative ({ frames := 3, cells := 0, slots := 0, locals := 65 }) [.ref k0, .int p1, .int p2, .int p3] (g, ak, il, mi, xe, bi, fa, cu) (mf_Y_negative g ak il mi xe bi fa cu p1 p2 p3) := by
  intro sz
  refine Met.ofW (cc := cY_negative) (maxL := 5) (ret := (some .int)) (by decide) rfl ?_
  intro p e s m args below meth c s₁ B hml hv
  obtain ⟨rfl, hsz, hP, hK, hD0⟩ := hv
  have hx := B.exec
  have hb := B.bytes
  have hr := B.returns
  have hts := atoms_spec (ws := wsY_negative) B.pre
  have hown : s.vm.findClass RX1 = some m.cls := findClass_of_methodNamed B.named
  have hlocks := B.notSynchronized
  subst hsz
  have hD := hD0.self (sz := s.heap.size)
  generalize hAe : va_A (mw_Y k0 k_g cB_g (g, ak, il, mi, xe, bi, fa, cu)) s.heap.size = A at hD ⊢
  have hA : ∀ q : Nat, s.heap.size ≤ q → A q := fun q h => by rw [← hAe]; exact Or.inr h
  have hS : va_S A s.heap s.heap [] := va_S.rf
  have hP : va_P (dC, dI) vwCl [(k0, .inr (1, [.ref k_g, .int ak, .int il, .int mi, .int xe, .long bi, .int fa, .int cu])), (k_g, .inl (cB_g, 8, .inr (.inl g)))] s.heap := hP
  have hD : va_D A [(k0, .inr (1, [.ref k_g, .int ak, .int il, .int mi, .int xe, .long bi, .int fa, .int cu])), (k_g, .inl (cB_g, 8, .inr (.inl g)))] := hD
  generalize hT : mf_Y_negative g ak il mi xe bi fa cu p1 p2 p3 = T
  have hF := hT.symm
  unfold mf_Y_negative at hF
  have hl := lv_entry ([.ref k0, .int p1, .int p2, .int p3]) (n := 5) (Nat.le_of_ble_eq_true rfl)
  rw [lg_entry_eq]
  generalize (lg_sl ([.ref k0, .int p1, .int p2, .int p3]) ++ List.replicate (5 - (lg_sl ([.ref k0, .int p1, .int p2, .int p3])).length) Slot.unset).toArray = ls at hl ⊢
  have hl : lv_has ls 5 [(0, .ref k0), (1, .int p1), (2, .int p2), (3, .int p3)] := hl
  refine lv_aload_n hx hb dY_negative_0 rfl (lv_at hl 0 rfl) ?_
  refine lv_iload_n hx hb dY_negative_1 rfl (lv_at hl 1 rfl) ?_
  refine lv_iload_n hx hb dY_negative_2 rfl (lv_at hl 2 rfl) ?_
  refine lv_iload_n hx hb dY_negative_3 rfl (lv_at hl 3 rfl) ?_
  refine xj_vi (As := [.int p1, .int p2, .int p3]) (rest := []) (Wd := mw_Y k0 k_g cB_g) (wr := []) ⟨hx, hb, hml, hown, hts⟩ (mc_Y_one l dC dI k0 k_g cB_g g ak il mi xe bi fa cu p1 p2 p3) (cwV 3 hts (gY_one _) rfl rfl rfl (by decide +kernel) ⟨Nat.le_of_ble_eq_true rfl, Nat.le_of_ble_eq_true rfl⟩) hP hK hD hS hA [0, 1] [] [0] rfl (by decide) rfl (by decide) (by decide) rfl (va_recv hK hP (ci := 1) (q0 := 0) rfl rfl) rfl hl.1 rfl (Nat.le_of_ble_eq_true rfl) dY_negative_4 ⟨Nat.zero_le _, Nat.zero_le _⟩ (fun H9 locs9 hP hD hS => ?_)
  have hP : va_P (dC, dI) vwCl [(k0, .inr (1, [.ref k_g, .int ak, .int il, .int mi, .int xe, .long bi, .int fa, .int cu])), (k_g, .inl (cB_g, 8, .inr (.inl g)))] _ := hP
  have hD : va_D A [(k0, .inr (1, [.ref k_g, .int ak, .int il, .int mi, .int xe, .long bi, .int fa, .int cu])), (k_g, .inl (cB_g, 8, .inr (.inl g)))] := hD
  refine lv_topi (fun y1 ey1 => ?_)
  replace hF := xj_bz hF ey1
  refine lv_istore (lv' := [(4, .int y1), (0, .ref k0), (1, .int p1), (2, .int p2), (3, .int p3)]) hx hb dY_negative_7 hl (by decide) rfl (fun ls hl => ?_)
  refine lv_iload hx hb dY_negative_9 (lv_at hl 0 rfl) ?_
  refine lv_if_ge (tgt := 17) hx hb dY_negative_11 (by decide) (fun c2 => ?_) (fun c2 => ?_)
  · replace hF := xj_t hF c2
    refine lv_aload_n hx hb dY_negative_17 rfl (lv_at hl 1 rfl) ?_
    refine lv_iconst (v := (0 : Int32)) hx hb dY_negative_18 (by decide) ?_
    refine va_put (D := (dC, dI)) (ci := 1) (v := .int (0 : Int32)) (ty := .int) (C := RX1) (T := TX1) (N := 8) hx hb hts (fun w9 h9 => List.mem_cons_of_mem _ (inY w9 h9)) tyX1 tyX1_ok nmX1 hown hK hP hD hS 0 rfl rfl 6 (by decide) (hts (.fieldLink RX1 48 "ExactFloatsModel" "fault" "I") (List.mem_cons_of_mem _ mY_44)) (fun _ h9 => h9) rfl (by decide +kernel) rfl rfl (Nat.le_of_ble_eq_true rfl) dY_negative_19 (fun H9 locs9 hP hD hS => ?_)
    have hP : va_P (dC, dI) vwCl [(k0, .inr (1, [.ref k_g, .int ak, .int il, .int mi, .int xe, .long bi, .int (0 : Int32), .int cu])), (k_g, .inl (cB_g, 8, .inr (.inl g)))] _ := hP
    have hD : va_D A [(k0, .inr (1, [.ref k_g, .int ak, .int il, .int mi, .int xe, .long bi, .int (0 : Int32), .int cu])), (k_g, .inl (cB_g, 8, .inr (.inl g)))] := hD
    refine lv_aload_n hx hb dY_negative_22 rfl (lv_at hl 1 rfl) ?_
    refine lv_iconst (v := (0 : Int32)) hx hb dY_negative_23 (by decide) ?_
    refine va_put (D := (dC, dI)) (ci := 1) (v := .int (0 : Int32)) (ty := .boolean) (C := RX1) (T := TX1) (N := 8) hx hb hts (fun w9 h9 => List.mem_cons_of_mem _ (inY w9 h9)) tyX1 tyX1_ok nmX1 hown hK hP hD hS 0 rfl rfl 7 (by decide) (hts (.fieldLink RX1 51 "ExactFloatsModel" "cut" "Z") (List.mem_cons_of_mem _ mY_45)) (fun _ h9 => h9) rfl (by decide +kernel) rfl rfl (Nat.le_of_ble_eq_true rfl) dY_negative_24 (fun H9 locs9 hP hD hS => ?_)
    have hP : va_P (dC, dI) vwCl [(k0, .inr (1, [.ref k_g, .int ak, .int il, .int mi, .int xe, .long bi, .int (0 : Int32), .int (0 : Int32)])), (k_g, .inl (cB_g, 8, .inr (.inl g)))] _ := hP
    have hD : va_D A [(k0, .inr (1, [.ref k_g, .int ak, .int il, .int mi, .int xe, .long bi, .int (0 : Int32), .int (0 : Int32)])), (k_g, .inl (cB_g, 8, .inr (.inl g)))] := hD
    refine lv_aload_n hx hb dY_negative_27 rfl (lv_at hl 1 rfl) ?_
    refine lv_aload_n hx hb dY_negative_28 rfl (lv_at hl 1 rfl) ?_
    refine lv_iload_n hx hb dY_negative_29 rfl (lv_at hl 2 rfl) ?_
    refine lv_iload_n hx hb dY_negative_30 rfl (lv_at hl 3 rfl) ?_
    refine xj_vl (As := [.int p1, .int p2]) (rest := [.ref k0]) (Wd := mw_Y k0 k_g cB_g) (wr := []) ⟨hx, hb, hml, hown, hts⟩ (mc_Y_in l dC dI k0 k_g cB_g g ak il mi xe bi (0 : Int32) (0 : Int32) p1 p2 ((ms_one (xj_ge ey1 c2)).1)) (cwV 2 hts (gY_in _) rfl rfl rfl (by decide +kernel) ⟨Nat.le_of_ble_eq_true rfl, Nat.le_of_ble_eq_true rfl⟩) hP hK hD hS hA [0, 1] [] [0] rfl (by decide) rfl (by decide) (by decide) rfl (va_recv hK hP (ci := 1) (q0 := 0) rfl rfl) rfl hl.1 rfl (Nat.le_of_ble_eq_true rfl) dY_negative_31 ⟨Nat.zero_le _, Nat.zero_le _⟩ (fun H9 locs9 hP hD hS => ?_)
    have hP : va_P (dC, dI) vwCl [(k0, .inr (1, [.ref k_g, .int ak, .int il, .int mi, .int xe, .long bi, .int (0 : Int32), .int (0 : Int32)])), (k_g, .inl (cB_g, 8, .inr (.inl g)))] _ := hP
    have hD : va_D A [(k0, .inr (1, [.ref k_g, .int ak, .int il, .int mi, .int xe, .long bi, .int (0 : Int32), .int (0 : Int32)])), (k_g, .inl (cB_g, 8, .inr (.inl g)))] := hD
    refine lv_topl (fun y3 ey3 => ?_)
    replace hF := xj_bz hF ey3
    refine xj_sl (As := [.long y3]) (rest := [.ref k0]) ⟨hx, hb, hml, hown, hts⟩ (mc_Y_other l y3) (va_cwS 1 hts (gY_other _) rfl rfl rfl (by decide +kernel) ⟨Nat.le_of_ble_eq_true rfl, Nat.le_of_ble_eq_true rfl⟩) hS hA rfl hl.1 rfl (Nat.le_of_ble_eq_true rfl) dY_negative_34 ⟨Nat.zero_le _, Nat.zero_le _⟩ (fun H9 locs9 hk9 hS => ?_)
    have hP := xj_kept hP hk9
    refine lv_topl (fun y4 ey4 => ?_)
    replace hF := xj_bz hF ey4
    refine lv_iload_n hx hb dY_negative_37 rfl (lv_at hl 4 rfl) ?_
    obtain ⟨q5, eq5⟩ : ∃ z : Int32 × (Nat → Int64) × Int32 × Int32 × Int32 × Int32 × Int64 × Int32 × Int32, z = (mf_Y_gives g ak il mi xe bi (0 : Int32) (0 : Int32) y4 p3) := ⟨_, rfl⟩
    replace hF := xj_bz hF eq5
    refine xj_vi (r := q5) (As := [.long y4, .int p3]) (rest := []) (Wd := mw_Y k0 k_g cB_g) (wr := []) ⟨hx, hb, hml, hown, hts⟩ (by rw [eq5]; exact mc_Y_gives l dC dI k0 k_g cB_g g ak il mi xe bi (0 : Int32) (0 : Int32) y4 p3 ((ms_one (xj_ge ey1 c2)).2) (Or.inl rfl)) (cwV 2 hts (gY_gives _) rfl rfl rfl (by decide +kernel) ⟨Nat.le_of_ble_eq_true rfl, Nat.le_of_ble_eq_true rfl⟩) hP hK hD hS hA [0, 1] [] [0] rfl (by decide) rfl (by decide) (by decide) rfl (va_recv hK hP (ci := 1) (q0 := 0) rfl rfl) rfl hl.1 rfl (Nat.le_of_ble_eq_true rfl) dY_negative_38 ⟨Nat.zero_le _, Nat.zero_le _⟩ (fun H9 locs9 hP hD hS => ?_)
    have hP : va_P (dC, dI) vwCl [(k0, .inr (1, [.ref k_g, .int q5.2.2.1, .int q5.2.2.2.1, .int q5.2.2.2.2.1, .int q5.2.2.2.2.2.1, .long q5.2.2.2.2.2.2.1, .int q5.2.2.2.2.2.2.2.1, .int q5.2.2.2.2.2.2.2.2])), (k_g, .inl (cB_g, 8, .inr (.inl q5.2.1)))] _ := hP
    have hD : va_D A [(k0, .inr (1, [.ref k_g, .int q5.2.2.1, .int q5.2.2.2.1, .int q5.2.2.2.2.1, .int q5.2.2.2.2.2.1, .long q5.2.2.2.2.2.2.1, .int q5.2.2.2.2.2.2.2.1, .int q5.2.2.2.2.2.2.2.2])), (k_g, .inl (cB_g, 8, .inr (.inl q5.2.1)))] := hD
    exact W.iret (v := q5.1) hx hb hr (fun t ht hW => ⟨⟨_, (q5.2.1, q5.2.2.1, q5.2.2.2.1, q5.2.2.2.2.1, q5.2.2.2.2.2.1, q5.2.2.2.2.2.2.1, q5.2.2.2.2.2.2.2.1, q5.2.2.2.2.2.2.2.2), rfl, hF.symm, by rw [ht]; exact hP, hD⟩, hS.F ht⟩) hS.2.2 dY_negative_41
  · replace hF := xj_f hF c2
    refine lv_iload hx hb dY_negative_14 (lv_at hl 0 rfl) ?_
    exact W.iret (v := y1) hx hb hr (fun t ht hW => ⟨⟨_, (g, ak, il, mi, xe, bi, fa, cu), rfl, hF.symm, by rw [ht]; exact hP, hD⟩, hS.F ht⟩) hS.2.2 dY_negative_16
def mf_Y_change (g : Nat → Int64) (ak : Int32) (il : Int32) (mi : Int32) (xe : Int32) (bi : Int64) (fa : Int32) (cu : Int32) (p1 : Int32) (p2 : Int32) (p3 : Int32) : Int32 × (Nat → Int64) × Int32 × Int32 × Int32 × Int32 × Int64 × Int32 × Int32 := (xj_bnd (mf_Y_one g ak il mi xe bi fa cu p1 p2 p3) (fun y1 => (if 0 ≤ y1 then (xj_bnd (mf_Y_in g ak il mi xe bi fa cu p1 p2) (fun y3 => (xj_bnd (mf_Y_take g ak il mi xe bi fa cu p1 y3) (fun q4 => (xj_bnd (mf_Y_rounds q4.1 q4.2.1 q4.2.2.1 q4.2.2.2.1 q4.2.2.2.2.1 q4.2.2.2.2.2.1 q4.2.2.2.2.2.2.1 q4.2.2.2.2.2.2.2 ((12 : Int32) - p1) q4.2.2.2.1 q4.2.2.2.2.2.1 ((q4.2.2.2.2.1 - (128 : Int32)) - (56 : Int32)) (0 : Int32)) (fun q5 => (xj_bnd (mf_Y_gives q5.2.1 q5.2.2.1 q5.2.2.2.1 q5.2.2.2.2.1 q5.2.2.2.2.2.1 q5.2.2.2.2.2.2.1 q5.2.2.2.2.2.2.2.1 q5.2.2.2.2.2.2.2.2 q5.1 p3) (fun q6 => (q6.1, (q6.2.1, q6.2.2.1, q6.2.2.2.1, q6.2.2.2.2.1, q6.2.2.2.2.2.1, q6.2.2.2.2.2.2.1, q6.2.2.2.2.2.2.2.1, q6.2.2.2.2.2.2.2.2)))))))))) else (y1, (g, ak, il, mi, xe, bi, fa, cu)))))
set_option maxHeartbeats 4000000 in
set_option maxRecDepth 100000 in
theorem mc_Y_change (l : Launch) (dC : Nat → ClassId) (dI : Nat → Nat → Nat) (k0 k_g : Nat) (cB_g : ClassId) (g : Nat → Int64) (ak : Int32) (il : Int32) (mi : Int32) (xe : Int32) (bi : Int64) (fa : Int32) (cu : Int32) (p1 : Int32) (p2 : Int32) (p3 : Int32) : xj_Oi l (dC, dI) vwCl [(cB_g, .long)] (mw_Y k0 k_g cB_g) yY_change wsY_change ({ frames := 3, cells := 0, slots := 0, locals := 65 }) [.ref k0, .int p1, .int p2, .int p3] (g, ak, il, mi, xe, bi, fa, cu) (mf_Y_change g ak il mi xe bi fa cu p1 p2 p3) := by
  intro sz
  refine Met.ofW (cc := cY_change) (maxL := 5) (ret := (some .int)) (by decide) rfl ?_
  intro p e s m args below meth c s₁ B hml hv
  obtain ⟨rfl, hsz, hP, hK, hD0⟩ := hv
  have hx := B.exec
  have hb := B.bytes
  have hr := B.returns
  have hts := atoms_spec (ws := wsY_change) B.pre
  have hown : s.vm.findClass RX1 = some m.cls := findClass_of_methodNamed B.named
  have hlocks := B.notSynchronized
  subst hsz
  have hD := hD0.self (sz := s.heap.size)
  generalize hAe : va_A (mw_Y k0 k_g cB_g (g, ak, il, mi, xe, bi, fa, cu)) s.heap.size = A at hD ⊢
  have hA : ∀ q : Nat, s.heap.size ≤ q → A q := fun q h => by rw [← hAe]; exact Or.inr h
  have hS : va_S A s.heap s.heap [] := va_S.rf
  have hP : va_P (dC, dI) vwCl [(k0, .inr (1, [.ref k_g, .int ak, .int il, .int mi, .int xe, .long bi, .int fa, .int cu])), (k_g, .inl (cB_g, 8, .inr (.inl g)))] s.heap := hP
  have hD : va_D A [(k0, .inr (1, [.ref k_g, .int ak, .int il, .int mi, .int xe, .long bi, .int fa, .int cu])), (k_g, .inl (cB_g, 8, .inr (.inl g)))] := hD
  generalize hT : mf_Y_change g ak il mi xe bi fa cu p1 p2 p3 = T
  have hF := hT.symm
  unfold mf_Y_change at hF
  have hl := lv_entry ([.ref k0, .int p1, .int p2, .int p3]) (n := 5) (Nat.le_of_ble_eq_true rfl)
  rw [lg_entry_eq]
  generalize (lg_sl ([.ref k0, .int p1, .int p2, .int p3]) ++ List.replicate (5 - (lg_sl ([.ref k0, .int p1, .int p2, .int p3])).length) Slot.unset).toArray = ls at hl ⊢
  have hl : lv_has ls 5 [(0, .ref k0), (1, .int p1), (2, .int p2), (3, .int p3)] := hl
  refine lv_aload_n hx hb dY_change_0 rfl (lv_at hl 0 rfl) ?_
  refine lv_iload_n hx hb dY_change_1 rfl (lv_at hl 1 rfl) ?_
  refine lv_iload_n hx hb dY_change_2 rfl (lv_at hl 2 rfl) ?_
  refine lv_iload_n hx hb dY_change_3 rfl (lv_at hl 3 rfl) ?_
  refine xj_vi (As := [.int p1, .int p2, .int p3]) (rest := []) (Wd := mw_Y k0 k_g cB_g) (wr := []) ⟨hx, hb, hml, hown, hts⟩ (mc_Y_one l dC dI k0 k_g cB_g g ak il mi xe bi fa cu p1 p2 p3) (cwV 3 hts (gY_one _) rfl rfl rfl (by decide +kernel) ⟨Nat.le_of_ble_eq_true rfl, Nat.le_of_ble_eq_true rfl⟩) hP hK hD hS hA [0, 1] [] [0] rfl (by decide) rfl (by decide) (by decide) rfl (va_recv hK hP (ci := 1) (q0 := 0) rfl rfl) rfl hl.1 rfl (Nat.le_of_ble_eq_true rfl) dY_change_4 ⟨Nat.zero_le _, Nat.zero_le _⟩ (fun H9 locs9 hP hD hS => ?_)
  have hP : va_P (dC, dI) vwCl [(k0, .inr (1, [.ref k_g, .int ak, .int il, .int mi, .int xe, .long bi, .int fa, .int cu])), (k_g, .inl (cB_g, 8, .inr (.inl g)))] _ := hP
  have hD : va_D A [(k0, .inr (1, [.ref k_g, .int ak, .int il, .int mi, .int xe, .long bi, .int fa, .int cu])), (k_g, .inl (cB_g, 8, .inr (.inl g)))] := hD
  refine lv_topi (fun y1 ey1 => ?_)
  replace hF := xj_bz hF ey1
  refine lv_istore (lv' := [(4, .int y1), (0, .ref k0), (1, .int p1), (2, .int p2), (3, .int p3)]) hx hb dY_change_7 hl (by decide) rfl (fun ls hl => ?_)
  refine lv_iload hx hb dY_change_9 (lv_at hl 0 rfl) ?_
  refine lv_if_ge (tgt := 17) hx hb dY_change_11 (by decide) (fun c2 => ?_) (fun c2 => ?_)
  · replace hF := xj_t hF c2
    refine lv_aload_n hx hb dY_change_17 rfl (lv_at hl 1 rfl) ?_
    refine lv_iload_n hx hb dY_change_18 rfl (lv_at hl 2 rfl) ?_
    refine lv_aload_n hx hb dY_change_19 rfl (lv_at hl 1 rfl) ?_
    refine lv_iload_n hx hb dY_change_20 rfl (lv_at hl 2 rfl) ?_
    refine lv_iload_n hx hb dY_change_21 rfl (lv_at hl 3 rfl) ?_
    refine xj_vl (As := [.int p1, .int p2]) (rest := [.int p1, .ref k0]) (Wd := mw_Y k0 k_g cB_g) (wr := []) ⟨hx, hb, hml, hown, hts⟩ (mc_Y_in l dC dI k0 k_g cB_g g ak il mi xe bi fa cu p1 p2 ((ms_one (xj_ge ey1 c2)).1)) (cwV 2 hts (gY_in _) rfl rfl rfl (by decide +kernel) ⟨Nat.le_of_ble_eq_true rfl, Nat.le_of_ble_eq_true rfl⟩) hP hK hD hS hA [0, 1] [] [0] rfl (by decide) rfl (by decide) (by decide) rfl (va_recv hK hP (ci := 1) (q0 := 0) rfl rfl) rfl hl.1 rfl (Nat.le_of_ble_eq_true rfl) dY_change_22 ⟨Nat.zero_le _, Nat.zero_le _⟩ (fun H9 locs9 hP hD hS => ?_)
    have hP : va_P (dC, dI) vwCl [(k0, .inr (1, [.ref k_g, .int ak, .int il, .int mi, .int xe, .long bi, .int fa, .int cu])), (k_g, .inl (cB_g, 8, .inr (.inl g)))] _ := hP
    have hD : va_D A [(k0, .inr (1, [.ref k_g, .int ak, .int il, .int mi, .int xe, .long bi, .int fa, .int cu])), (k_g, .inl (cB_g, 8, .inr (.inl g)))] := hD
    refine lv_topl (fun y3 ey3 => ?_)
    replace hF := xj_bz hF ey3
    obtain ⟨q4, eq4⟩ : ∃ z : (Nat → Int64) × Int32 × Int32 × Int32 × Int32 × Int64 × Int32 × Int32, z = (mf_Y_take g ak il mi xe bi fa cu p1 y3) := ⟨_, rfl⟩
    replace hF := xj_bz hF eq4
    refine xj_vv (r := q4) (As := [.int p1, .long y3]) (rest := []) (Wd := mw_Y k0 k_g cB_g) (wr := []) ⟨hx, hb, hml, hown, hts⟩ (by rw [eq4]; exact mc_Y_take l dC dI k0 k_g cB_g g ak il mi xe bi fa cu p1 y3) (cwV 2 hts (gY_take _) rfl rfl rfl (by decide +kernel) ⟨Nat.le_of_ble_eq_true rfl, Nat.le_of_ble_eq_true rfl⟩) hP hK hD hS hA [0, 1] [] [0] rfl (by decide) rfl (by decide) (by decide) rfl (va_recv hK hP (ci := 1) (q0 := 0) rfl rfl) rfl hl.1 rfl (Nat.le_of_ble_eq_true rfl) dY_change_25 ⟨Nat.zero_le _, Nat.zero_le _⟩ (fun H9 locs9 hP hD hS => ?_)
    have hP : va_P (dC, dI) vwCl [(k0, .inr (1, [.ref k_g, .int q4.2.1, .int q4.2.2.1, .int q4.2.2.2.1, .int q4.2.2.2.2.1, .long q4.2.2.2.2.2.1, .int q4.2.2.2.2.2.2.1, .int q4.2.2.2.2.2.2.2])), (k_g, .inl (cB_g, 8, .inr (.inl q4.1)))] _ := hP
    have hD : va_D A [(k0, .inr (1, [.ref k_g, .int q4.2.1, .int q4.2.2.1, .int q4.2.2.2.1, .int q4.2.2.2.2.1, .long q4.2.2.2.2.2.1, .int q4.2.2.2.2.2.2.1, .int q4.2.2.2.2.2.2.2])), (k_g, .inl (cB_g, 8, .inr (.inl q4.1)))] := hD
    refine lv_aload_n hx hb dY_change_28 rfl (lv_at hl 1 rfl) ?_
    refine lv_aload_n hx hb dY_change_29 rfl (lv_at hl 1 rfl) ?_
    refine lv_bipush (v := (12 : Int32)) hx hb dY_change_30 (by decide) ?_
    refine lv_iload_n hx hb dY_change_32 rfl (lv_at hl 2 rfl) ?_
    refine lv_isub hx hb dY_change_33 ?_
    refine lv_aload_n hx hb dY_change_34 rfl (lv_at hl 1 rfl) ?_
    refine va_get (D := (dC, dI)) (ci := 1) (v := .int q4.2.2.2.1) (C := RX1) (T := TX1) (N := 8) hx hb hts (fun w9 h9 => List.mem_cons_of_mem _ (inY w9 h9)) hown hK hP 0 rfl rfl 3 (by decide) (hts (.fieldLink RX1 29 "ExactFloatsModel" "minus" "Z") (List.mem_cons_of_mem _ mY_37)) (fun _ h9 => h9) rfl dY_change_35 ?_
    refine lv_aload_n hx hb dY_change_38 rfl (lv_at hl 1 rfl) ?_
    refine va_get (D := (dC, dI)) (ci := 1) (v := .long q4.2.2.2.2.2.1) (C := RX1) (T := TX1) (N := 8) hx hb hts (fun w9 h9 => List.mem_cons_of_mem _ (inY w9 h9)) hown hK hP 0 rfl rfl 5 (by decide) (hts (.fieldLink RX1 44 "ExactFloatsModel" "bits" "J") (List.mem_cons_of_mem _ mY_43)) (fun _ h9 => h9) rfl dY_change_39 ?_
    refine lv_aload_n hx hb dY_change_42 rfl (lv_at hl 1 rfl) ?_
    refine va_get (D := (dC, dI)) (ci := 1) (v := .int q4.2.2.2.2.1) (C := RX1) (T := TX1) (N := 8) hx hb hts (fun w9 h9 => List.mem_cons_of_mem _ (inY w9 h9)) hown hK hP 0 rfl rfl 4 (by decide) (hts (.fieldLink RX1 34 "ExactFloatsModel" "exponent" "I") (List.mem_cons_of_mem _ mY_39)) (fun _ h9 => h9) rfl dY_change_43 ?_
    refine lv_sipush (v := (128 : Int32)) hx hb dY_change_46 (by decide) ?_
    refine lv_isub hx hb dY_change_49 ?_
    refine lv_bipush (v := (56 : Int32)) hx hb dY_change_50 (by decide) ?_
    refine lv_isub hx hb dY_change_52 ?_
    refine lv_iconst (v := (0 : Int32)) hx hb dY_change_53 (by decide) ?_
    obtain ⟨q5, eq5⟩ : ∃ z : Int64 × (Nat → Int64) × Int32 × Int32 × Int32 × Int32 × Int64 × Int32 × Int32, z = (mf_Y_rounds q4.1 q4.2.1 q4.2.2.1 q4.2.2.2.1 q4.2.2.2.2.1 q4.2.2.2.2.2.1 q4.2.2.2.2.2.2.1 q4.2.2.2.2.2.2.2 ((12 : Int32) - p1) q4.2.2.2.1 q4.2.2.2.2.2.1 ((q4.2.2.2.2.1 - (128 : Int32)) - (56 : Int32)) (0 : Int32)) := ⟨_, rfl⟩
    replace hF := xj_bz hF eq5
    refine xj_vl (r := q5) (As := [.int ((12 : Int32) - p1), .int q4.2.2.2.1, .long q4.2.2.2.2.2.1, .int ((q4.2.2.2.2.1 - (128 : Int32)) - (56 : Int32)), .int (0 : Int32)]) (rest := [.ref k0]) (Wd := mw_Y k0 k_g cB_g) (wr := []) ⟨hx, hb, hml, hown, hts⟩ (by rw [eq5]; exact mc_Y_rounds l dC dI k0 k_g cB_g q4.1 q4.2.1 q4.2.2.1 q4.2.2.2.1 q4.2.2.2.2.1 q4.2.2.2.2.2.1 q4.2.2.2.2.2.2.1 q4.2.2.2.2.2.2.2 ((12 : Int32) - p1) q4.2.2.2.1 q4.2.2.2.2.2.1 ((q4.2.2.2.2.1 - (128 : Int32)) - (56 : Int32)) (0 : Int32) (Or.inl rfl)) (cwV 5 hts (gY_rounds _) rfl rfl rfl (by decide +kernel) ⟨Nat.le_of_ble_eq_true rfl, Nat.le_of_ble_eq_true rfl⟩) hP hK hD hS hA [0, 1] [] [0] rfl (by decide) rfl (by decide) (by decide) rfl (va_recv hK hP (ci := 1) (q0 := 0) rfl rfl) rfl hl.1 rfl (Nat.le_of_ble_eq_true rfl) dY_change_54 ⟨Nat.zero_le _, Nat.zero_le _⟩ (fun H9 locs9 hP hD hS => ?_)
    have hP : va_P (dC, dI) vwCl [(k0, .inr (1, [.ref k_g, .int q5.2.2.1, .int q5.2.2.2.1, .int q5.2.2.2.2.1, .int q5.2.2.2.2.2.1, .long q5.2.2.2.2.2.2.1, .int q5.2.2.2.2.2.2.2.1, .int q5.2.2.2.2.2.2.2.2])), (k_g, .inl (cB_g, 8, .inr (.inl q5.2.1)))] _ := hP
    have hD : va_D A [(k0, .inr (1, [.ref k_g, .int q5.2.2.1, .int q5.2.2.2.1, .int q5.2.2.2.2.1, .int q5.2.2.2.2.2.1, .long q5.2.2.2.2.2.2.1, .int q5.2.2.2.2.2.2.2.1, .int q5.2.2.2.2.2.2.2.2])), (k_g, .inl (cB_g, 8, .inr (.inl q5.2.1)))] := hD
    refine lv_iload_n hx hb dY_change_57 rfl (lv_at hl 4 rfl) ?_
    obtain ⟨q6, eq6⟩ : ∃ z : Int32 × (Nat → Int64) × Int32 × Int32 × Int32 × Int32 × Int64 × Int32 × Int32, z = (mf_Y_gives q5.2.1 q5.2.2.1 q5.2.2.2.1 q5.2.2.2.2.1 q5.2.2.2.2.2.1 q5.2.2.2.2.2.2.1 q5.2.2.2.2.2.2.2.1 q5.2.2.2.2.2.2.2.2 q5.1 p3) := ⟨_, rfl⟩
    replace hF := xj_bz hF eq6
    refine xj_vi (r := q6) (As := [.long q5.1, .int p3]) (rest := []) (Wd := mw_Y k0 k_g cB_g) (wr := []) ⟨hx, hb, hml, hown, hts⟩ (by rw [eq6]; exact mc_Y_gives l dC dI k0 k_g cB_g q5.2.1 q5.2.2.1 q5.2.2.2.1 q5.2.2.2.2.1 q5.2.2.2.2.2.1 q5.2.2.2.2.2.2.1 q5.2.2.2.2.2.2.2.1 q5.2.2.2.2.2.2.2.2 q5.1 p3 ((ms_one (xj_ge ey1 c2)).2) (by rw [eq5]; exact ms_cut_rounds (Or.inl rfl))) (cwV 2 hts (gY_gives _) rfl rfl rfl (by decide +kernel) ⟨Nat.le_of_ble_eq_true rfl, Nat.le_of_ble_eq_true rfl⟩) hP hK hD hS hA [0, 1] [] [0] rfl (by decide) rfl (by decide) (by decide) rfl (va_recv hK hP (ci := 1) (q0 := 0) rfl rfl) rfl hl.1 rfl (Nat.le_of_ble_eq_true rfl) dY_change_58 ⟨Nat.zero_le _, Nat.zero_le _⟩ (fun H9 locs9 hP hD hS => ?_)
    have hP : va_P (dC, dI) vwCl [(k0, .inr (1, [.ref k_g, .int q6.2.2.1, .int q6.2.2.2.1, .int q6.2.2.2.2.1, .int q6.2.2.2.2.2.1, .long q6.2.2.2.2.2.2.1, .int q6.2.2.2.2.2.2.2.1, .int q6.2.2.2.2.2.2.2.2])), (k_g, .inl (cB_g, 8, .inr (.inl q6.2.1)))] _ := hP
    have hD : va_D A [(k0, .inr (1, [.ref k_g, .int q6.2.2.1, .int q6.2.2.2.1, .int q6.2.2.2.2.1, .int q6.2.2.2.2.2.1, .long q6.2.2.2.2.2.2.1, .int q6.2.2.2.2.2.2.2.1, .int q6.2.2.2.2.2.2.2.2])), (k_g, .inl (cB_g, 8, .inr (.inl q6.2.1)))] := hD
    exact W.iret (v := q6.1) hx hb hr (fun t ht hW => ⟨⟨_, (q6.2.1, q6.2.2.1, q6.2.2.2.1, q6.2.2.2.2.1, q6.2.2.2.2.2.1, q6.2.2.2.2.2.2.1, q6.2.2.2.2.2.2.2.1, q6.2.2.2.2.2.2.2.2), rfl, hF.symm, by rw [ht]; exact hP, hD⟩, hS.F ht⟩) hS.2.2 dY_change_61
  · replace hF := xj_f hF c2
    refine lv_iload hx hb dY_change_14 (lv_at hl 0 rfl) ?_
    exact W.iret (v := y1) hx hb hr (fun t ht hW => ⟨⟨_, (g, ak, il, mi, xe, bi, fa, cu), rfl, hF.symm, by rw [ht]; exact hP, hD⟩, hS.F ht⟩) hS.2.2 dY_change_16
def mf_Y_number (g : Nat → Int64) (ak : Int32) (il : Int32) (mi : Int32) (xe : Int32) (bi : Int64) (fa : Int32) (cu : Int32) (p1 : Int32) (p2 : Int32) (p3 : Int32) : Int32 × (Nat → Int64) × Int32 × Int32 × Int32 × Int32 × Int64 × Int32 × Int32 := (xj_bnd (mf_Y_isSize p1) (fun y1 => (if y1 = 0 then ((-5 : Int32), (g, ak, il, mi, xe, bi, fa, cu)) else (xj_bnd (mf_Y_isRegister p3) (fun y3 => (if y3 = 0 then ((-5 : Int32), (g, ak, il, mi, xe, bi, fa, cu)) else (xj_bnd (if 0 ≤ p2 then (Int32.toInt64 p2) else (-(Int32.toInt64 p2))) (fun y6 => (xj_bnd (if 0 ≤ p2 then (0 : Int32) else (1 : Int32)) (fun y8 => (xj_bnd (mf_Y_rounds g ak il mi xe bi fa cu p1 y8 y6 (0 : Int32) (0 : Int32)) (fun q9 => (xj_bnd (mf_Y_gives q9.2.1 q9.2.2.1 q9.2.2.2.1 q9.2.2.2.2.1 q9.2.2.2.2.2.1 q9.2.2.2.2.2.2.1 q9.2.2.2.2.2.2.2.1 q9.2.2.2.2.2.2.2.2 q9.1 p3) (fun q10 => (q10.1, (q10.2.1, q10.2.2.1, q10.2.2.2.1, q10.2.2.2.2.1, q10.2.2.2.2.2.1, q10.2.2.2.2.2.2.1, q10.2.2.2.2.2.2.2.1, q10.2.2.2.2.2.2.2.2))))))))))))))))
set_option maxHeartbeats 4000000 in
set_option maxRecDepth 100000 in
theorem mc_Y_number (l : Launch) (dC : Nat → ClassId) (dI : Nat → Nat → Nat) (k0 k_g : Nat) (cB_g : ClassId) (g : Nat → Int64) (ak : Int32) (il : Int32) (mi : Int32) (xe : Int32) (bi : Int64) (fa : Int32) (cu : Int32) (p1 : Int32) (p2 : Int32) (p3 : Int32) : xj_Oi l (dC, dI) vwCl [(cB_g, .long)] (mw_Y k0 k_g cB_g) yY_number wsY_number ({ frames := 3, cells := 0, slots := 0, locals := 65 }) [.ref k0, .int p1, .int p2, .int p3] (g, ak, il, mi, xe, bi, fa, cu) (mf_Y_number g ak il mi xe bi fa cu p1 p2 p3) := by
  intro sz
  refine Met.ofW (cc := cY_number) (maxL := 6) (ret := (some .int)) (by decide) rfl ?_
  intro p e s m args below meth c s₁ B hml hv
  obtain ⟨rfl, hsz, hP, hK, hD0⟩ := hv
  have hx := B.exec
  have hb := B.bytes
  have hr := B.returns
  have hts := atoms_spec (ws := wsY_number) B.pre
  have hown : s.vm.findClass RX1 = some m.cls := findClass_of_methodNamed B.named
  have hlocks := B.notSynchronized
  subst hsz
  have hD := hD0.self (sz := s.heap.size)
  generalize hAe : va_A (mw_Y k0 k_g cB_g (g, ak, il, mi, xe, bi, fa, cu)) s.heap.size = A at hD ⊢
  have hA : ∀ q : Nat, s.heap.size ≤ q → A q := fun q h => by rw [← hAe]; exact Or.inr h
  have hS : va_S A s.heap s.heap [] := va_S.rf
  have hP : va_P (dC, dI) vwCl [(k0, .inr (1, [.ref k_g, .int ak, .int il, .int mi, .int xe, .long bi, .int fa, .int cu])), (k_g, .inl (cB_g, 8, .inr (.inl g)))] s.heap := hP
  have hD : va_D A [(k0, .inr (1, [.ref k_g, .int ak, .int il, .int mi, .int xe, .long bi, .int fa, .int cu])), (k_g, .inl (cB_g, 8, .inr (.inl g)))] := hD
  generalize hT : mf_Y_number g ak il mi xe bi fa cu p1 p2 p3 = T
  have hF := hT.symm
  unfold mf_Y_number at hF
  have hl := lv_entry ([.ref k0, .int p1, .int p2, .int p3]) (n := 6) (Nat.le_of_ble_eq_true rfl)
  rw [lg_entry_eq]
  generalize (lg_sl ([.ref k0, .int p1, .int p2, .int p3]) ++ List.replicate (6 - (lg_sl ([.ref k0, .int p1, .int p2, .int p3])).length) Slot.unset).toArray = ls at hl ⊢
  have hl : lv_has ls 6 [(0, .ref k0), (1, .int p1), (2, .int p2), (3, .int p3)] := hl
  refine lv_iload_n hx hb dY_number_0 rfl (lv_at hl 1 rfl) ?_
  refine xj_si (As := [.int p1]) (rest := []) ⟨hx, hb, hml, hown, hts⟩ (mc_Y_isSize l p1) (va_cwS 1 hts (gY_isSize _) rfl rfl rfl (by decide +kernel) ⟨Nat.le_of_ble_eq_true rfl, Nat.le_of_ble_eq_true rfl⟩) hS hA rfl hl.1 rfl (Nat.le_of_ble_eq_true rfl) dY_number_1 ⟨Nat.zero_le _, Nat.zero_le _⟩ (fun H9 locs9 hk9 hS => ?_)
  have hP := xj_kept hP hk9
  refine lv_topi (fun y1 ey1 => ?_)
  replace hF := xj_bz hF ey1
  refine lv_if_eq (tgt := 14) hx hb dY_number_4 (by decide) (fun c2 => ?_) (fun c2 => ?_)
  · replace hF := xj_t hF c2
    refine lv_bipush (v := (-5 : Int32)) hx hb dY_number_14 (by decide) ?_
    exact W.iret (v := (-5 : Int32)) hx hb hr (fun t ht hW => ⟨⟨_, (g, ak, il, mi, xe, bi, fa, cu), rfl, hF.symm, by rw [ht]; exact hP, hD⟩, hS.F ht⟩) hS.2.2 dY_number_16
  · replace hF := xj_f hF c2
    refine lv_iload_n hx hb dY_number_7 rfl (lv_at hl 3 rfl) ?_
    refine xj_si (As := [.int p3]) (rest := []) ⟨hx, hb, hml, hown, hts⟩ (mc_Y_isRegister l p3) (va_cwS 1 hts (gY_isRegister _) rfl rfl rfl (by decide +kernel) ⟨Nat.le_of_ble_eq_true rfl, Nat.le_of_ble_eq_true rfl⟩) hS hA rfl hl.1 rfl (Nat.le_of_ble_eq_true rfl) dY_number_8 ⟨Nat.zero_le _, Nat.zero_le _⟩ (fun H9 locs9 hk9 hS => ?_)
    have hP := xj_kept hP hk9
    refine lv_topi (fun y3 ey3 => ?_)
    replace hF := xj_bz hF ey3
    refine lv_if_ne (tgt := 17) hx hb dY_number_11 (by decide) (fun c4 => ?_) (fun c4 => ?_)
    · replace hF := xj_f hF c4
      refine lv_iload_n hx hb dY_number_17 rfl (lv_at hl 2 rfl) ?_
      obtain ⟨y6, ey6⟩ : ∃ z : Int64, z = (if 0 ≤ p2 then (Int32.toInt64 p2) else (-(Int32.toInt64 p2))) := ⟨_, rfl⟩
      replace hF := xj_bz hF ey6
      refine xj_join 29 (fun ls' st' => lv_has ls' 6 [(0, .ref k0), (1, .int p1), (2, .int p2), (3, .int p3)] ∧ st' = [.long y6]) ?_ (fun K29 => ?_)
      · rintro ls st ⟨hl, rfl⟩
        refine lv_lstore (lv' := [(4, .long y6), (0, .ref k0), (1, .int p1), (2, .int p2), (3, .int p3)]) hx hb dY_number_29 hl (by decide) rfl (fun ls hl => ?_)
        refine lv_aload_n hx hb dY_number_31 rfl (lv_at hl 1 rfl) ?_
        refine lv_aload_n hx hb dY_number_32 rfl (lv_at hl 1 rfl) ?_
        refine lv_iload_n hx hb dY_number_33 rfl (lv_at hl 2 rfl) ?_
        refine lv_iload_n hx hb dY_number_34 rfl (lv_at hl 3 rfl) ?_
        obtain ⟨y8, ey8⟩ : ∃ z : Int32, z = (if 0 ≤ p2 then (0 : Int32) else (1 : Int32)) := ⟨_, rfl⟩
        replace hF := xj_bz hF ey8
        refine xj_join 43 (fun ls' st' => lv_has ls' 6 [(4, .long y6), (0, .ref k0), (1, .int p1), (2, .int p2), (3, .int p3)] ∧ st' = [.int y8, .int p1, .ref k0, .ref k0]) ?_ (fun K43 => ?_)
        · rintro ls st ⟨hl, rfl⟩
          refine lv_lload hx hb dY_number_43 (lv_at hl 0 rfl) ?_
          refine lv_iconst (v := (0 : Int32)) hx hb dY_number_45 (by decide) ?_
          refine lv_iconst (v := (0 : Int32)) hx hb dY_number_46 (by decide) ?_
          obtain ⟨q9, eq9⟩ : ∃ z : Int64 × (Nat → Int64) × Int32 × Int32 × Int32 × Int32 × Int64 × Int32 × Int32, z = (mf_Y_rounds g ak il mi xe bi fa cu p1 y8 y6 (0 : Int32) (0 : Int32)) := ⟨_, rfl⟩
          replace hF := xj_bz hF eq9
          refine xj_vl (r := q9) (As := [.int p1, .int y8, .long y6, .int (0 : Int32), .int (0 : Int32)]) (rest := [.ref k0]) (Wd := mw_Y k0 k_g cB_g) (wr := []) ⟨hx, hb, hml, hown, hts⟩ (by rw [eq9]; exact mc_Y_rounds l dC dI k0 k_g cB_g g ak il mi xe bi fa cu p1 y8 y6 (0 : Int32) (0 : Int32) (Or.inl rfl)) (cwV 5 hts (gY_rounds _) rfl rfl rfl (by decide +kernel) ⟨Nat.le_of_ble_eq_true rfl, Nat.le_of_ble_eq_true rfl⟩) hP hK hD hS hA [0, 1] [] [0] rfl (by decide) rfl (by decide) (by decide) rfl (va_recv hK hP (ci := 1) (q0 := 0) rfl rfl) rfl hl.1 rfl (Nat.le_of_ble_eq_true rfl) dY_number_47 ⟨Nat.zero_le _, Nat.zero_le _⟩ (fun H9 locs9 hP hD hS => ?_)
          have hP : va_P (dC, dI) vwCl [(k0, .inr (1, [.ref k_g, .int q9.2.2.1, .int q9.2.2.2.1, .int q9.2.2.2.2.1, .int q9.2.2.2.2.2.1, .long q9.2.2.2.2.2.2.1, .int q9.2.2.2.2.2.2.2.1, .int q9.2.2.2.2.2.2.2.2])), (k_g, .inl (cB_g, 8, .inr (.inl q9.2.1)))] _ := hP
          have hD : va_D A [(k0, .inr (1, [.ref k_g, .int q9.2.2.1, .int q9.2.2.2.1, .int q9.2.2.2.2.1, .int q9.2.2.2.2.2.1, .long q9.2.2.2.2.2.2.1, .int q9.2.2.2.2.2.2.2.1, .int q9.2.2.2.2.2.2.2.2])), (k_g, .inl (cB_g, 8, .inr (.inl q9.2.1)))] := hD
          refine lv_iload_n hx hb dY_number_50 rfl (lv_at hl 4 rfl) ?_
          obtain ⟨q10, eq10⟩ : ∃ z : Int32 × (Nat → Int64) × Int32 × Int32 × Int32 × Int32 × Int64 × Int32 × Int32, z = (mf_Y_gives q9.2.1 q9.2.2.1 q9.2.2.2.1 q9.2.2.2.2.1 q9.2.2.2.2.2.1 q9.2.2.2.2.2.2.1 q9.2.2.2.2.2.2.2.1 q9.2.2.2.2.2.2.2.2 q9.1 p3) := ⟨_, rfl⟩
          replace hF := xj_bz hF eq10
          refine xj_vi (r := q10) (As := [.long q9.1, .int p3]) (rest := []) (Wd := mw_Y k0 k_g cB_g) (wr := []) ⟨hx, hb, hml, hown, hts⟩ (by rw [eq10]; exact mc_Y_gives l dC dI k0 k_g cB_g q9.2.1 q9.2.2.1 q9.2.2.2.1 q9.2.2.2.2.1 q9.2.2.2.2.2.1 q9.2.2.2.2.2.2.1 q9.2.2.2.2.2.2.2.1 q9.2.2.2.2.2.2.2.2 q9.1 p3 (ms_reg (fun h9 => c4 (ey3.trans h9))) (by rw [eq9]; exact ms_cut_rounds (Or.inl rfl))) (cwV 2 hts (gY_gives _) rfl rfl rfl (by decide +kernel) ⟨Nat.le_of_ble_eq_true rfl, Nat.le_of_ble_eq_true rfl⟩) hP hK hD hS hA [0, 1] [] [0] rfl (by decide) rfl (by decide) (by decide) rfl (va_recv hK hP (ci := 1) (q0 := 0) rfl rfl) rfl hl.1 rfl (Nat.le_of_ble_eq_true rfl) dY_number_51 ⟨Nat.zero_le _, Nat.zero_le _⟩ (fun H9 locs9 hP hD hS => ?_)
          have hP : va_P (dC, dI) vwCl [(k0, .inr (1, [.ref k_g, .int q10.2.2.1, .int q10.2.2.2.1, .int q10.2.2.2.2.1, .int q10.2.2.2.2.2.1, .long q10.2.2.2.2.2.2.1, .int q10.2.2.2.2.2.2.2.1, .int q10.2.2.2.2.2.2.2.2])), (k_g, .inl (cB_g, 8, .inr (.inl q10.2.1)))] _ := hP
          have hD : va_D A [(k0, .inr (1, [.ref k_g, .int q10.2.2.1, .int q10.2.2.2.1, .int q10.2.2.2.2.1, .int q10.2.2.2.2.2.1, .long q10.2.2.2.2.2.2.1, .int q10.2.2.2.2.2.2.2.1, .int q10.2.2.2.2.2.2.2.2])), (k_g, .inl (cB_g, 8, .inr (.inl q10.2.1)))] := hD
          exact W.iret (v := q10.1) hx hb hr (fun t ht hW => ⟨⟨_, (q10.2.1, q10.2.2.1, q10.2.2.2.1, q10.2.2.2.2.1, q10.2.2.2.2.2.1, q10.2.2.2.2.2.2.1, q10.2.2.2.2.2.2.2.1, q10.2.2.2.2.2.2.2.2), rfl, hF.symm, by rw [ht]; exact hP, hD⟩, hS.F ht⟩) hS.2.2 dY_number_54
        · refine lv_if_ge (tgt := 42) hx hb dY_number_35 (by decide) (fun c7 => ?_) (fun c7 => ?_)
          · replace ey8 := xj_t ey8 c7
            refine lv_iconst (v := (0 : Int32)) hx hb dY_number_42 (by decide) ?_
            subst ey8
            exact K43 _ _ ⟨lv_sub hl [0, 1, 2, 3, 4] rfl, rfl⟩
          · replace ey8 := xj_f ey8 c7
            refine lv_iconst (v := (1 : Int32)) hx hb dY_number_38 (by decide) ?_
            refine lv_goto (tgt := 43) hx hb dY_number_39 (by decide) ?_
            subst ey8
            exact K43 _ _ ⟨lv_sub hl [0, 1, 2, 3, 4] rfl, rfl⟩
      · refine lv_if_ge (tgt := 27) hx hb dY_number_18 (by decide) (fun c5 => ?_) (fun c5 => ?_)
        · replace ey6 := xj_t ey6 c5
          refine lv_iload_n hx hb dY_number_27 rfl (lv_at hl 2 rfl) ?_
          refine lv_i2l (v := (Int32.toInt64 p2)) hx hb dY_number_28 rfl ?_
          subst ey6
          exact K29 _ _ ⟨lv_sub hl [0, 1, 2, 3] rfl, rfl⟩
        · replace ey6 := xj_f ey6 c5
          refine lv_iload_n hx hb dY_number_21 rfl (lv_at hl 2 rfl) ?_
          refine lv_i2l (v := (Int32.toInt64 p2)) hx hb dY_number_22 rfl ?_
          refine lv_lneg hx hb dY_number_23 ?_
          refine lv_goto (tgt := 29) hx hb dY_number_24 (by decide) ?_
          subst ey6
          exact K29 _ _ ⟨lv_sub hl [0, 1, 2, 3] rfl, rfl⟩
    · replace hF := xj_t hF c4
      refine lv_bipush (v := (-5 : Int32)) hx hb dY_number_14 (by decide) ?_
      exact W.iret (v := (-5 : Int32)) hx hb hr (fun t ht hW => ⟨⟨_, (g, ak, il, mi, xe, bi, fa, cu), rfl, hF.symm, by rw [ht]; exact hP, hD⟩, hS.F ht⟩) hS.2.2 dY_number_16
def mf_Y_lost (g : Nat → Int64) (ak : Int32) (il : Int32) (mi : Int32) (xe : Int32) (bi : Int64) (fa : Int32) (cu : Int32)  : Int32 := il
set_option maxHeartbeats 4000000 in
set_option maxRecDepth 100000 in
theorem mc_Y_lost (l : Launch) (dC : Nat → ClassId) (dI : Nat → Nat → Nat) (k0 k_g : Nat) (cB_g : ClassId) (g : Nat → Int64) (ak : Int32) (il : Int32) (mi : Int32) (xe : Int32) (bi : Int64) (fa : Int32) (cu : Int32)  (hil : il = 0 ∨ il = 1) : xj_Oi l (dC, dI) vwCl [(cB_g, .long)] (mw_Y k0 k_g cB_g) yY_lost wsY_lost ({ frames := 0, cells := 0, slots := 0, locals := 0 }) [.ref k0] (g, ak, il, mi, xe, bi, fa, cu) (mf_Y_lost g ak il mi xe bi fa cu, (g, ak, il, mi, xe, bi, fa, cu)) := by
  intro sz
  refine Met.ofW (cc := cY_lost) (maxL := 1) (ret := (some .boolean)) (by decide) rfl ?_
  intro p e s m args below meth c s₁ B hml hv
  obtain ⟨rfl, hsz, hP, hK, hD0⟩ := hv
  have hx := B.exec
  have hb := B.bytes
  have hr := B.returns
  have hts := atoms_spec (ws := wsY_lost) B.pre
  have hown : s.vm.findClass RX1 = some m.cls := findClass_of_methodNamed B.named
  have hlocks := B.notSynchronized
  subst hsz
  have hD := hD0.self (sz := s.heap.size)
  generalize hAe : va_A (mw_Y k0 k_g cB_g (g, ak, il, mi, xe, bi, fa, cu)) s.heap.size = A at hD ⊢
  have hA : ∀ q : Nat, s.heap.size ≤ q → A q := fun q h => by rw [← hAe]; exact Or.inr h
  have hS : va_S A s.heap s.heap [] := va_S.rf
  have hP : va_P (dC, dI) vwCl [(k0, .inr (1, [.ref k_g, .int ak, .int il, .int mi, .int xe, .long bi, .int fa, .int cu])), (k_g, .inl (cB_g, 8, .inr (.inl g)))] s.heap := hP
  have hD : va_D A [(k0, .inr (1, [.ref k_g, .int ak, .int il, .int mi, .int xe, .long bi, .int fa, .int cu])), (k_g, .inl (cB_g, 8, .inr (.inl g)))] := hD
  generalize hT : mf_Y_lost g ak il mi xe bi fa cu = T
  have hF := hT.symm
  unfold mf_Y_lost at hF
  have hl := lv_entry ([.ref k0]) (n := 1) (Nat.le_of_ble_eq_true rfl)
  rw [lg_entry_eq]
  generalize (lg_sl ([.ref k0]) ++ List.replicate (1 - (lg_sl ([.ref k0])).length) Slot.unset).toArray = ls at hl ⊢
  have hl : lv_has ls 1 [(0, .ref k0)] := hl
  refine lv_aload_n hx hb dY_lost_0 rfl (lv_at hl 0 rfl) ?_
  refine va_get (D := (dC, dI)) (ci := 1) (v := .int il) (C := RX1) (T := TX1) (N := 8) hx hb hts (fun w9 h9 => List.mem_cons_of_mem _ (inY w9 h9)) hown hK hP 0 rfl rfl 2 (by decide) (hts (.fieldLink RX1 63 "ExactFloatsModel" "isLost" "Z") (List.mem_cons_of_mem _ mY_51)) (fun _ h9 => h9) rfl dY_lost_1 ?_
  exact W.zret (v := il) hx hb hr (xj_nb (hil)) (fun t ht hW => ⟨⟨_, (g, ak, il, mi, xe, bi, fa, cu), rfl, by rw [hF], by rw [ht]; exact hP, hD⟩, hS.F ht⟩) hS.2.2 dY_lost_4
