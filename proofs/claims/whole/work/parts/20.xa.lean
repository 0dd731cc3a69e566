abbrev mw_X0 (h0 h_f : Nat) (cA_f : ClassId) (st : (Nat → Int64) × Int32 × Int32) : va_W := [(h0, .inr (0, [.ref h_f, .int st.2.1, .int st.2.2])), (h_f, .inl (cA_f, 8, .inr (.inl st.1)))]
def mf_J13_compare_74951 (p1 : Int64) (p2 : Int64) : Int32 := (if p2 ≤ p1 then (if p1 = p2 then (0 : Int32) else (1 : Int32)) else (-1 : Int32))
set_option maxHeartbeats 4000000 in
set_option maxRecDepth 100000 in
theorem mc_J13_compare_74951 (l : Launch) (p1 : Int64) (p2 : Int64) : xj_Pi l yJ13_compare_74951 wsJ13_compare_74951 ({ frames := 0, cells := 0, slots := 0, locals := 0 }) [.long p1, .long p2] (mf_J13_compare_74951 p1 p2) := by
  intro sz
  refine Met.ofW (cc := cJ13_compare_74951) (maxL := 4) (ret := (some .int)) (by decide) rfl ?_
  intro p e s m args below meth c s₁ B hml hv
  obtain ⟨rfl, hsz⟩ := hv
  have hx := B.exec
  have hb := B.bytes
  have hr := B.returns
  have hts := atoms_spec (ws := wsJ13_compare_74951) B.pre
  have hown : s.vm.findClass RJ13 = some m.cls := findClass_of_methodNamed B.named
  have hlocks := B.notSynchronized
  subst hsz
  generalize hAe : va_A [] s.heap.size = A
  have hA : ∀ q : Nat, s.heap.size ≤ q → A q := fun q h => by rw [← hAe]; exact Or.inr h
  have hS : va_S A s.heap s.heap [] := va_S.rf
  generalize hT : mf_J13_compare_74951 p1 p2 = T
  have hF := hT.symm
  unfold mf_J13_compare_74951 at hF
  have hl := lv_entry ([.long p1, .long p2]) (n := 4) (Nat.le_of_ble_eq_true rfl)
  rw [lg_entry_eq]
  generalize (lg_sl ([.long p1, .long p2]) ++ List.replicate (4 - (lg_sl ([.long p1, .long p2])).length) Slot.unset).toArray = ls at hl ⊢
  have hl : lv_has ls 4 [(0, .long p1), (2, .long p2)] := hl
  refine lv_lload_n hx hb dJ13_compare_74951_0 rfl (lv_at hl 0 rfl) ?_
  refine lv_lload_n hx hb dJ13_compare_74951_1 rfl (lv_at hl 1 rfl) ?_
  refine xj_l_ge (tgt := 10) hx hb dJ13_compare_74951_2 dJ13_compare_74951_3 (by decide) (fun c1 => ?_) (fun c1 => ?_)
  · replace hF := xj_t hF c1
    refine lv_lload_n hx hb dJ13_compare_74951_10 rfl (lv_at hl 0 rfl) ?_
    refine lv_lload_n hx hb dJ13_compare_74951_11 rfl (lv_at hl 1 rfl) ?_
    refine xj_l_ne (tgt := 20) hx hb dJ13_compare_74951_12 dJ13_compare_74951_13 (by decide) (fun c2 => ?_) (fun c2 => ?_)
    · replace hF := xj_f hF c2
      refine lv_iconst (v := (1 : Int32)) hx hb dJ13_compare_74951_20 (by decide) ?_
      exact W.iret (v := (1 : Int32)) hx hb hr (fun t ht hW => ⟨⟨_, (), rfl, hF.symm, trivial⟩, hS.F ht⟩) hS.2.2 dJ13_compare_74951_21
    · replace hF := xj_t hF c2
      refine lv_iconst (v := (0 : Int32)) hx hb dJ13_compare_74951_16 (by decide) ?_
      refine lv_goto (tgt := 21) hx hb dJ13_compare_74951_17 (by decide) ?_
      exact W.iret (v := (0 : Int32)) hx hb hr (fun t ht hW => ⟨⟨_, (), rfl, hF.symm, trivial⟩, hS.F ht⟩) hS.2.2 dJ13_compare_74951_21
  · replace hF := xj_f hF c1
    refine lv_iconst (v := (-1 : Int32)) hx hb dJ13_compare_74951_6 (by decide) ?_
    refine lv_goto (tgt := 21) hx hb dJ13_compare_74951_7 (by decide) ?_
    exact W.iret (v := (-1 : Int32)) hx hb hr (fun t ht hW => ⟨⟨_, (), rfl, hF.symm, trivial⟩, hS.F ht⟩) hS.2.2 dJ13_compare_74951_21
def mf_X0_isRegister (p1 : Int32) : Int32 := (if p1 < 0 then (0 : Int32) else (if (8 : Int32) ≤ p1 then (0 : Int32) else (1 : Int32)))
set_option maxHeartbeats 4000000 in
set_option maxRecDepth 100000 in
theorem mc_X0_isRegister (l : Launch) (p1 : Int32) : xj_Pi l yX0_isRegister wsX0_isRegister ({ frames := 0, cells := 0, slots := 0, locals := 0 }) [.int p1] (mf_X0_isRegister p1) := by
  intro sz
  refine Met.ofW (cc := cX0_isRegister) (maxL := 1) (ret := (some .boolean)) (by decide) rfl ?_
  intro p e s m args below meth c s₁ B hml hv
  obtain ⟨rfl, hsz⟩ := hv
  have hx := B.exec
  have hb := B.bytes
  have hr := B.returns
  have hts := atoms_spec (ws := wsX0_isRegister) B.pre
  have hown : s.vm.findClass RX0 = some m.cls := findClass_of_methodNamed B.named
  have hlocks := B.notSynchronized
  subst hsz
  generalize hAe : va_A [] s.heap.size = A
  have hA : ∀ q : Nat, s.heap.size ≤ q → A q := fun q h => by rw [← hAe]; exact Or.inr h
  have hS : va_S A s.heap s.heap [] := va_S.rf
  generalize hT : mf_X0_isRegister p1 = T
  have hF := hT.symm
  unfold mf_X0_isRegister at hF
  have hl := lv_entry ([.int p1]) (n := 1) (Nat.le_of_ble_eq_true rfl)
  rw [lg_entry_eq]
  generalize (lg_sl ([.int p1]) ++ List.replicate (1 - (lg_sl ([.int p1])).length) Slot.unset).toArray = ls at hl ⊢
  have hl : lv_has ls 1 [(0, .int p1)] := hl
  refine lv_iload_n hx hb dX0_isRegister_0 rfl (lv_at hl 0 rfl) ?_
  refine lv_if_lt (tgt := 14) hx hb dX0_isRegister_1 (by decide) (fun c1 => ?_) (fun c1 => ?_)
  · replace hF := xj_t hF c1
    refine lv_iconst (v := (0 : Int32)) hx hb dX0_isRegister_14 (by decide) ?_
    exact W.zret (v := (0 : Int32)) hx hb hr rfl (fun t ht hW => ⟨⟨_, (), rfl, hF.symm, trivial⟩, hS.F ht⟩) hS.2.2 dX0_isRegister_15
  · replace hF := xj_f hF c1
    refine lv_iload_n hx hb dX0_isRegister_4 rfl (lv_at hl 0 rfl) ?_
    refine lv_bipush (v := (8 : Int32)) hx hb dX0_isRegister_5 (by decide) ?_
    refine lv_icmp_ge (tgt := 14) hx hb dX0_isRegister_7 (by decide) (fun c2 => ?_) (fun c2 => ?_)
    · replace hF := xj_t hF c2
      refine lv_iconst (v := (0 : Int32)) hx hb dX0_isRegister_14 (by decide) ?_
      exact W.zret (v := (0 : Int32)) hx hb hr rfl (fun t ht hW => ⟨⟨_, (), rfl, hF.symm, trivial⟩, hS.F ht⟩) hS.2.2 dX0_isRegister_15
    · replace hF := xj_f hF c2
      refine lv_iconst (v := (1 : Int32)) hx hb dX0_isRegister_10 (by decide) ?_
      refine lv_goto (tgt := 15) hx hb dX0_isRegister_11 (by decide) ?_
      exact W.zret (v := (1 : Int32)) hx hb hr rfl (fun t ht hW => ⟨⟨_, (), rfl, hF.symm, trivial⟩, hS.F ht⟩) hS.2.2 dX0_isRegister_15
theorem mr_reg {r : Int32} (h : ¬ mf_X0_isRegister r = 0) : vp_in r 8 := by
  unfold mf_X0_isRegister at h
  rw [vp_in_iff]
  by_cases h1 : r < 0
  · rw [if_pos h1] at h; exact absurd rfl h
  · rw [if_neg h1] at h
    by_cases h2 : (8 : Int32) ≤ r
    · rw [if_pos h2] at h; exact absurd rfl h
    · rw [Int32.lt_iff_toInt_lt] at h1
      rw [Int32.le_iff_toInt_le] at h2
      have e8 : (8 : Int32).toInt = 8 := by decide
      have e0 : (0 : Int32).toInt = 0 := by decide
      omega

def mf_X0_isSize (p1 : Int32) : Int32 := (if p1 = (4 : Int32) then (1 : Int32) else (if p1 = (8 : Int32) then (1 : Int32) else (0 : Int32)))
set_option maxHeartbeats 4000000 in
set_option maxRecDepth 100000 in
theorem mc_X0_isSize (l : Launch) (p1 : Int32) : xj_Pi l yX0_isSize wsX0_isSize ({ frames := 0, cells := 0, slots := 0, locals := 0 }) [.int p1] (mf_X0_isSize p1) := by
  intro sz
  refine Met.ofW (cc := cX0_isSize) (maxL := 1) (ret := (some .boolean)) (by decide) rfl ?_
  intro p e s m args below meth c s₁ B hml hv
  obtain ⟨rfl, hsz⟩ := hv
  have hx := B.exec
  have hb := B.bytes
  have hr := B.returns
  have hts := atoms_spec (ws := wsX0_isSize) B.pre
  have hown : s.vm.findClass RX0 = some m.cls := findClass_of_methodNamed B.named
  have hlocks := B.notSynchronized
  subst hsz
  generalize hAe : va_A [] s.heap.size = A
  have hA : ∀ q : Nat, s.heap.size ≤ q → A q := fun q h => by rw [← hAe]; exact Or.inr h
  have hS : va_S A s.heap s.heap [] := va_S.rf
  generalize hT : mf_X0_isSize p1 = T
  have hF := hT.symm
  unfold mf_X0_isSize at hF
  have hl := lv_entry ([.int p1]) (n := 1) (Nat.le_of_ble_eq_true rfl)
  rw [lg_entry_eq]
  generalize (lg_sl ([.int p1]) ++ List.replicate (1 - (lg_sl ([.int p1])).length) Slot.unset).toArray = ls at hl ⊢
  have hl : lv_has ls 1 [(0, .int p1)] := hl
  refine lv_iload_n hx hb dX0_isSize_0 rfl (lv_at hl 0 rfl) ?_
  refine lv_iconst (v := (4 : Int32)) hx hb dX0_isSize_1 (by decide) ?_
  refine lv_icmp_eq (tgt := 11) hx hb dX0_isSize_2 (by decide) (fun c1 => ?_) (fun c1 => ?_)
  · replace hF := xj_t hF c1
    refine lv_iconst (v := (1 : Int32)) hx hb dX0_isSize_11 (by decide) ?_
    refine lv_goto (tgt := 16) hx hb dX0_isSize_12 (by decide) ?_
    exact W.zret (v := (1 : Int32)) hx hb hr rfl (fun t ht hW => ⟨⟨_, (), rfl, hF.symm, trivial⟩, hS.F ht⟩) hS.2.2 dX0_isSize_16
  · replace hF := xj_f hF c1
    refine lv_iload_n hx hb dX0_isSize_5 rfl (lv_at hl 0 rfl) ?_
    refine lv_bipush (v := (8 : Int32)) hx hb dX0_isSize_6 (by decide) ?_
    refine lv_icmp_ne (tgt := 15) hx hb dX0_isSize_8 (by decide) (fun c2 => ?_) (fun c2 => ?_)
    · replace hF := xj_f hF c2
      refine lv_iconst (v := (0 : Int32)) hx hb dX0_isSize_15 (by decide) ?_
      exact W.zret (v := (0 : Int32)) hx hb hr rfl (fun t ht hW => ⟨⟨_, (), rfl, hF.symm, trivial⟩, hS.F ht⟩) hS.2.2 dX0_isSize_16
    · replace hF := xj_t hF c2
      refine lv_iconst (v := (1 : Int32)) hx hb dX0_isSize_11 (by decide) ?_
      refine lv_goto (tgt := 16) hx hb dX0_isSize_12 (by decide) ?_
      exact W.zret (v := (1 : Int32)) hx hb hr rfl (fun t ht hW => ⟨⟨_, (), rfl, hF.symm, trivial⟩, hS.F ht⟩) hS.2.2 dX0_isSize_16
def mf_X0_isReserved (f : Nat → Int64) (u : Int32) (o : Int32) (p1 : Int32) : Int32 := (if ((f (Int32.toNatClampNeg p1)) &&& (65408 : Int64)) = (32768 : Int64) then (1 : Int32) else (0 : Int32))
set_option maxHeartbeats 4000000 in
set_option maxRecDepth 100000 in
theorem mc_X0_isReserved (l : Launch) (dC : Nat → ClassId) (dI : Nat → Nat → Nat) (h0 h_f : Nat) (cA_f : ClassId) (f : Nat → Int64) (u : Int32) (o : Int32) (p1 : Int32) (hin1 : vp_in p1 8) : xj_Oi l (dC, dI) vwCl [(cA_f, .long)] (mw_X0 h0 h_f cA_f) yX0_isReserved wsX0_isReserved ({ frames := 0, cells := 0, slots := 0, locals := 0 }) [.ref h0, .int p1] (f, u, o) (mf_X0_isReserved f u o p1, (f, u, o)) := by
  intro sz
  refine Met.ofW (cc := cX0_isReserved) (maxL := 2) (ret := (some .boolean)) (by decide) rfl ?_
  intro p e s m args below meth c s₁ B hml hv
  obtain ⟨rfl, hsz, hP, hK, hD0⟩ := hv
  have hx := B.exec
  have hb := B.bytes
  have hr := B.returns
  have hts := atoms_spec (ws := wsX0_isReserved) B.pre
  have hown : s.vm.findClass RX0 = some m.cls := findClass_of_methodNamed B.named
  have hlocks := B.notSynchronized
  subst hsz
  have hD := hD0.self (sz := s.heap.size)
  generalize hAe : va_A (mw_X0 h0 h_f cA_f (f, u, o)) s.heap.size = A at hD ⊢
  have hA : ∀ q : Nat, s.heap.size ≤ q → A q := fun q h => by rw [← hAe]; exact Or.inr h
  have hS : va_S A s.heap s.heap [] := va_S.rf
  have hP : va_P (dC, dI) vwCl [(h0, .inr (0, [.ref h_f, .int u, .int o])), (h_f, .inl (cA_f, 8, .inr (.inl f)))] s.heap := hP
  have hD : va_D A [(h0, .inr (0, [.ref h_f, .int u, .int o])), (h_f, .inl (cA_f, 8, .inr (.inl f)))] := hD
  generalize hT : mf_X0_isReserved f u o p1 = T
  have hF := hT.symm
  unfold mf_X0_isReserved at hF
  have hl := lv_entry ([.ref h0, .int p1]) (n := 2) (Nat.le_of_ble_eq_true rfl)
  rw [lg_entry_eq]
  generalize (lg_sl ([.ref h0, .int p1]) ++ List.replicate (2 - (lg_sl ([.ref h0, .int p1])).length) Slot.unset).toArray = ls at hl ⊢
  have hl : lv_has ls 2 [(0, .ref h0), (1, .int p1)] := hl
  refine lv_aload_n hx hb dX0_isReserved_0 rfl (lv_at hl 0 rfl) ?_
  refine va_get (D := (dC, dI)) (ci := 0) (v := .ref h_f) (C := RX0) (T := TX0) (N := 3) hx hb hts (by decide +kernel) hown hK hP 0 rfl rfl 0 (by decide) (hts (.fieldLink RX0 9 "ExactFloats" "registers" "[J") (by decide +kernel)) (fun _ h9 => h9) rfl dX0_isReserved_1 ?_
  refine lv_iload_n hx hb dX0_isReserved_4 rfl (lv_at hl 1 rfl) ?_
  refine va_lald hx hb hK hP 1 0 rfl rfl (hin1) dX0_isReserved_5 ?_
  refine lv_ldc2 (own := RX0) (v := (65408 : Int64)) hx hb hown (hts (.constantLong RX0 73 (65408 : Int64)) (by decide +kernel)) dX0_isReserved_6 ?_
  refine lv_land hx hb dX0_isReserved_9 ?_
  refine lv_ldc2 (own := RX0) (v := (32768 : Int64)) hx hb hown (hts (.constantLong RX0 75 (32768 : Int64)) (by decide +kernel)) dX0_isReserved_10 ?_
  refine xj_l_ne (tgt := 21) hx hb dX0_isReserved_13 dX0_isReserved_14 (by decide) (fun c1 => ?_) (fun c1 => ?_)
  · replace hF := xj_f hF c1
    refine lv_iconst (v := (0 : Int32)) hx hb dX0_isReserved_21 (by decide) ?_
    exact W.zret (v := (0 : Int32)) hx hb hr rfl (fun t ht hW => ⟨⟨_, (f, u, o), rfl, by rw [hF], by rw [ht]; exact hP, hD⟩, hS.F ht⟩) hS.2.2 dX0_isReserved_22
  · replace hF := xj_t hF c1
    refine lv_iconst (v := (1 : Int32)) hx hb dX0_isReserved_17 (by decide) ?_
    refine lv_goto (tgt := 22) hx hb dX0_isReserved_18 (by decide) ?_
    exact W.zret (v := (1 : Int32)) hx hb hr rfl (fun t ht hW => ⟨⟨_, (f, u, o), rfl, by rw [hF], by rw [ht]; exact hP, hD⟩, hS.F ht⟩) hS.2.2 dX0_isReserved_22
def mf_X0_refusalOf (f : Nat → Int64) (u : Int32) (o : Int32) (p1 : Int32) (p2 : Int32) (p3 : Int32) (p4 : Int32) : Int32 := (xj_bnd (mf_X0_isSize p1) (fun y1 => (if y1 = 0 then (-5 : Int32) else (xj_bnd (mf_X0_isRegister p2) (fun y3 => (if y3 = 0 then (-5 : Int32) else (xj_bnd (mf_X0_isRegister p3) (fun y5 => (if y5 = 0 then (-5 : Int32) else (xj_bnd (mf_X0_isRegister p4) (fun y7 => (if y7 = 0 then (-5 : Int32) else (xj_bnd (mf_X0_isReserved f u o p2) (fun y9 => (if y9 = 0 then (xj_bnd (mf_X0_isReserved f u o p3) (fun y11 => (if y11 = 0 then (0 : Int32) else (-1 : Int32)))) else (-1 : Int32))))))))))))))))
set_option maxHeartbeats 4000000 in
set_option maxRecDepth 100000 in
theorem mc_X0_refusalOf (l : Launch) (dC : Nat → ClassId) (dI : Nat → Nat → Nat) (h0 h_f : Nat) (cA_f : ClassId) (f : Nat → Int64) (u : Int32) (o : Int32) (p1 : Int32) (p2 : Int32) (p3 : Int32) (p4 : Int32) : xj_Oi l (dC, dI) vwCl [(cA_f, .long)] (mw_X0 h0 h_f cA_f) yX0_refusalOf wsX0_refusalOf ({ frames := 1, cells := 0, slots := 0, locals := 21 }) [.ref h0, .int p1, .int p2, .int p3, .int p4] (f, u, o) (mf_X0_refusalOf f u o p1 p2 p3 p4, (f, u, o)) := by
  intro sz
  refine Met.ofW (cc := cX0_refusalOf) (maxL := 5) (ret := (some .int)) (by decide) rfl ?_
  intro p e s m args below meth c s₁ B hml hv
  obtain ⟨rfl, hsz, hP, hK, hD0⟩ := hv
  have hx := B.exec
  have hb := B.bytes
  have hr := B.returns
  have hts := atoms_spec (ws := wsX0_refusalOf) B.pre
  have hown : s.vm.findClass RX0 = some m.cls := findClass_of_methodNamed B.named
  have hlocks := B.notSynchronized
  subst hsz
  have hD := hD0.self (sz := s.heap.size)
  generalize hAe : va_A (mw_X0 h0 h_f cA_f (f, u, o)) s.heap.size = A at hD ⊢
  have hA : ∀ q : Nat, s.heap.size ≤ q → A q := fun q h => by rw [← hAe]; exact Or.inr h
  have hS : va_S A s.heap s.heap [] := va_S.rf
  have hP : va_P (dC, dI) vwCl [(h0, .inr (0, [.ref h_f, .int u, .int o])), (h_f, .inl (cA_f, 8, .inr (.inl f)))] s.heap := hP
  have hD : va_D A [(h0, .inr (0, [.ref h_f, .int u, .int o])), (h_f, .inl (cA_f, 8, .inr (.inl f)))] := hD
  generalize hT : mf_X0_refusalOf f u o p1 p2 p3 p4 = T
  have hF := hT.symm
  unfold mf_X0_refusalOf at hF
  have hl := lv_entry ([.ref h0, .int p1, .int p2, .int p3, .int p4]) (n := 5) (Nat.le_of_ble_eq_true rfl)
  rw [lg_entry_eq]
  generalize (lg_sl ([.ref h0, .int p1, .int p2, .int p3, .int p4]) ++ List.replicate (5 - (lg_sl ([.ref h0, .int p1, .int p2, .int p3, .int p4])).length) Slot.unset).toArray = ls at hl ⊢
  have hl : lv_has ls 5 [(0, .ref h0), (1, .int p1), (2, .int p2), (3, .int p3), (4, .int p4)] := hl
  refine lv_iload_n hx hb dX0_refusalOf_0 rfl (lv_at hl 1 rfl) ?_
  refine xj_si (As := [.int p1]) (rest := []) ⟨hx, hb, hml, hown, hts⟩ (mc_X0_isSize l p1) (va_cwS 1 hts gX0_refusalOf_X0_isSize rfl rfl rfl (by decide +kernel) ⟨Nat.le_of_ble_eq_true rfl, Nat.le_of_ble_eq_true rfl⟩) hS hA rfl hl.1 rfl (Nat.le_of_ble_eq_true rfl) dX0_refusalOf_1 ⟨Nat.zero_le _, Nat.zero_le _⟩ (fun H9 locs9 hk9 hS => ?_)
  have hP := xj_kept hP hk9
  refine lv_topi (fun y1 ey1 => ?_)
  replace hF := xj_bz hF ey1
  refine lv_if_eq (tgt := 29) hx hb dX0_refusalOf_4 (by decide) (fun c2 => ?_) (fun c2 => ?_)
  · replace hF := xj_t hF c2
    refine lv_bipush (v := (-5 : Int32)) hx hb dX0_refusalOf_29 (by decide) ?_
    exact W.iret (v := (-5 : Int32)) hx hb hr (fun t ht hW => ⟨⟨_, (f, u, o), rfl, by rw [hF], by rw [ht]; exact hP, hD⟩, hS.F ht⟩) hS.2.2 dX0_refusalOf_31
  · replace hF := xj_f hF c2
    refine lv_iload_n hx hb dX0_refusalOf_7 rfl (lv_at hl 2 rfl) ?_
    refine xj_si (As := [.int p2]) (rest := []) ⟨hx, hb, hml, hown, hts⟩ (mc_X0_isRegister l p2) (va_cwS 1 hts gX0_refusalOf_X0_isRegister rfl rfl rfl (by decide +kernel) ⟨Nat.le_of_ble_eq_true rfl, Nat.le_of_ble_eq_true rfl⟩) hS hA rfl hl.1 rfl (Nat.le_of_ble_eq_true rfl) dX0_refusalOf_8 ⟨Nat.zero_le _, Nat.zero_le _⟩ (fun H9 locs9 hk9 hS => ?_)
    have hP := xj_kept hP hk9
    refine lv_topi (fun y3 ey3 => ?_)
    replace hF := xj_bz hF ey3
    refine lv_if_eq (tgt := 29) hx hb dX0_refusalOf_11 (by decide) (fun c4 => ?_) (fun c4 => ?_)
    · replace hF := xj_t hF c4
      refine lv_bipush (v := (-5 : Int32)) hx hb dX0_refusalOf_29 (by decide) ?_
      exact W.iret (v := (-5 : Int32)) hx hb hr (fun t ht hW => ⟨⟨_, (f, u, o), rfl, by rw [hF], by rw [ht]; exact hP, hD⟩, hS.F ht⟩) hS.2.2 dX0_refusalOf_31
    · replace hF := xj_f hF c4
      refine lv_iload_n hx hb dX0_refusalOf_14 rfl (lv_at hl 3 rfl) ?_
      refine xj_si (As := [.int p3]) (rest := []) ⟨hx, hb, hml, hown, hts⟩ (mc_X0_isRegister l p3) (va_cwS 1 hts gX0_refusalOf_X0_isRegister rfl rfl rfl (by decide +kernel) ⟨Nat.le_of_ble_eq_true rfl, Nat.le_of_ble_eq_true rfl⟩) hS hA rfl hl.1 rfl (Nat.le_of_ble_eq_true rfl) dX0_refusalOf_15 ⟨Nat.zero_le _, Nat.zero_le _⟩ (fun H9 locs9 hk9 hS => ?_)
      have hP := xj_kept hP hk9
      refine lv_topi (fun y5 ey5 => ?_)
      replace hF := xj_bz hF ey5
      refine lv_if_eq (tgt := 29) hx hb dX0_refusalOf_18 (by decide) (fun c6 => ?_) (fun c6 => ?_)
      · replace hF := xj_t hF c6
        refine lv_bipush (v := (-5 : Int32)) hx hb dX0_refusalOf_29 (by decide) ?_
        exact W.iret (v := (-5 : Int32)) hx hb hr (fun t ht hW => ⟨⟨_, (f, u, o), rfl, by rw [hF], by rw [ht]; exact hP, hD⟩, hS.F ht⟩) hS.2.2 dX0_refusalOf_31
      · replace hF := xj_f hF c6
        refine lv_iload hx hb dX0_refusalOf_21 (lv_at hl 4 rfl) ?_
        refine xj_si (As := [.int p4]) (rest := []) ⟨hx, hb, hml, hown, hts⟩ (mc_X0_isRegister l p4) (va_cwS 1 hts gX0_refusalOf_X0_isRegister rfl rfl rfl (by decide +kernel) ⟨Nat.le_of_ble_eq_true rfl, Nat.le_of_ble_eq_true rfl⟩) hS hA rfl hl.1 rfl (Nat.le_of_ble_eq_true rfl) dX0_refusalOf_23 ⟨Nat.zero_le _, Nat.zero_le _⟩ (fun H9 locs9 hk9 hS => ?_)
        have hP := xj_kept hP hk9
        refine lv_topi (fun y7 ey7 => ?_)
        replace hF := xj_bz hF ey7
        refine lv_if_ne (tgt := 32) hx hb dX0_refusalOf_26 (by decide) (fun c8 => ?_) (fun c8 => ?_)
        · replace hF := xj_f hF c8
          refine lv_aload_n hx hb dX0_refusalOf_32 rfl (lv_at hl 0 rfl) ?_
          refine lv_iload_n hx hb dX0_refusalOf_33 rfl (lv_at hl 2 rfl) ?_
          refine xj_vi (As := [.int p2]) (rest := []) (Wd := mw_X0 h0 h_f cA_f) (wr := []) ⟨hx, hb, hml, hown, hts⟩ (mc_X0_isReserved l dC dI h0 h_f cA_f f u o p2 (mr_reg (fun h9 => c4 (ey3.trans h9)))) (cwV 1 hts gX0_refusalOf_X0_isReserved rfl rfl rfl (by decide +kernel) ⟨Nat.le_of_ble_eq_true rfl, Nat.le_of_ble_eq_true rfl⟩) hP hK hD hS hA [0, 1] [] [0] rfl (by decide) rfl (by decide) (by decide) rfl (va_recv hK hP (ci := 0) (q0 := 0) rfl rfl) rfl hl.1 rfl (Nat.le_of_ble_eq_true rfl) dX0_refusalOf_34 ⟨Nat.zero_le _, Nat.zero_le _⟩ (fun H9 locs9 hP hD hS => ?_)
          have hP : va_P (dC, dI) vwCl [(h0, .inr (0, [.ref h_f, .int u, .int o])), (h_f, .inl (cA_f, 8, .inr (.inl f)))] _ := hP
          have hD : va_D A [(h0, .inr (0, [.ref h_f, .int u, .int o])), (h_f, .inl (cA_f, 8, .inr (.inl f)))] := hD
          refine lv_topi (fun y9 ey9 => ?_)
          replace hF := xj_bz hF ey9
          refine lv_if_ne (tgt := 48) hx hb dX0_refusalOf_37 (by decide) (fun c10 => ?_) (fun c10 => ?_)
          · replace hF := xj_f hF c10
            refine lv_iconst (v := (-1 : Int32)) hx hb dX0_refusalOf_48 (by decide) ?_
            refine lv_goto (tgt := 53) hx hb dX0_refusalOf_49 (by decide) ?_
            exact W.iret (v := (-1 : Int32)) hx hb hr (fun t ht hW => ⟨⟨_, (f, u, o), rfl, by rw [hF], by rw [ht]; exact hP, hD⟩, hS.F ht⟩) hS.2.2 dX0_refusalOf_53
          · replace hF := xj_t hF c10
            refine lv_aload_n hx hb dX0_refusalOf_40 rfl (lv_at hl 0 rfl) ?_
            refine lv_iload_n hx hb dX0_refusalOf_41 rfl (lv_at hl 3 rfl) ?_
            refine xj_vi (As := [.int p3]) (rest := []) (Wd := mw_X0 h0 h_f cA_f) (wr := []) ⟨hx, hb, hml, hown, hts⟩ (mc_X0_isReserved l dC dI h0 h_f cA_f f u o p3 (mr_reg (fun h9 => c6 (ey5.trans h9)))) (cwV 1 hts gX0_refusalOf_X0_isReserved rfl rfl rfl (by decide +kernel) ⟨Nat.le_of_ble_eq_true rfl, Nat.le_of_ble_eq_true rfl⟩) hP hK hD hS hA [0, 1] [] [0] rfl (by decide) rfl (by decide) (by decide) rfl (va_recv hK hP (ci := 0) (q0 := 0) rfl rfl) rfl hl.1 rfl (Nat.le_of_ble_eq_true rfl) dX0_refusalOf_42 ⟨Nat.zero_le _, Nat.zero_le _⟩ (fun H9 locs9 hP hD hS => ?_)
            have hP : va_P (dC, dI) vwCl [(h0, .inr (0, [.ref h_f, .int u, .int o])), (h_f, .inl (cA_f, 8, .inr (.inl f)))] _ := hP
            have hD : va_D A [(h0, .inr (0, [.ref h_f, .int u, .int o])), (h_f, .inl (cA_f, 8, .inr (.inl f)))] := hD
            refine lv_topi (fun y11 ey11 => ?_)
            replace hF := xj_bz hF ey11
            refine lv_if_eq (tgt := 52) hx hb dX0_refusalOf_45 (by decide) (fun c12 => ?_) (fun c12 => ?_)
            · replace hF := xj_t hF c12
              refine lv_iconst (v := (0 : Int32)) hx hb dX0_refusalOf_52 (by decide) ?_
              exact W.iret (v := (0 : Int32)) hx hb hr (fun t ht hW => ⟨⟨_, (f, u, o), rfl, by rw [hF], by rw [ht]; exact hP, hD⟩, hS.F ht⟩) hS.2.2 dX0_refusalOf_53
            · replace hF := xj_f hF c12
              refine lv_iconst (v := (-1 : Int32)) hx hb dX0_refusalOf_48 (by decide) ?_
              refine lv_goto (tgt := 53) hx hb dX0_refusalOf_49 (by decide) ?_
              exact W.iret (v := (-1 : Int32)) hx hb hr (fun t ht hW => ⟨⟨_, (f, u, o), rfl, by rw [hF], by rw [ht]; exact hP, hD⟩, hS.F ht⟩) hS.2.2 dX0_refusalOf_53
        · replace hF := xj_t hF c8
          refine lv_bipush (v := (-5 : Int32)) hx hb dX0_refusalOf_29 (by decide) ?_
          exact W.iret (v := (-5 : Int32)) hx hb hr (fun t ht hW => ⟨⟨_, (f, u, o), rfl, by rw [hF], by rw [ht]; exact hP, hD⟩, hS.F ht⟩) hS.2.2 dX0_refusalOf_31
theorem mr_ref {f : Nat → Int64} {u o a b c d : Int32} (h : mf_X0_refusalOf f u o a b c d = 0) : vp_in b 8 ∧ vp_in c 8 ∧ vp_in d 8 := by
  unfold mf_X0_refusalOf xj_bnd at h
  dsimp only at h
  by_cases h1 : mf_X0_isSize a = 0
  · rw [if_pos h1] at h; exact absurd h (by decide)
  · rw [if_neg h1] at h
    by_cases h2 : mf_X0_isRegister b = 0
    · rw [if_pos h2] at h; exact absurd h (by decide)
    · rw [if_neg h2] at h
      by_cases h3 : mf_X0_isRegister c = 0
      · rw [if_pos h3] at h; exact absurd h (by decide)
      · rw [if_neg h3] at h
        by_cases h4 : mf_X0_isRegister d = 0
        · rw [if_pos h4] at h; exact absurd h (by decide)
        · exact ⟨mr_reg h2, mr_reg h3, mr_reg h4⟩

def mf_X0_flagsOf (p1 : Int64) : Int32 := (if p1 = (0 : Int64) then (4 : Int32) else (if (0 : Int64) ≤ p1 then (0 : Int32) else (8 : Int32)))
set_option maxHeartbeats 4000000 in
set_option maxRecDepth 100000 in
theorem mc_X0_flagsOf (l : Launch) (p1 : Int64) : xj_Pi l yX0_flagsOf wsX0_flagsOf ({ frames := 0, cells := 0, slots := 0, locals := 0 }) [.long p1] (mf_X0_flagsOf p1) := by
  intro sz
  refine Met.ofW (cc := cX0_flagsOf) (maxL := 2) (ret := (some .int)) (by decide) rfl ?_
  intro p e s m args below meth c s₁ B hml hv
  obtain ⟨rfl, hsz⟩ := hv
  have hx := B.exec
  have hb := B.bytes
  have hr := B.returns
  have hts := atoms_spec (ws := wsX0_flagsOf) B.pre
  have hown : s.vm.findClass RX0 = some m.cls := findClass_of_methodNamed B.named
  have hlocks := B.notSynchronized
  subst hsz
  generalize hAe : va_A [] s.heap.size = A
  have hA : ∀ q : Nat, s.heap.size ≤ q → A q := fun q h => by rw [← hAe]; exact Or.inr h
  have hS : va_S A s.heap s.heap [] := va_S.rf
  generalize hT : mf_X0_flagsOf p1 = T
  have hF := hT.symm
  unfold mf_X0_flagsOf at hF
  have hl := lv_entry ([.long p1]) (n := 2) (Nat.le_of_ble_eq_true rfl)
  rw [lg_entry_eq]
  generalize (lg_sl ([.long p1]) ++ List.replicate (2 - (lg_sl ([.long p1])).length) Slot.unset).toArray = ls at hl ⊢
  have hl : lv_has ls 2 [(0, .long p1)] := hl
  refine lv_lload_n hx hb dX0_flagsOf_0 rfl (lv_at hl 0 rfl) ?_
  refine lv_lconst (v := (0 : Int64)) hx hb dX0_flagsOf_1 (by decide) ?_
  refine xj_l_ne (tgt := 8) hx hb dX0_flagsOf_2 dX0_flagsOf_3 (by decide) (fun c1 => ?_) (fun c1 => ?_)
  · replace hF := xj_f hF c1
    refine lv_lload_n hx hb dX0_flagsOf_8 rfl (lv_at hl 0 rfl) ?_
    refine lv_lconst (v := (0 : Int64)) hx hb dX0_flagsOf_9 (by decide) ?_
    refine xj_l_ge (tgt := 19) hx hb dX0_flagsOf_10 dX0_flagsOf_11 (by decide) (fun c2 => ?_) (fun c2 => ?_)
    · replace hF := xj_t hF c2
      refine lv_iconst (v := (0 : Int32)) hx hb dX0_flagsOf_19 (by decide) ?_
      exact W.iret (v := (0 : Int32)) hx hb hr (fun t ht hW => ⟨⟨_, (), rfl, hF.symm, trivial⟩, hS.F ht⟩) hS.2.2 dX0_flagsOf_20
    · replace hF := xj_f hF c2
      refine lv_bipush (v := (8 : Int32)) hx hb dX0_flagsOf_14 (by decide) ?_
      refine lv_goto (tgt := 20) hx hb dX0_flagsOf_16 (by decide) ?_
      exact W.iret (v := (8 : Int32)) hx hb hr (fun t ht hW => ⟨⟨_, (), rfl, hF.symm, trivial⟩, hS.F ht⟩) hS.2.2 dX0_flagsOf_20
  · replace hF := xj_t hF c1
    refine lv_iconst (v := (4 : Int32)) hx hb dX0_flagsOf_6 (by decide) ?_
    exact W.iret (v := (4 : Int32)) hx hb hr (fun t ht hW => ⟨⟨_, (), rfl, hF.symm, trivial⟩, hS.F ht⟩) hS.2.2 dX0_flagsOf_7
def mf_X0_valueIn (f : Nat → Int64) (u : Int32) (o : Int32) (p1 : Int32) (p2 : Int32) : Int64 := (xj_bnd (if p1 = (4 : Int32) then ((f (Int32.toNatClampNeg p2)) &&& (4294967295 : Int64)) else (f (Int32.toNatClampNeg p2))) (fun y2 => (xj_bnd ((xj_ush y2 (7 : Int32)) &&& (255 : Int64)) (fun y3 => (if y3 = (0 : Int64) then (0 : Int64) else (xj_bnd ((((xj_shl (y2 &&& (127 : Int64)) (48 : Int32)) ||| (xj_shl ((xj_ush y2 (16 : Int32)) &&& (65535 : Int64)) (32 : Int32))) ||| (xj_shl ((xj_ush y2 (32 : Int32)) &&& (65535 : Int64)) (16 : Int32))) ||| (xj_ush y2 (48 : Int32))) (fun y5 => (xj_bnd ((xj_shl y3 (55 : Int32)) ||| y5) (fun y6 => (if (y2 &&& (32768 : Int64)) = (0 : Int64) then y6 else (-y6)))))))))))
set_option maxHeartbeats 4000000 in
set_option maxRecDepth 100000 in
theorem mc_X0_valueIn (l : Launch) (dC : Nat → ClassId) (dI : Nat → Nat → Nat) (h0 h_f : Nat) (cA_f : ClassId) (f : Nat → Int64) (u : Int32) (o : Int32) (p1 : Int32) (p2 : Int32) (hin2 : vp_in p2 8) : xj_Ol l (dC, dI) vwCl [(cA_f, .long)] (mw_X0 h0 h_f cA_f) yX0_valueIn wsX0_valueIn ({ frames := 0, cells := 0, slots := 0, locals := 0 }) [.ref h0, .int p1, .int p2] (f, u, o) (mf_X0_valueIn f u o p1 p2, (f, u, o)) := by
  intro sz
  refine Met.ofW (cc := cX0_valueIn) (maxL := 11) (ret := (some .long)) (by decide) rfl ?_
  intro p e s m args below meth c s₁ B hml hv
  obtain ⟨rfl, hsz, hP, hK, hD0⟩ := hv
  have hx := B.exec
  have hb := B.bytes
  have hr := B.returns
  have hts := atoms_spec (ws := wsX0_valueIn) B.pre
  have hown : s.vm.findClass RX0 = some m.cls := findClass_of_methodNamed B.named
  have hlocks := B.notSynchronized
  subst hsz
  have hD := hD0.self (sz := s.heap.size)
  generalize hAe : va_A (mw_X0 h0 h_f cA_f (f, u, o)) s.heap.size = A at hD ⊢
  have hA : ∀ q : Nat, s.heap.size ≤ q → A q := fun q h => by rw [← hAe]; exact Or.inr h
  have hS : va_S A s.heap s.heap [] := va_S.rf
  have hP : va_P (dC, dI) vwCl [(h0, .inr (0, [.ref h_f, .int u, .int o])), (h_f, .inl (cA_f, 8, .inr (.inl f)))] s.heap := hP
  have hD : va_D A [(h0, .inr (0, [.ref h_f, .int u, .int o])), (h_f, .inl (cA_f, 8, .inr (.inl f)))] := hD
  generalize hT : mf_X0_valueIn f u o p1 p2 = T
  have hF := hT.symm
  unfold mf_X0_valueIn at hF
  have hl := lv_entry ([.ref h0, .int p1, .int p2]) (n := 11) (Nat.le_of_ble_eq_true rfl)
  rw [lg_entry_eq]
  generalize (lg_sl ([.ref h0, .int p1, .int p2]) ++ List.replicate (11 - (lg_sl ([.ref h0, .int p1, .int p2])).length) Slot.unset).toArray = ls at hl ⊢
  have hl : lv_has ls 11 [(0, .ref h0), (1, .int p1), (2, .int p2)] := hl
  refine lv_iload_n hx hb dX0_valueIn_0 rfl (lv_at hl 1 rfl) ?_
  refine lv_iconst (v := (4 : Int32)) hx hb dX0_valueIn_1 (by decide) ?_
  obtain ⟨y2, ey2⟩ : ∃ z : Int64, z = (if p1 = (4 : Int32) then ((f (Int32.toNatClampNeg p2)) &&& (4294967295 : Int64)) else (f (Int32.toNatClampNeg p2))) := ⟨_, rfl⟩
  replace hF := xj_bz hF ey2
  refine xj_join 24 (fun ls' st' => lv_has ls' 11 [(0, .ref h0), (1, .int p1), (2, .int p2)] ∧ st' = [.long y2]) ?_ (fun K24 => ?_)
  · rintro ls st ⟨hl, rfl⟩
    refine lv_lstore_n (lv' := [(3, .long y2), (0, .ref h0), (1, .int p1), (2, .int p2)]) hx hb dX0_valueIn_24 rfl hl (by decide) rfl (fun ls hl => ?_)
    refine lv_lload_n hx hb dX0_valueIn_25 rfl (lv_at hl 0 rfl) ?_
    refine lv_bipush (v := (7 : Int32)) hx hb dX0_valueIn_26 (by decide) ?_
    refine lv_lushr (v := (xj_ush y2 (7 : Int32))) hx hb dX0_valueIn_28 rfl ?_
    refine lv_ldc2 (own := RX0) (v := (255 : Int64)) hx hb hown (hts (.constantLong RX0 82 (255 : Int64)) (by decide +kernel)) dX0_valueIn_29 ?_
    refine lv_land hx hb dX0_valueIn_32 ?_
    refine lv_topl (fun y3 ey3 => ?_)
    replace hF := xj_bz hF ey3
    refine lv_lstore (lv' := [(5, .long y3), (3, .long y2), (0, .ref h0), (1, .int p1), (2, .int p2)]) hx hb dX0_valueIn_33 hl (by decide) rfl (fun ls hl => ?_)
    refine lv_lload hx hb dX0_valueIn_35 (lv_at hl 0 rfl) ?_
    refine lv_lconst (v := (0 : Int64)) hx hb dX0_valueIn_37 (by decide) ?_
    refine xj_l_ne (tgt := 44) hx hb dX0_valueIn_38 dX0_valueIn_39 (by decide) (fun c4 => ?_) (fun c4 => ?_)
    · replace hF := xj_f hF c4
      refine lv_lload_n hx hb dX0_valueIn_44 rfl (lv_at hl 1 rfl) ?_
      refine lv_ldc2 (own := RX0) (v := (127 : Int64)) hx hb hown (hts (.constantLong RX0 84 (127 : Int64)) (by decide +kernel)) dX0_valueIn_45 ?_
      refine lv_land hx hb dX0_valueIn_48 ?_
      refine lv_bipush (v := (48 : Int32)) hx hb dX0_valueIn_49 (by decide) ?_
      refine lv_lshl (v := (xj_shl (y2 &&& (127 : Int64)) (48 : Int32))) hx hb dX0_valueIn_51 rfl ?_
      refine lv_lload_n hx hb dX0_valueIn_52 rfl (lv_at hl 1 rfl) ?_
      refine lv_bipush (v := (16 : Int32)) hx hb dX0_valueIn_53 (by decide) ?_
      refine lv_lushr (v := (xj_ush y2 (16 : Int32))) hx hb dX0_valueIn_55 rfl ?_
      refine lv_ldc2 (own := RX0) (v := (65535 : Int64)) hx hb hown (hts (.constantLong RX0 86 (65535 : Int64)) (by decide +kernel)) dX0_valueIn_56 ?_
      refine lv_land hx hb dX0_valueIn_59 ?_
      refine lv_bipush (v := (32 : Int32)) hx hb dX0_valueIn_60 (by decide) ?_
      refine lv_lshl (v := (xj_shl ((xj_ush y2 (16 : Int32)) &&& (65535 : Int64)) (32 : Int32))) hx hb dX0_valueIn_62 rfl ?_
      refine lv_lor hx hb dX0_valueIn_63 ?_
      refine lv_lload_n hx hb dX0_valueIn_64 rfl (lv_at hl 1 rfl) ?_
      refine lv_bipush (v := (32 : Int32)) hx hb dX0_valueIn_65 (by decide) ?_
      refine lv_lushr (v := (xj_ush y2 (32 : Int32))) hx hb dX0_valueIn_67 rfl ?_
      refine lv_ldc2 (own := RX0) (v := (65535 : Int64)) hx hb hown (hts (.constantLong RX0 86 (65535 : Int64)) (by decide +kernel)) dX0_valueIn_68 ?_
      refine lv_land hx hb dX0_valueIn_71 ?_
      refine lv_bipush (v := (16 : Int32)) hx hb dX0_valueIn_72 (by decide) ?_
      refine lv_lshl (v := (xj_shl ((xj_ush y2 (32 : Int32)) &&& (65535 : Int64)) (16 : Int32))) hx hb dX0_valueIn_74 rfl ?_
      refine lv_lor hx hb dX0_valueIn_75 ?_
      refine lv_lload_n hx hb dX0_valueIn_76 rfl (lv_at hl 1 rfl) ?_
      refine lv_bipush (v := (48 : Int32)) hx hb dX0_valueIn_77 (by decide) ?_
      refine lv_lushr (v := (xj_ush y2 (48 : Int32))) hx hb dX0_valueIn_79 rfl ?_
      refine lv_lor hx hb dX0_valueIn_80 ?_
      refine lv_topl (fun y5 ey5 => ?_)
      replace hF := xj_bz hF ey5
      refine lv_lstore (lv' := [(7, .long y5), (5, .long y3), (3, .long y2), (0, .ref h0), (1, .int p1), (2, .int p2)]) hx hb dX0_valueIn_81 hl (by decide) rfl (fun ls hl => ?_)
      refine lv_lload hx hb dX0_valueIn_83 (lv_at hl 1 rfl) ?_
      refine lv_bipush (v := (55 : Int32)) hx hb dX0_valueIn_85 (by decide) ?_
      refine lv_lshl (v := (xj_shl y3 (55 : Int32))) hx hb dX0_valueIn_87 rfl ?_
      refine lv_lload hx hb dX0_valueIn_88 (lv_at hl 0 rfl) ?_
      refine lv_lor hx hb dX0_valueIn_90 ?_
      refine lv_topl (fun y6 ey6 => ?_)
      replace hF := xj_bz hF ey6
      refine lv_lstore (lv' := [(9, .long y6), (7, .long y5), (5, .long y3), (3, .long y2), (0, .ref h0), (1, .int p1), (2, .int p2)]) hx hb dX0_valueIn_91 hl (by decide) rfl (fun ls hl => ?_)
      refine lv_lload_n hx hb dX0_valueIn_93 rfl (lv_at hl 3 rfl) ?_
      refine lv_ldc2 (own := RX0) (v := (32768 : Int64)) hx hb hown (hts (.constantLong RX0 75 (32768 : Int64)) (by decide +kernel)) dX0_valueIn_94 ?_
      refine lv_land hx hb dX0_valueIn_97 ?_
      refine lv_lconst (v := (0 : Int64)) hx hb dX0_valueIn_98 (by decide) ?_
      refine xj_l_eq (tgt := 109) hx hb dX0_valueIn_99 dX0_valueIn_100 (by decide) (fun c7 => ?_) (fun c7 => ?_)
      · replace hF := xj_t hF c7
        refine lv_lload hx hb dX0_valueIn_109 (lv_at hl 0 rfl) ?_
        exact W.lret (v := y6) hx hb hr (fun t ht hW => ⟨⟨_, (f, u, o), rfl, by rw [hF], by rw [ht]; exact hP, hD⟩, hS.F ht⟩) hS.2.2 dX0_valueIn_111
      · replace hF := xj_f hF c7
        refine lv_lload hx hb dX0_valueIn_103 (lv_at hl 0 rfl) ?_
        refine lv_lneg hx hb dX0_valueIn_105 ?_
        refine lv_goto (tgt := 111) hx hb dX0_valueIn_106 (by decide) ?_
        exact W.lret (v := (-y6)) hx hb hr (fun t ht hW => ⟨⟨_, (f, u, o), rfl, by rw [hF], by rw [ht]; exact hP, hD⟩, hS.F ht⟩) hS.2.2 dX0_valueIn_111
    · replace hF := xj_t hF c4
      refine lv_lconst (v := (0 : Int64)) hx hb dX0_valueIn_42 (by decide) ?_
      exact W.lret (v := (0 : Int64)) hx hb hr (fun t ht hW => ⟨⟨_, (f, u, o), rfl, by rw [hF], by rw [ht]; exact hP, hD⟩, hS.F ht⟩) hS.2.2 dX0_valueIn_43
  · refine lv_icmp_ne (tgt := 18) hx hb dX0_valueIn_2 (by decide) (fun c1 => ?_) (fun c1 => ?_)
    · replace ey2 := xj_f ey2 c1
      refine lv_aload_n hx hb dX0_valueIn_18 rfl (lv_at hl 0 rfl) ?_
      refine va_get (D := (dC, dI)) (ci := 0) (v := .ref h_f) (C := RX0) (T := TX0) (N := 3) hx hb hts (by decide +kernel) hown hK hP 0 rfl rfl 0 (by decide) (hts (.fieldLink RX0 9 "ExactFloats" "registers" "[J") (by decide +kernel)) (fun _ h9 => h9) rfl dX0_valueIn_19 ?_
      refine lv_iload_n hx hb dX0_valueIn_22 rfl (lv_at hl 2 rfl) ?_
      refine va_lald hx hb hK hP 1 0 rfl rfl (hin2) dX0_valueIn_23 ?_
      subst ey2
      exact K24 _ _ ⟨lv_sub hl [0, 1, 2] rfl, rfl⟩
    · replace ey2 := xj_t ey2 c1
      refine lv_aload_n hx hb dX0_valueIn_5 rfl (lv_at hl 0 rfl) ?_
      refine va_get (D := (dC, dI)) (ci := 0) (v := .ref h_f) (C := RX0) (T := TX0) (N := 3) hx hb hts (by decide +kernel) hown hK hP 0 rfl rfl 0 (by decide) (hts (.fieldLink RX0 9 "ExactFloats" "registers" "[J") (by decide +kernel)) (fun _ h9 => h9) rfl dX0_valueIn_6 ?_
      refine lv_iload_n hx hb dX0_valueIn_9 rfl (lv_at hl 2 rfl) ?_
      refine va_lald hx hb hK hP 1 0 rfl rfl (hin2) dX0_valueIn_10 ?_
      refine lv_ldc2 (own := RX0) (v := (4294967295 : Int64)) hx hb hown (hts (.constantLong RX0 80 (4294967295 : Int64)) (by decide +kernel)) dX0_valueIn_11 ?_
      refine lv_land hx hb dX0_valueIn_14 ?_
      refine lv_goto (tgt := 24) hx hb dX0_valueIn_15 (by decide) ?_
      subst ey2
      exact K24 _ _ ⟨lv_sub hl [0, 1, 2] rfl, rfl⟩
def mf_X0_bitsOf (p1 : Int32) (p2 : Int32) (p3 : Int64) : Int64 := (xj_bnd (if p1 = 0 then (0 : Int32) else (32768 : Int32)) (fun y2 => ((((((Int32.toInt64 y2) ||| (xj_shl (Int32.toInt64 p2) (7 : Int32))) ||| (xj_ush p3 (48 : Int32))) ||| (xj_shl ((xj_ush p3 (32 : Int32)) &&& (65535 : Int64)) (16 : Int32))) ||| (xj_shl ((xj_ush p3 (16 : Int32)) &&& (65535 : Int64)) (32 : Int32))) ||| (xj_shl (p3 &&& (65535 : Int64)) (48 : Int32)))))
set_option maxHeartbeats 4000000 in
set_option maxRecDepth 100000 in
theorem mc_X0_bitsOf (l : Launch) (p1 : Int32) (p2 : Int32) (p3 : Int64) : xj_Pl l yX0_bitsOf wsX0_bitsOf ({ frames := 0, cells := 0, slots := 0, locals := 0 }) [.int p1, .int p2, .long p3] (mf_X0_bitsOf p1 p2 p3) := by
  intro sz
  refine Met.ofW (cc := cX0_bitsOf) (maxL := 4) (ret := (some .long)) (by decide) rfl ?_
  intro p e s m args below meth c s₁ B hml hv
  obtain ⟨rfl, hsz⟩ := hv
  have hx := B.exec
  have hb := B.bytes
  have hr := B.returns
  have hts := atoms_spec (ws := wsX0_bitsOf) B.pre
  have hown : s.vm.findClass RX0 = some m.cls := findClass_of_methodNamed B.named
  have hlocks := B.notSynchronized
  subst hsz
  generalize hAe : va_A [] s.heap.size = A
  have hA : ∀ q : Nat, s.heap.size ≤ q → A q := fun q h => by rw [← hAe]; exact Or.inr h
  have hS : va_S A s.heap s.heap [] := va_S.rf
  generalize hT : mf_X0_bitsOf p1 p2 p3 = T
  have hF := hT.symm
  unfold mf_X0_bitsOf at hF
  have hl := lv_entry ([.int p1, .int p2, .long p3]) (n := 4) (Nat.le_of_ble_eq_true rfl)
  rw [lg_entry_eq]
  generalize (lg_sl ([.int p1, .int p2, .long p3]) ++ List.replicate (4 - (lg_sl ([.int p1, .int p2, .long p3])).length) Slot.unset).toArray = ls at hl ⊢
  have hl : lv_has ls 4 [(0, .int p1), (1, .int p2), (2, .long p3)] := hl
  refine lv_iload_n hx hb dX0_bitsOf_0 rfl (lv_at hl 0 rfl) ?_
  obtain ⟨y2, ey2⟩ : ∃ z : Int32, z = (if p1 = 0 then (0 : Int32) else (32768 : Int32)) := ⟨_, rfl⟩
  replace hF := xj_bz hF ey2
  refine xj_join 10 (fun ls' st' => lv_has ls' 4 [(0, .int p1), (1, .int p2), (2, .long p3)] ∧ st' = [.int y2]) ?_ (fun K10 => ?_)
  · rintro ls st ⟨hl, rfl⟩
    refine lv_i2l (v := (Int32.toInt64 y2)) hx hb dX0_bitsOf_10 rfl ?_
    refine lv_iload_n hx hb dX0_bitsOf_11 rfl (lv_at hl 1 rfl) ?_
    refine lv_i2l (v := (Int32.toInt64 p2)) hx hb dX0_bitsOf_12 rfl ?_
    refine lv_bipush (v := (7 : Int32)) hx hb dX0_bitsOf_13 (by decide) ?_
    refine lv_lshl (v := (xj_shl (Int32.toInt64 p2) (7 : Int32))) hx hb dX0_bitsOf_15 rfl ?_
    refine lv_lor hx hb dX0_bitsOf_16 ?_
    refine lv_lload_n hx hb dX0_bitsOf_17 rfl (lv_at hl 2 rfl) ?_
    refine lv_bipush (v := (48 : Int32)) hx hb dX0_bitsOf_18 (by decide) ?_
    refine lv_lushr (v := (xj_ush p3 (48 : Int32))) hx hb dX0_bitsOf_20 rfl ?_
    refine lv_lor hx hb dX0_bitsOf_21 ?_
    refine lv_lload_n hx hb dX0_bitsOf_22 rfl (lv_at hl 2 rfl) ?_
    refine lv_bipush (v := (32 : Int32)) hx hb dX0_bitsOf_23 (by decide) ?_
    refine lv_lushr (v := (xj_ush p3 (32 : Int32))) hx hb dX0_bitsOf_25 rfl ?_
    refine lv_ldc2 (own := RX0) (v := (65535 : Int64)) hx hb hown (hts (.constantLong RX0 86 (65535 : Int64)) (by decide +kernel)) dX0_bitsOf_26 ?_
    refine lv_land hx hb dX0_bitsOf_29 ?_
    refine lv_bipush (v := (16 : Int32)) hx hb dX0_bitsOf_30 (by decide) ?_
    refine lv_lshl (v := (xj_shl ((xj_ush p3 (32 : Int32)) &&& (65535 : Int64)) (16 : Int32))) hx hb dX0_bitsOf_32 rfl ?_
    refine lv_lor hx hb dX0_bitsOf_33 ?_
    refine lv_lload_n hx hb dX0_bitsOf_34 rfl (lv_at hl 2 rfl) ?_
    refine lv_bipush (v := (16 : Int32)) hx hb dX0_bitsOf_35 (by decide) ?_
    refine lv_lushr (v := (xj_ush p3 (16 : Int32))) hx hb dX0_bitsOf_37 rfl ?_
    refine lv_ldc2 (own := RX0) (v := (65535 : Int64)) hx hb hown (hts (.constantLong RX0 86 (65535 : Int64)) (by decide +kernel)) dX0_bitsOf_38 ?_
    refine lv_land hx hb dX0_bitsOf_41 ?_
    refine lv_bipush (v := (32 : Int32)) hx hb dX0_bitsOf_42 (by decide) ?_
    refine lv_lshl (v := (xj_shl ((xj_ush p3 (16 : Int32)) &&& (65535 : Int64)) (32 : Int32))) hx hb dX0_bitsOf_44 rfl ?_
    refine lv_lor hx hb dX0_bitsOf_45 ?_
    refine lv_lload_n hx hb dX0_bitsOf_46 rfl (lv_at hl 2 rfl) ?_
    refine lv_ldc2 (own := RX0) (v := (65535 : Int64)) hx hb hown (hts (.constantLong RX0 86 (65535 : Int64)) (by decide +kernel)) dX0_bitsOf_47 ?_
    refine lv_land hx hb dX0_bitsOf_50 ?_
    refine lv_bipush (v := (48 : Int32)) hx hb dX0_bitsOf_51 (by decide) ?_
    refine lv_lshl (v := (xj_shl (p3 &&& (65535 : Int64)) (48 : Int32))) hx hb dX0_bitsOf_53 rfl ?_
    refine lv_lor hx hb dX0_bitsOf_54 ?_
    exact W.lret (v := ((((((Int32.toInt64 y2) ||| (xj_shl (Int32.toInt64 p2) (7 : Int32))) ||| (xj_ush p3 (48 : Int32))) ||| (xj_shl ((xj_ush p3 (32 : Int32)) &&& (65535 : Int64)) (16 : Int32))) ||| (xj_shl ((xj_ush p3 (16 : Int32)) &&& (65535 : Int64)) (32 : Int32))) ||| (xj_shl (p3 &&& (65535 : Int64)) (48 : Int32)))) hx hb hr (fun t ht hW => ⟨⟨_, (), rfl, hF.symm, trivial⟩, hS.F ht⟩) hS.2.2 dX0_bitsOf_55
  · refine lv_if_eq (tgt := 9) hx hb dX0_bitsOf_1 (by decide) (fun c1 => ?_) (fun c1 => ?_)
    · replace ey2 := xj_t ey2 c1
      refine lv_iconst (v := (0 : Int32)) hx hb dX0_bitsOf_9 (by decide) ?_
      subst ey2
      exact K10 _ _ ⟨lv_sub hl [0, 1, 2] rfl, rfl⟩
    · replace ey2 := xj_f ey2 c1
      refine lv_ldc (own := RX0) (v := (32768 : Int32)) hx hb hown (hts (.constant RX0 88 (32768 : Int32)) (by decide +kernel)) dX0_bitsOf_4 ?_
      refine lv_goto (tgt := 10) hx hb dX0_bitsOf_6 (by decide) ?_
      subst ey2
      exact K10 _ _ ⟨lv_sub hl [0, 1, 2] rfl, rfl⟩
def mf_X0_exponentOf (p1 : Int64) : Int32 := (xj_bnd (xj_abs p1) (fun y1 => (Int64.toInt32 (xj_ush y1 (55 : Int32)))))
set_option maxHeartbeats 4000000 in
set_option maxRecDepth 100000 in
theorem mc_X0_exponentOf (l : Launch) (p1 : Int64) : xj_Pi l yX0_exponentOf wsX0_exponentOf ({ frames := 1, cells := 0, slots := 0, locals := 13 }) [.long p1] (mf_X0_exponentOf p1) := by
  intro sz
  refine Met.ofW (cc := cX0_exponentOf) (maxL := 2) (ret := (some .int)) (by decide) rfl ?_
  intro p e s m args below meth c s₁ B hml hv
  obtain ⟨rfl, hsz⟩ := hv
  have hx := B.exec
  have hb := B.bytes
  have hr := B.returns
  have hts := atoms_spec (ws := wsX0_exponentOf) B.pre
  have hown : s.vm.findClass RX0 = some m.cls := findClass_of_methodNamed B.named
  have hlocks := B.notSynchronized
  subst hsz
  generalize hAe : va_A [] s.heap.size = A
  have hA : ∀ q : Nat, s.heap.size ≤ q → A q := fun q h => by rw [← hAe]; exact Or.inr h
  have hS : va_S A s.heap s.heap [] := va_S.rf
  generalize hT : mf_X0_exponentOf p1 = T
  have hF := hT.symm
  unfold mf_X0_exponentOf at hF
  have hl := lv_entry ([.long p1]) (n := 2) (Nat.le_of_ble_eq_true rfl)
  rw [lg_entry_eq]
  generalize (lg_sl ([.long p1]) ++ List.replicate (2 - (lg_sl ([.long p1])).length) Slot.unset).toArray = ls at hl ⊢
  have hl : lv_has ls 2 [(0, .long p1)] := hl
  refine lv_lload_n hx hb dX0_exponentOf_0 rfl (lv_at hl 0 rfl) ?_
  refine va_mabs_long (x := p1) hx hb (by rw [hml]; exact hl.1.symm) hown (hts (.methodLink RX0 63 Lib.MathLoose.abs_long.x) (by decide +kernel)) (hts (.static Lib.MathLoose.abs_long.x) (by decide +kernel)) (hts (.initialized "java/lang/Math") (by decide +kernel)) (hts _ (by decide +kernel)) (Nat.le_of_ble_eq_true rfl) (Nat.le_of_ble_eq_true rfl) (Nat.zero_le _) (Nat.zero_le _) dX0_exponentOf_1 ?_
  refine lv_topl (fun y1 ey1 => ?_)
  replace hF := xj_bz hF ey1
  refine lv_bipush (v := (55 : Int32)) hx hb dX0_exponentOf_4 (by decide) ?_
  refine lv_lushr (v := (xj_ush y1 (55 : Int32))) hx hb dX0_exponentOf_6 rfl ?_
  refine lv_l2i (v := (Int64.toInt32 (xj_ush y1 (55 : Int32)))) hx hb dX0_exponentOf_7 rfl ?_
  exact W.iret (v := (Int64.toInt32 (xj_ush y1 (55 : Int32)))) hx hb hr (fun t ht hW => ⟨⟨_, (), rfl, hF.symm, trivial⟩, hS.F ht⟩) hS.2.2 dX0_exponentOf_8
def mf_X0_significandOf (p1 : Int64) : Int64 := (xj_bnd (xj_abs p1) (fun y1 => ((y1 &&& (36028797018963967 : Int64)) ||| (36028797018963968 : Int64))))
set_option maxHeartbeats 4000000 in
set_option maxRecDepth 100000 in
theorem mc_X0_significandOf (l : Launch) (p1 : Int64) : xj_Pl l yX0_significandOf wsX0_significandOf ({ frames := 1, cells := 0, slots := 0, locals := 13 }) [.long p1] (mf_X0_significandOf p1) := by
  intro sz
  refine Met.ofW (cc := cX0_significandOf) (maxL := 2) (ret := (some .long)) (by decide) rfl ?_
  intro p e s m args below meth c s₁ B hml hv
  obtain ⟨rfl, hsz⟩ := hv
  have hx := B.exec
  have hb := B.bytes
  have hr := B.returns
  have hts := atoms_spec (ws := wsX0_significandOf) B.pre
  have hown : s.vm.findClass RX0 = some m.cls := findClass_of_methodNamed B.named
  have hlocks := B.notSynchronized
  subst hsz
  generalize hAe : va_A [] s.heap.size = A
  have hA : ∀ q : Nat, s.heap.size ≤ q → A q := fun q h => by rw [← hAe]; exact Or.inr h
  have hS : va_S A s.heap s.heap [] := va_S.rf
  generalize hT : mf_X0_significandOf p1 = T
  have hF := hT.symm
  unfold mf_X0_significandOf at hF
  have hl := lv_entry ([.long p1]) (n := 2) (Nat.le_of_ble_eq_true rfl)
  rw [lg_entry_eq]
  generalize (lg_sl ([.long p1]) ++ List.replicate (2 - (lg_sl ([.long p1])).length) Slot.unset).toArray = ls at hl ⊢
  have hl : lv_has ls 2 [(0, .long p1)] := hl
  refine lv_lload_n hx hb dX0_significandOf_0 rfl (lv_at hl 0 rfl) ?_
  refine va_mabs_long (x := p1) hx hb (by rw [hml]; exact hl.1.symm) hown (hts (.methodLink RX0 63 Lib.MathLoose.abs_long.x) (by decide +kernel)) (hts (.static Lib.MathLoose.abs_long.x) (by decide +kernel)) (hts (.initialized "java/lang/Math") (by decide +kernel)) (hts _ (by decide +kernel)) (Nat.le_of_ble_eq_true rfl) (Nat.le_of_ble_eq_true rfl) (Nat.zero_le _) (Nat.zero_le _) dX0_significandOf_1 ?_
  refine lv_topl (fun y1 ey1 => ?_)
  replace hF := xj_bz hF ey1
  refine lv_ldc2 (own := RX0) (v := (36028797018963967 : Int64)) hx hb hown (hts (.constantLong RX0 89 (36028797018963967 : Int64)) (by decide +kernel)) dX0_significandOf_4 ?_
  refine lv_land hx hb dX0_significandOf_7 ?_
  refine lv_ldc2 (own := RX0) (v := (36028797018963968 : Int64)) hx hb hown (hts (.constantLong RX0 91 (36028797018963968 : Int64)) (by decide +kernel)) dX0_significandOf_8 ?_
  refine lv_lor hx hb dX0_significandOf_11 ?_
  exact W.lret (v := ((y1 &&& (36028797018963967 : Int64)) ||| (36028797018963968 : Int64))) hx hb hr (fun t ht hW => ⟨⟨_, (), rfl, hF.symm, trivial⟩, hS.F ht⟩) hS.2.2 dX0_significandOf_12
def mf_X0_storeZero (f : Nat → Int64) (u : Int32) (o : Int32) (p1 : Int32) (p2 : Int32) : Int32 × (Nat → Int64) × Int32 × Int32 := ((4 : Int32), ((vp_updL f (Int32.toNatClampNeg p1) (0 : Int64)), u, p2))
set_option maxHeartbeats 4000000 in
set_option maxRecDepth 100000 in
theorem mc_X0_storeZero (l : Launch) (dC : Nat → ClassId) (dI : Nat → Nat → Nat) (h0 h_f : Nat) (cA_f : ClassId) (f : Nat → Int64) (u : Int32) (o : Int32) (p1 : Int32) (p2 : Int32) (hin1 : vp_in p1 8) (hb2 : p2 = 0 ∨ p2 = 1) : xj_Oi l (dC, dI) vwCl [(cA_f, .long)] (mw_X0 h0 h_f cA_f) yX0_storeZero wsX0_storeZero ({ frames := 0, cells := 0, slots := 0, locals := 0 }) [.ref h0, .int p1, .int p2] (f, u, o) (mf_X0_storeZero f u o p1 p2) := by
  intro sz
  refine Met.ofW (cc := cX0_storeZero) (maxL := 3) (ret := (some .int)) (by decide) rfl ?_
  intro p e s m args below meth c s₁ B hml hv
  obtain ⟨rfl, hsz, hP, hK, hD0⟩ := hv
  have hx := B.exec
  have hb := B.bytes
  have hr := B.returns
  have hts := atoms_spec (ws := wsX0_storeZero) B.pre
  have hown : s.vm.findClass RX0 = some m.cls := findClass_of_methodNamed B.named
  have hlocks := B.notSynchronized
  subst hsz
  have hD := hD0.self (sz := s.heap.size)
  generalize hAe : va_A (mw_X0 h0 h_f cA_f (f, u, o)) s.heap.size = A at hD ⊢
  have hA : ∀ q : Nat, s.heap.size ≤ q → A q := fun q h => by rw [← hAe]; exact Or.inr h
  have hS : va_S A s.heap s.heap [] := va_S.rf
  have hP : va_P (dC, dI) vwCl [(h0, .inr (0, [.ref h_f, .int u, .int o])), (h_f, .inl (cA_f, 8, .inr (.inl f)))] s.heap := hP
  have hD : va_D A [(h0, .inr (0, [.ref h_f, .int u, .int o])), (h_f, .inl (cA_f, 8, .inr (.inl f)))] := hD
  generalize hT : mf_X0_storeZero f u o p1 p2 = T
  have hF := hT.symm
  unfold mf_X0_storeZero at hF
  have hl := lv_entry ([.ref h0, .int p1, .int p2]) (n := 3) (Nat.le_of_ble_eq_true rfl)
  rw [lg_entry_eq]
  generalize (lg_sl ([.ref h0, .int p1, .int p2]) ++ List.replicate (3 - (lg_sl ([.ref h0, .int p1, .int p2])).length) Slot.unset).toArray = ls at hl ⊢
  have hl : lv_has ls 3 [(0, .ref h0), (1, .int p1), (2, .int p2)] := hl
  refine lv_aload_n hx hb dX0_storeZero_0 rfl (lv_at hl 0 rfl) ?_
  refine va_get (D := (dC, dI)) (ci := 0) (v := .ref h_f) (C := RX0) (T := TX0) (N := 3) hx hb hts (by decide +kernel) hown hK hP 0 rfl rfl 0 (by decide) (hts (.fieldLink RX0 9 "ExactFloats" "registers" "[J") (by decide +kernel)) (fun _ h9 => h9) rfl dX0_storeZero_1 ?_
  refine lv_iload_n hx hb dX0_storeZero_4 rfl (lv_at hl 1 rfl) ?_
  refine lv_lconst (v := (0 : Int64)) hx hb dX0_storeZero_5 (by decide) ?_
  refine va_last hx hb hK hP hD hS 1 0 rfl rfl (hin1) dX0_storeZero_6 (fun H9 locs9 hP hD hS => ?_)
  have hP : va_P (dC, dI) vwCl [(h0, .inr (0, [.ref h_f, .int u, .int o])), (h_f, .inl (cA_f, 8, .inr (.inl (vp_updL f (Int32.toNatClampNeg p1) (0 : Int64)))))] _ := hP
  have hD : va_D A [(h0, .inr (0, [.ref h_f, .int u, .int o])), (h_f, .inl (cA_f, 8, .inr (.inl (vp_updL f (Int32.toNatClampNeg p1) (0 : Int64)))))] := hD
  refine lv_aload_n hx hb dX0_storeZero_7 rfl (lv_at hl 0 rfl) ?_
  refine lv_iload_n hx hb dX0_storeZero_8 rfl (lv_at hl 2 rfl) ?_
  refine va_put (D := (dC, dI)) (ci := 0) (v := .int p2) (ty := .boolean) (C := RX0) (T := TX0) (N := 3) hx hb hts (by decide +kernel) tyX0 tyX0_ok nmX0 hown hK hP hD hS 0 rfl rfl 2 (by decide) (hts (.fieldLink RX0 17 "ExactFloats" "lastWasInexact" "Z") (by decide +kernel)) (fun _ h9 => h9) rfl (by decide +kernel) (xj_nb (hb2)) (xj_fb (hb2)) (Nat.le_of_ble_eq_true rfl) dX0_storeZero_9 (fun H9 locs9 hP hD hS => ?_)
  have hP : va_P (dC, dI) vwCl [(h0, .inr (0, [.ref h_f, .int u, .int p2])), (h_f, .inl (cA_f, 8, .inr (.inl (vp_updL f (Int32.toNatClampNeg p1) (0 : Int64)))))] _ := hP
  have hD : va_D A [(h0, .inr (0, [.ref h_f, .int u, .int p2])), (h_f, .inl (cA_f, 8, .inr (.inl (vp_updL f (Int32.toNatClampNeg p1) (0 : Int64)))))] := hD
  refine lv_iconst (v := (4 : Int32)) hx hb dX0_storeZero_12 (by decide) ?_
  exact W.iret (v := (4 : Int32)) hx hb hr (fun t ht hW => ⟨⟨_, ((vp_updL f (Int32.toNatClampNeg p1) (0 : Int64)), u, p2), rfl, hF.symm, by rw [ht]; exact hP, hD⟩, hS.F ht⟩) hS.2.2 dX0_storeZero_13
set_option maxHeartbeats 4000000 in
set_option maxRecDepth 100000 in
theorem mc_X0_init (l : Launch) (dC : Nat → ClassId) (dI : Nat → Nat → Nat) (h0 sz : Nat) : Met l yX0_init wsX0_init ({ frames := 1, cells := 1, slots := 8, locals := 12 }) (va_Pc [.ref h0] (fun U => U.heap.size = sz ∧ va_P (dC, dI) vwCl [(h0, .inr (0, [.null, .int (0 : Int32), .int (0 : Int32)]))] U.heap ∧ va_K (dC, dI) vwCl [] U ∧ va_D (fun _ => True) [(h0, .inr (0, [.null, .int (0 : Int32), .int (0 : Int32)]))])) (va_Qv (fun (_ : Nat × ClassId) => True) (fun u t => va_P (dC, dI) vwCl (mw_X0 h0 u.1 u.2 (fun _ => 0, 0, 0)) t.heap ∧ va_K (dC, dI) vwCl [(u.2, .long)] t ∧ va_D (va_A [(h0, .inr (0, [.null, .int (0 : Int32), .int (0 : Int32)]))] sz) (mw_X0 h0 u.1 u.2 (fun _ => 0, 0, 0))) (va_A [(h0, .inr (0, [.null, .int (0 : Int32), .int (0 : Int32)]))] sz)) 1 8 (va_A [(h0, .inr (0, [.null, .int (0 : Int32), .int (0 : Int32)]))] sz) := by
  refine Met.ofW (cc := cX0_init) (maxL := 1) (ret := none) (by decide) rfl ?_
  intro p e s m args below meth c s₁ B hml hv
  obtain ⟨rfl, hsz, hP, hK, hD0⟩ := hv
  have hx := B.exec
  have hb := B.bytes
  have hr := B.returns
  have hts := atoms_spec (ws := wsX0_init) B.pre
  have hown : s.vm.findClass RX0 = some m.cls := findClass_of_methodNamed B.named
  have hin : meth.name = "<init>" := (name_of_methodNamed B.named B.method).1
  subst hsz
  have hD := hD0.self (sz := s.heap.size)
  generalize hAe : va_A [(h0, .inr (0, [.null, .int (0 : Int32), .int (0 : Int32)]))] s.heap.size = A at hD ⊢
  have hA : ∀ q : Nat, s.heap.size ≤ q → A q := fun q h => by rw [← hAe]; exact Or.inr h
  have hS : va_S A s.heap s.heap [] := va_S.rf
  have hP : va_P (dC, dI) vwCl [(h0, .inr (0, [.null, .int (0 : Int32), .int (0 : Int32)]))] s.heap := hP
  have hl := lv_entry ([.ref h0]) (n := 1) (Nat.le_of_ble_eq_true rfl)
  rw [lg_entry_eq]
  generalize (lg_sl ([.ref h0]) ++ List.replicate (1 - (lg_sl ([.ref h0])).length) Slot.unset).toArray = ls at hl ⊢
  have hl : lv_has ls 1 [(0, .ref h0)] := hl
  refine lv_aload_n hx hb dX0_init_0 rfl (lv_at hl 0 rfl) ?_
  refine W.objInit hx hb hown (hts (.methodLink RX0 3 objectInit) (by decide +kernel)) (hts (.instanceMethod objectInit) (by decide +kernel)) (hts (.code objectInit ⟨#[0xb1]⟩ 1 none) (by decide +kernel)) rfl (by rw [hml]; exact hl.1) rfl dX0_init_1 (Nat.le_of_ble_eq_true rfl) (Nat.le_of_ble_eq_true rfl) ?_
  refine W.eq (g2 := F0 m 4 ls []) rfl ?_
  refine lv_aload_n hx hb dX0_init_4 rfl (lv_at hl 0 rfl) ?_
  refine lv_bipush (v := (8 : Int32)) hx hb dX0_init_5 (by decide) ?_
  refine va_newa (atype := .long) (ty := .long) (N' := 8) (a0 := (8, .inr (.inl (fun _ => 0)))) hx hb (hts (.arrayClass .long) (by decide +kernel)) rfl hK hP hD hS hA (fun _ => rfl) (by decide +kernel) (by decide +kernel) (by decide +kernel) (Nat.le_of_ble_eq_true rfl) (Nat.le_of_ble_eq_true rfl) dX0_init_7 (fun q1 cA1 H9 hK hP hD hS => ?_)
  have hK : va_K (dC, dI) vwCl [(cA1, .long)] s := hK
  have hP : va_P (dC, dI) vwCl [(h0, .inr (0, [.null, .int (0 : Int32), .int (0 : Int32)])), (q1, .inl (cA1, 8, .inr (.inl (fun _ => 0))))] _ := hP
  have hD : va_D A [(h0, .inr (0, [.null, .int (0 : Int32), .int (0 : Int32)])), (q1, .inl (cA1, 8, .inr (.inl (fun _ => 0))))] := hD
  refine W.widen (k := 1) (n := 8) (Nat.le_of_ble_eq_true rfl) (Nat.le_of_ble_eq_true rfl) ?_
  refine va_putF (D := (dC, dI)) (ci := 0) (v := .ref q1) (ty := .array .long) (C := RX0) (T := TX0) (N := 3) hx hb hts (by decide +kernel) tyX0 tyX0_ok nmX0 hown hK hP hD hS 0 rfl rfl 0 (by decide) (hts (.fieldLink RX0 9 "ExactFloats" "registers" "[J") (by decide +kernel)) (fun _ h9 => h9) rfl hin rfl (by decide +kernel) rfl rfl (Nat.le_of_ble_eq_true rfl) dX0_init_9 (fun H9 locs9 hP hD hS => ?_)
  have hP : va_P (dC, dI) vwCl [(h0, .inr (0, [.ref q1, .int (0 : Int32), .int (0 : Int32)])), (q1, .inl (cA1, 8, .inr (.inl (fun _ => 0))))] _ := hP
  have hD : va_D A [(h0, .inr (0, [.ref q1, .int (0 : Int32), .int (0 : Int32)])), (q1, .inl (cA1, 8, .inr (.inl (fun _ => 0))))] := hD
  refine lv_aload_n hx hb dX0_init_12 rfl (lv_at hl 0 rfl) ?_
  refine lv_iconst (v := (0 : Int32)) hx hb dX0_init_13 (by decide) ?_
  refine va_put (D := (dC, dI)) (ci := 0) (v := .int (0 : Int32)) (ty := .boolean) (C := RX0) (T := TX0) (N := 3) hx hb hts (by decide +kernel) tyX0 tyX0_ok nmX0 hown hK hP hD hS 0 rfl rfl 1 (by decide) (hts (.fieldLink RX0 13 "ExactFloats" "underflowAsked" "Z") (by decide +kernel)) (fun _ h9 => h9) rfl (by decide +kernel) rfl rfl (Nat.le_of_ble_eq_true rfl) dX0_init_14 (fun H9 locs9 hP hD hS => ?_)
  have hP : va_P (dC, dI) vwCl [(h0, .inr (0, [.ref q1, .int (0 : Int32), .int (0 : Int32)])), (q1, .inl (cA1, 8, .inr (.inl (fun _ => 0))))] _ := hP
  have hD : va_D A [(h0, .inr (0, [.ref q1, .int (0 : Int32), .int (0 : Int32)])), (q1, .inl (cA1, 8, .inr (.inl (fun _ => 0))))] := hD
  refine lv_aload_n hx hb dX0_init_17 rfl (lv_at hl 0 rfl) ?_
  refine lv_iconst (v := (0 : Int32)) hx hb dX0_init_18 (by decide) ?_
  refine va_put (D := (dC, dI)) (ci := 0) (v := .int (0 : Int32)) (ty := .boolean) (C := RX0) (T := TX0) (N := 3) hx hb hts (by decide +kernel) tyX0 tyX0_ok nmX0 hown hK hP hD hS 0 rfl rfl 2 (by decide) (hts (.fieldLink RX0 17 "ExactFloats" "lastWasInexact" "Z") (by decide +kernel)) (fun _ h9 => h9) rfl (by decide +kernel) rfl rfl (Nat.le_of_ble_eq_true rfl) dX0_init_19 (fun H9 locs9 hP hD hS => ?_)
  have hP : va_P (dC, dI) vwCl [(h0, .inr (0, [.ref q1, .int (0 : Int32), .int (0 : Int32)])), (q1, .inl (cA1, 8, .inr (.inl (fun _ => 0))))] _ := hP
  have hD : va_D A [(h0, .inr (0, [.ref q1, .int (0 : Int32), .int (0 : Int32)])), (q1, .inl (cA1, 8, .inr (.inl (fun _ => 0))))] := hD
  exact W.vret hx hb hr (fun t ht hW => ⟨⟨(q1, cA1), rfl, trivial, by rw [ht]; exact hP, va_K.moved hW.alike hK, hD⟩, hS.F ht⟩) hS.2.2 dX0_init_22
