abbrev mw_Y (k0 k_g : Nat) (cB_g : ClassId) (st : (Nat → Int64) × Int32 × Int32 × Int32 × Int32 × Int64 × Int32 × Int32) : va_W := [(k0, .inr (1, [.ref k_g, .int st.2.1, .int st.2.2.1, .int st.2.2.2.1, .int st.2.2.2.2.1, .long st.2.2.2.2.2.1, .int st.2.2.2.2.2.2.1, .int st.2.2.2.2.2.2.2])), (k_g, .inl (cB_g, 8, .inr (.inl st.1)))]
def mf_Y_isSize (p1 : Int32) : Int32 := (if p1 = (4 : Int32) then (1 : Int32) else (if p1 = (8 : Int32) then (1 : Int32) else (0 : Int32)))
set_option maxHeartbeats 4000000 in
set_option maxRecDepth 100000 in
theorem mc_Y_isSize (l : Launch) (p1 : Int32) : xj_Pi l yY_isSize wsY_isSize ({ frames := 0, cells := 0, slots := 0, locals := 0 }) [.int p1] (mf_Y_isSize p1) := by
  intro sz
  refine Met.ofW (cc := cY_isSize) (maxL := 1) (ret := (some .boolean)) (by decide) rfl ?_
  intro p e s m args below meth c s₁ B hml hv
  obtain ⟨rfl, hsz⟩ := hv
  have hx := B.exec
  have hb := B.bytes
  have hr := B.returns
  have hts := atoms_spec (ws := wsY_isSize) B.pre
  have hown : s.vm.findClass RX1 = some m.cls := findClass_of_methodNamed B.named
  have hlocks := B.notSynchronized
  subst hsz
  generalize hAe : va_A [] s.heap.size = A
  have hA : ∀ q : Nat, s.heap.size ≤ q → A q := fun q h => by rw [← hAe]; exact Or.inr h
  have hS : va_S A s.heap s.heap [] := va_S.rf
  generalize hT : mf_Y_isSize p1 = T
  have hF := hT.symm
  unfold mf_Y_isSize at hF
  have hl := lv_entry ([.int p1]) (n := 1) (Nat.le_of_ble_eq_true rfl)
  rw [lg_entry_eq]
  generalize (lg_sl ([.int p1]) ++ List.replicate (1 - (lg_sl ([.int p1])).length) Slot.unset).toArray = ls at hl ⊢
  have hl : lv_has ls 1 [(0, .int p1)] := hl
  refine lv_iload_n hx hb dY_isSize_0 rfl (lv_at hl 0 rfl) ?_
  refine lv_iconst (v := (4 : Int32)) hx hb dY_isSize_1 (by decide) ?_
  refine lv_icmp_eq (tgt := 11) hx hb dY_isSize_2 (by decide) (fun c1 => ?_) (fun c1 => ?_)
  · replace hF := xj_t hF c1
    refine lv_iconst (v := (1 : Int32)) hx hb dY_isSize_11 (by decide) ?_
    refine lv_goto (tgt := 16) hx hb dY_isSize_12 (by decide) ?_
    exact W.zret (v := (1 : Int32)) hx hb hr rfl (fun t ht hW => ⟨⟨_, (), rfl, hF.symm, trivial⟩, hS.F ht⟩) hS.2.2 dY_isSize_16
  · replace hF := xj_f hF c1
    refine lv_iload_n hx hb dY_isSize_5 rfl (lv_at hl 0 rfl) ?_
    refine lv_bipush (v := (8 : Int32)) hx hb dY_isSize_6 (by decide) ?_
    refine lv_icmp_ne (tgt := 15) hx hb dY_isSize_8 (by decide) (fun c2 => ?_) (fun c2 => ?_)
    · replace hF := xj_f hF c2
      refine lv_iconst (v := (0 : Int32)) hx hb dY_isSize_15 (by decide) ?_
      exact W.zret (v := (0 : Int32)) hx hb hr rfl (fun t ht hW => ⟨⟨_, (), rfl, hF.symm, trivial⟩, hS.F ht⟩) hS.2.2 dY_isSize_16
    · replace hF := xj_t hF c2
      refine lv_iconst (v := (1 : Int32)) hx hb dY_isSize_11 (by decide) ?_
      refine lv_goto (tgt := 16) hx hb dY_isSize_12 (by decide) ?_
      exact W.zret (v := (1 : Int32)) hx hb hr rfl (fun t ht hW => ⟨⟨_, (), rfl, hF.symm, trivial⟩, hS.F ht⟩) hS.2.2 dY_isSize_16
def mf_Y_isRegister (p1 : Int32) : Int32 := (if p1 < 0 then (0 : Int32) else (if (7 : Int32) < p1 then (0 : Int32) else (1 : Int32)))
set_option maxHeartbeats 4000000 in
set_option maxRecDepth 100000 in
theorem mc_Y_isRegister (l : Launch) (p1 : Int32) : xj_Pi l yY_isRegister wsY_isRegister ({ frames := 0, cells := 0, slots := 0, locals := 0 }) [.int p1] (mf_Y_isRegister p1) := by
  intro sz
  refine Met.ofW (cc := cY_isRegister) (maxL := 1) (ret := (some .boolean)) (by decide) rfl ?_
  intro p e s m args below meth c s₁ B hml hv
  obtain ⟨rfl, hsz⟩ := hv
  have hx := B.exec
  have hb := B.bytes
  have hr := B.returns
  have hts := atoms_spec (ws := wsY_isRegister) B.pre
  have hown : s.vm.findClass RX1 = some m.cls := findClass_of_methodNamed B.named
  have hlocks := B.notSynchronized
  subst hsz
  generalize hAe : va_A [] s.heap.size = A
  have hA : ∀ q : Nat, s.heap.size ≤ q → A q := fun q h => by rw [← hAe]; exact Or.inr h
  have hS : va_S A s.heap s.heap [] := va_S.rf
  generalize hT : mf_Y_isRegister p1 = T
  have hF := hT.symm
  unfold mf_Y_isRegister at hF
  have hl := lv_entry ([.int p1]) (n := 1) (Nat.le_of_ble_eq_true rfl)
  rw [lg_entry_eq]
  generalize (lg_sl ([.int p1]) ++ List.replicate (1 - (lg_sl ([.int p1])).length) Slot.unset).toArray = ls at hl ⊢
  have hl : lv_has ls 1 [(0, .int p1)] := hl
  refine lv_iload_n hx hb dY_isRegister_0 rfl (lv_at hl 0 rfl) ?_
  refine lv_if_lt (tgt := 14) hx hb dY_isRegister_1 (by decide) (fun c1 => ?_) (fun c1 => ?_)
  · replace hF := xj_t hF c1
    refine lv_iconst (v := (0 : Int32)) hx hb dY_isRegister_14 (by decide) ?_
    exact W.zret (v := (0 : Int32)) hx hb hr rfl (fun t ht hW => ⟨⟨_, (), rfl, hF.symm, trivial⟩, hS.F ht⟩) hS.2.2 dY_isRegister_15
  · replace hF := xj_f hF c1
    refine lv_iload_n hx hb dY_isRegister_4 rfl (lv_at hl 0 rfl) ?_
    refine lv_bipush (v := (7 : Int32)) hx hb dY_isRegister_5 (by decide) ?_
    refine lv_icmp_gt (tgt := 14) hx hb dY_isRegister_7 (by decide) (fun c2 => ?_) (fun c2 => ?_)
    · replace hF := xj_t hF c2
      refine lv_iconst (v := (0 : Int32)) hx hb dY_isRegister_14 (by decide) ?_
      exact W.zret (v := (0 : Int32)) hx hb hr rfl (fun t ht hW => ⟨⟨_, (), rfl, hF.symm, trivial⟩, hS.F ht⟩) hS.2.2 dY_isRegister_15
    · replace hF := xj_f hF c2
      refine lv_iconst (v := (1 : Int32)) hx hb dY_isRegister_10 (by decide) ?_
      refine lv_goto (tgt := 15) hx hb dY_isRegister_11 (by decide) ?_
      exact W.zret (v := (1 : Int32)) hx hb hr rfl (fun t ht hW => ⟨⟨_, (), rfl, hF.symm, trivial⟩, hS.F ht⟩) hS.2.2 dY_isRegister_15
theorem ms_reg {r : Int32} (h : ¬ mf_Y_isRegister r = 0) : vp_in r 8 := by
  unfold mf_Y_isRegister at h
  rw [vp_in_iff]
  have e7 : (7 : Int32).toInt = 7 := by decide
  have e0 : (0 : Int32).toInt = 0 := by decide
  by_cases h1 : r < 0
  · rw [if_pos h1] at h; exact absurd rfl h
  · rw [if_neg h1] at h
    by_cases h2 : (7 : Int32) < r
    · rw [if_pos h2] at h; exact absurd rfl h
    · rw [Int32.lt_iff_toInt_lt] at h1 h2
      omega
theorem ms_in7 {r : Int32} (h1 : ¬ r < 0) (h2 : r ≤ (7 : Int32)) : vp_in r 8 := by
  rw [vp_in_iff]
  have e7 : (7 : Int32).toInt = 7 := by decide
  have e0 : (0 : Int32).toInt = 0 := by decide
  rw [Int32.lt_iff_toInt_lt] at h1
  rw [Int32.le_iff_toInt_le] at h2
  omega

def mf_Y_many (p1 : Int32) : Int32 := (if p1 = (8 : Int32) then (56 : Int32) else (24 : Int32))
set_option maxHeartbeats 4000000 in
set_option maxRecDepth 100000 in
theorem mc_Y_many (l : Launch) (p1 : Int32) : xj_Pi l yY_many wsY_many ({ frames := 0, cells := 0, slots := 0, locals := 0 }) [.int p1] (mf_Y_many p1) := by
  intro sz
  refine Met.ofW (cc := cY_many) (maxL := 1) (ret := (some .int)) (by decide) rfl ?_
  intro p e s m args below meth c s₁ B hml hv
  obtain ⟨rfl, hsz⟩ := hv
  have hx := B.exec
  have hb := B.bytes
  have hr := B.returns
  have hts := atoms_spec (ws := wsY_many) B.pre
  have hown : s.vm.findClass RX1 = some m.cls := findClass_of_methodNamed B.named
  have hlocks := B.notSynchronized
  subst hsz
  generalize hAe : va_A [] s.heap.size = A
  have hA : ∀ q : Nat, s.heap.size ≤ q → A q := fun q h => by rw [← hAe]; exact Or.inr h
  have hS : va_S A s.heap s.heap [] := va_S.rf
  generalize hT : mf_Y_many p1 = T
  have hF := hT.symm
  unfold mf_Y_many at hF
  have hl := lv_entry ([.int p1]) (n := 1) (Nat.le_of_ble_eq_true rfl)
  rw [lg_entry_eq]
  generalize (lg_sl ([.int p1]) ++ List.replicate (1 - (lg_sl ([.int p1])).length) Slot.unset).toArray = ls at hl ⊢
  have hl : lv_has ls 1 [(0, .int p1)] := hl
  refine lv_iload_n hx hb dY_many_0 rfl (lv_at hl 0 rfl) ?_
  refine lv_bipush (v := (8 : Int32)) hx hb dY_many_1 (by decide) ?_
  refine lv_icmp_ne (tgt := 11) hx hb dY_many_3 (by decide) (fun c1 => ?_) (fun c1 => ?_)
  · replace hF := xj_f hF c1
    refine lv_bipush (v := (24 : Int32)) hx hb dY_many_11 (by decide) ?_
    exact W.iret (v := (24 : Int32)) hx hb hr (fun t ht hW => ⟨⟨_, (), rfl, hF.symm, trivial⟩, hS.F ht⟩) hS.2.2 dY_many_13
  · replace hF := xj_t hF c1
    refine lv_bipush (v := (56 : Int32)) hx hb dY_many_6 (by decide) ?_
    refine lv_goto (tgt := 13) hx hb dY_many_8 (by decide) ?_
    exact W.iret (v := (56 : Int32)) hx hb hr (fun t ht hW => ⟨⟨_, (), rfl, hF.symm, trivial⟩, hS.F ht⟩) hS.2.2 dY_many_13
def mf_Y_in (g : Nat → Int64) (ak : Int32) (il : Int32) (mi : Int32) (xe : Int32) (bi : Int64) (fa : Int32) (cu : Int32) (p1 : Int32) (p2 : Int32) : Int64 := (if p1 = (8 : Int32) then (g (Int32.toNatClampNeg p2)) else ((g (Int32.toNatClampNeg p2)) &&& (4294967295 : Int64)))
set_option maxHeartbeats 4000000 in
set_option maxRecDepth 100000 in
theorem mc_Y_in (l : Launch) (dC : Nat → ClassId) (dI : Nat → Nat → Nat) (k0 k_g : Nat) (cB_g : ClassId) (g : Nat → Int64) (ak : Int32) (il : Int32) (mi : Int32) (xe : Int32) (bi : Int64) (fa : Int32) (cu : Int32) (p1 : Int32) (p2 : Int32) (hin2 : vp_in p2 8) : xj_Ol l (dC, dI) vwCl [(cB_g, .long)] (mw_Y k0 k_g cB_g) yY_in wsY_in ({ frames := 0, cells := 0, slots := 0, locals := 0 }) [.ref k0, .int p1, .int p2] (g, ak, il, mi, xe, bi, fa, cu) (mf_Y_in g ak il mi xe bi fa cu p1 p2, (g, ak, il, mi, xe, bi, fa, cu)) := by
  intro sz
  refine Met.ofW (cc := cY_in) (maxL := 3) (ret := (some .long)) (by decide) rfl ?_
  intro p e s m args below meth c s₁ B hml hv
  obtain ⟨rfl, hsz, hP, hK, hD0⟩ := hv
  have hx := B.exec
  have hb := B.bytes
  have hr := B.returns
  have hts := atoms_spec (ws := wsY_in) B.pre
  have hown : s.vm.findClass RX1 = some m.cls := findClass_of_methodNamed B.named
  have hlocks := B.notSynchronized
  subst hsz
  have hD := hD0.self (sz := s.heap.size)
  generalize hAe : va_A (mw_Y k0 k_g cB_g (g, ak, il, mi, xe, bi, fa, cu)) s.heap.size = A at hD ⊢
  have hA : ∀ q : Nat, s.heap.size ≤ q → A q := fun q h => by rw [← hAe]; exact Or.inr h
  have hS : va_S A s.heap s.heap [] := va_S.rf
  have hP : va_P (dC, dI) vwCl [(k0, .inr (1, [.ref k_g, .int ak, .int il, .int mi, .int xe, .long bi, .int fa, .int cu])), (k_g, .inl (cB_g, 8, .inr (.inl g)))] s.heap := hP
  have hD : va_D A [(k0, .inr (1, [.ref k_g, .int ak, .int il, .int mi, .int xe, .long bi, .int fa, .int cu])), (k_g, .inl (cB_g, 8, .inr (.inl g)))] := hD
  generalize hT : mf_Y_in g ak il mi xe bi fa cu p1 p2 = T
  have hF := hT.symm
  unfold mf_Y_in at hF
  have hl := lv_entry ([.ref k0, .int p1, .int p2]) (n := 3) (Nat.le_of_ble_eq_true rfl)
  rw [lg_entry_eq]
  generalize (lg_sl ([.ref k0, .int p1, .int p2]) ++ List.replicate (3 - (lg_sl ([.ref k0, .int p1, .int p2])).length) Slot.unset).toArray = ls at hl ⊢
  have hl : lv_has ls 3 [(0, .ref k0), (1, .int p1), (2, .int p2)] := hl
  refine lv_iload_n hx hb dY_in_0 rfl (lv_at hl 1 rfl) ?_
  refine lv_bipush (v := (8 : Int32)) hx hb dY_in_1 (by decide) ?_
  refine lv_icmp_ne (tgt := 15) hx hb dY_in_3 (by decide) (fun c1 => ?_) (fun c1 => ?_)
  · replace hF := xj_f hF c1
    refine lv_aload_n hx hb dY_in_15 rfl (lv_at hl 0 rfl) ?_
    refine va_get (D := (dC, dI)) (ci := 1) (v := .ref k_g) (C := RX1) (T := TX1) (N := 8) hx hb hts (fun w9 h9 => List.mem_cons_of_mem _ (inY w9 h9)) hown hK hP 0 rfl rfl 0 (by decide) (hts (.fieldLink RX1 7 "ExactFloatsModel" "register" "[J") (List.mem_cons_of_mem _ mY_29)) (fun _ h9 => h9) rfl dY_in_16 ?_
    refine lv_iload_n hx hb dY_in_19 rfl (lv_at hl 2 rfl) ?_
    refine va_lald hx hb hK hP 1 0 rfl rfl (hin2) dY_in_20 ?_
    refine lv_ldc2 (own := RX1) (v := (4294967295 : Int64)) hx hb hown (hts (.constantLong RX1 17 (4294967295 : Int64)) (List.mem_cons_of_mem _ mY_31)) dY_in_21 ?_
    refine lv_land hx hb dY_in_24 ?_
    exact W.lret (v := ((g (Int32.toNatClampNeg p2)) &&& (4294967295 : Int64))) hx hb hr (fun t ht hW => ⟨⟨_, (g, ak, il, mi, xe, bi, fa, cu), rfl, by rw [hF], by rw [ht]; exact hP, hD⟩, hS.F ht⟩) hS.2.2 dY_in_25
  · replace hF := xj_t hF c1
    refine lv_aload_n hx hb dY_in_6 rfl (lv_at hl 0 rfl) ?_
    refine va_get (D := (dC, dI)) (ci := 1) (v := .ref k_g) (C := RX1) (T := TX1) (N := 8) hx hb hts (fun w9 h9 => List.mem_cons_of_mem _ (inY w9 h9)) hown hK hP 0 rfl rfl 0 (by decide) (hts (.fieldLink RX1 7 "ExactFloatsModel" "register" "[J") (List.mem_cons_of_mem _ mY_29)) (fun _ h9 => h9) rfl dY_in_7 ?_
    refine lv_iload_n hx hb dY_in_10 rfl (lv_at hl 2 rfl) ?_
    refine va_lald hx hb hK hP 1 0 rfl rfl (hin2) dY_in_11 ?_
    refine lv_goto (tgt := 25) hx hb dY_in_12 (by decide) ?_
    exact W.lret (v := (g (Int32.toNatClampNeg p2))) hx hb hr (fun t ht hW => ⟨⟨_, (g, ak, il, mi, xe, bi, fa, cu), rfl, by rw [hF], by rw [ht]; exact hP, hD⟩, hS.F ht⟩) hS.2.2 dY_in_25
def mf_Y_isReserved (p1 : Int64) : Int32 := (if (p1 &&& (65408 : Int64)) = (32768 : Int64) then (1 : Int32) else (0 : Int32))
set_option maxHeartbeats 4000000 in
set_option maxRecDepth 100000 in
theorem mc_Y_isReserved (l : Launch) (p1 : Int64) : xj_Pi l yY_isReserved wsY_isReserved ({ frames := 0, cells := 0, slots := 0, locals := 0 }) [.long p1] (mf_Y_isReserved p1) := by
  intro sz
  refine Met.ofW (cc := cY_isReserved) (maxL := 2) (ret := (some .boolean)) (by decide) rfl ?_
  intro p e s m args below meth c s₁ B hml hv
  obtain ⟨rfl, hsz⟩ := hv
  have hx := B.exec
  have hb := B.bytes
  have hr := B.returns
  have hts := atoms_spec (ws := wsY_isReserved) B.pre
  have hown : s.vm.findClass RX1 = some m.cls := findClass_of_methodNamed B.named
  have hlocks := B.notSynchronized
  subst hsz
  generalize hAe : va_A [] s.heap.size = A
  have hA : ∀ q : Nat, s.heap.size ≤ q → A q := fun q h => by rw [← hAe]; exact Or.inr h
  have hS : va_S A s.heap s.heap [] := va_S.rf
  generalize hT : mf_Y_isReserved p1 = T
  have hF := hT.symm
  unfold mf_Y_isReserved at hF
  have hl := lv_entry ([.long p1]) (n := 2) (Nat.le_of_ble_eq_true rfl)
  rw [lg_entry_eq]
  generalize (lg_sl ([.long p1]) ++ List.replicate (2 - (lg_sl ([.long p1])).length) Slot.unset).toArray = ls at hl ⊢
  have hl : lv_has ls 2 [(0, .long p1)] := hl
  refine lv_lload_n hx hb dY_isReserved_0 rfl (lv_at hl 0 rfl) ?_
  refine lv_ldc2 (own := RX1) (v := (65408 : Int64)) hx hb hown (hts (.constantLong RX1 19 (65408 : Int64)) (List.mem_cons_of_mem _ mY_32)) dY_isReserved_1 ?_
  refine lv_land hx hb dY_isReserved_4 ?_
  refine lv_ldc2 (own := RX1) (v := (32768 : Int64)) hx hb hown (hts (.constantLong RX1 21 (32768 : Int64)) (List.mem_cons_of_mem _ mY_33)) dY_isReserved_5 ?_
  refine xj_l_ne (tgt := 16) hx hb dY_isReserved_8 dY_isReserved_9 (by decide) (fun c1 => ?_) (fun c1 => ?_)
  · replace hF := xj_f hF c1
    refine lv_iconst (v := (0 : Int32)) hx hb dY_isReserved_16 (by decide) ?_
    exact W.zret (v := (0 : Int32)) hx hb hr rfl (fun t ht hW => ⟨⟨_, (), rfl, hF.symm, trivial⟩, hS.F ht⟩) hS.2.2 dY_isReserved_17
  · replace hF := xj_t hF c1
    refine lv_iconst (v := (1 : Int32)) hx hb dY_isReserved_12 (by decide) ?_
    refine lv_goto (tgt := 17) hx hb dY_isReserved_13 (by decide) ?_
    exact W.zret (v := (1 : Int32)) hx hb hr rfl (fun t ht hW => ⟨⟨_, (), rfl, hF.symm, trivial⟩, hS.F ht⟩) hS.2.2 dY_isReserved_17
def mf_Y_isZero (p1 : Int64) : Int32 := (if (p1 &&& (32640 : Int64)) = (0 : Int64) then (1 : Int32) else (0 : Int32))
set_option maxHeartbeats 4000000 in
set_option maxRecDepth 100000 in
theorem mc_Y_isZero (l : Launch) (p1 : Int64) : xj_Pi l yY_isZero wsY_isZero ({ frames := 0, cells := 0, slots := 0, locals := 0 }) [.long p1] (mf_Y_isZero p1) := by
  intro sz
  refine Met.ofW (cc := cY_isZero) (maxL := 2) (ret := (some .boolean)) (by decide) rfl ?_
  intro p e s m args below meth c s₁ B hml hv
  obtain ⟨rfl, hsz⟩ := hv
  have hx := B.exec
  have hb := B.bytes
  have hr := B.returns
  have hts := atoms_spec (ws := wsY_isZero) B.pre
  have hown : s.vm.findClass RX1 = some m.cls := findClass_of_methodNamed B.named
  have hlocks := B.notSynchronized
  subst hsz
  generalize hAe : va_A [] s.heap.size = A
  have hA : ∀ q : Nat, s.heap.size ≤ q → A q := fun q h => by rw [← hAe]; exact Or.inr h
  have hS : va_S A s.heap s.heap [] := va_S.rf
  generalize hT : mf_Y_isZero p1 = T
  have hF := hT.symm
  unfold mf_Y_isZero at hF
  have hl := lv_entry ([.long p1]) (n := 2) (Nat.le_of_ble_eq_true rfl)
  rw [lg_entry_eq]
  generalize (lg_sl ([.long p1]) ++ List.replicate (2 - (lg_sl ([.long p1])).length) Slot.unset).toArray = ls at hl ⊢
  have hl : lv_has ls 2 [(0, .long p1)] := hl
  refine lv_lload_n hx hb dY_isZero_0 rfl (lv_at hl 0 rfl) ?_
  refine lv_ldc2 (own := RX1) (v := (32640 : Int64)) hx hb hown (hts (.constantLong RX1 23 (32640 : Int64)) (List.mem_cons_of_mem _ mY_34)) dY_isZero_1 ?_
  refine lv_land hx hb dY_isZero_4 ?_
  refine lv_lconst (v := (0 : Int64)) hx hb dY_isZero_5 (by decide) ?_
  refine xj_l_ne (tgt := 14) hx hb dY_isZero_6 dY_isZero_7 (by decide) (fun c1 => ?_) (fun c1 => ?_)
  · replace hF := xj_f hF c1
    refine lv_iconst (v := (0 : Int32)) hx hb dY_isZero_14 (by decide) ?_
    exact W.zret (v := (0 : Int32)) hx hb hr rfl (fun t ht hW => ⟨⟨_, (), rfl, hF.symm, trivial⟩, hS.F ht⟩) hS.2.2 dY_isZero_15
  · replace hF := xj_t hF c1
    refine lv_iconst (v := (1 : Int32)) hx hb dY_isZero_10 (by decide) ?_
    refine lv_goto (tgt := 15) hx hb dY_isZero_11 (by decide) ?_
    exact W.zret (v := (1 : Int32)) hx hb hr rfl (fun t ht hW => ⟨⟨_, (), rfl, hF.symm, trivial⟩, hS.F ht⟩) hS.2.2 dY_isZero_15
def mf_Y_isBelow (p1 : Int64) : Int32 := (if (p1 &&& (32768 : Int64)) = (0 : Int64) then (0 : Int32) else (1 : Int32))
set_option maxHeartbeats 4000000 in
set_option maxRecDepth 100000 in
theorem mc_Y_isBelow (l : Launch) (p1 : Int64) : xj_Pi l yY_isBelow wsY_isBelow ({ frames := 0, cells := 0, slots := 0, locals := 0 }) [.long p1] (mf_Y_isBelow p1) := by
  intro sz
  refine Met.ofW (cc := cY_isBelow) (maxL := 2) (ret := (some .boolean)) (by decide) rfl ?_
  intro p e s m args below meth c s₁ B hml hv
  obtain ⟨rfl, hsz⟩ := hv
  have hx := B.exec
  have hb := B.bytes
  have hr := B.returns
  have hts := atoms_spec (ws := wsY_isBelow) B.pre
  have hown : s.vm.findClass RX1 = some m.cls := findClass_of_methodNamed B.named
  have hlocks := B.notSynchronized
  subst hsz
  generalize hAe : va_A [] s.heap.size = A
  have hA : ∀ q : Nat, s.heap.size ≤ q → A q := fun q h => by rw [← hAe]; exact Or.inr h
  have hS : va_S A s.heap s.heap [] := va_S.rf
  generalize hT : mf_Y_isBelow p1 = T
  have hF := hT.symm
  unfold mf_Y_isBelow at hF
  have hl := lv_entry ([.long p1]) (n := 2) (Nat.le_of_ble_eq_true rfl)
  rw [lg_entry_eq]
  generalize (lg_sl ([.long p1]) ++ List.replicate (2 - (lg_sl ([.long p1])).length) Slot.unset).toArray = ls at hl ⊢
  have hl : lv_has ls 2 [(0, .long p1)] := hl
  refine lv_lload_n hx hb dY_isBelow_0 rfl (lv_at hl 0 rfl) ?_
  refine lv_ldc2 (own := RX1) (v := (32768 : Int64)) hx hb hown (hts (.constantLong RX1 21 (32768 : Int64)) (List.mem_cons_of_mem _ mY_33)) dY_isBelow_1 ?_
  refine lv_land hx hb dY_isBelow_4 ?_
  refine lv_lconst (v := (0 : Int64)) hx hb dY_isBelow_5 (by decide) ?_
  refine xj_l_eq (tgt := 14) hx hb dY_isBelow_6 dY_isBelow_7 (by decide) (fun c1 => ?_) (fun c1 => ?_)
  · replace hF := xj_t hF c1
    refine lv_iconst (v := (0 : Int32)) hx hb dY_isBelow_14 (by decide) ?_
    exact W.zret (v := (0 : Int32)) hx hb hr rfl (fun t ht hW => ⟨⟨_, (), rfl, hF.symm, trivial⟩, hS.F ht⟩) hS.2.2 dY_isBelow_15
  · replace hF := xj_f hF c1
    refine lv_iconst (v := (1 : Int32)) hx hb dY_isBelow_10 (by decide) ?_
    refine lv_goto (tgt := 15) hx hb dY_isBelow_11 (by decide) ?_
    exact W.zret (v := (1 : Int32)) hx hb hr rfl (fun t ht hW => ⟨⟨_, (), rfl, hF.symm, trivial⟩, hS.F ht⟩) hS.2.2 dY_isBelow_15
theorem ms_b_isSize (x : Int32) : mf_Y_isSize x = 0 ∨ mf_Y_isSize x = 1 := by
  unfold mf_Y_isSize; (repeat' split) <;> simp
theorem ms_b_isRegister (x : Int32) : mf_Y_isRegister x = 0 ∨ mf_Y_isRegister x = 1 := by
  unfold mf_Y_isRegister; (repeat' split) <;> simp
theorem ms_b_isReserved (x : Int64) : mf_Y_isReserved x = 0 ∨ mf_Y_isReserved x = 1 := by
  unfold mf_Y_isReserved; (repeat' split) <;> simp
theorem ms_b_isZero (x : Int64) : mf_Y_isZero x = 0 ∨ mf_Y_isZero x = 1 := by
  unfold mf_Y_isZero; (repeat' split) <;> simp
theorem ms_b_isBelow (x : Int64) : mf_Y_isBelow x = 0 ∨ mf_Y_isBelow x = 1 := by
  unfold mf_Y_isBelow; (repeat' split) <;> simp

def mf_Y_take (g : Nat → Int64) (ak : Int32) (il : Int32) (mi : Int32) (xe : Int32) (bi : Int64) (fa : Int32) (cu : Int32) (p1 : Int32) (p2 : Int64) : (Nat → Int64) × Int32 × Int32 × Int32 × Int32 × Int64 × Int32 × Int32 := (xj_bnd (mf_Y_isBelow p2) (fun y1 => (xj_bnd (Int64.toInt32 ((xj_shr p2 (7 : Int32)) &&& (255 : Int64))) (fun y2 => (xj_bnd ((xj_shl (p2 &&& (127 : Int64)) (48 : Int32)) ||| (xj_shl ((xj_shr p2 (16 : Int32)) &&& (65535 : Int64)) (32 : Int32))) (fun y3 => (xj_bnd (if p1 = (8 : Int32) then (xj_bnd ((y3 ||| (xj_shl ((xj_shr p2 (32 : Int32)) &&& (65535 : Int64)) (16 : Int32))) ||| ((xj_shr p2 (48 : Int32)) &&& (65535 : Int64))) (fun y5 => y5)) else y3) (fun y5 => (xj_bnd (if y2 = 0 then (0 : Int64) else ((36028797018963968 : Int64) ||| y5)) (fun y7 => (g, ak, il, y1, y2, y7, fa, cu)))))))))))
set_option maxHeartbeats 4000000 in
set_option maxRecDepth 100000 in
theorem mc_Y_take (l : Launch) (dC : Nat → ClassId) (dI : Nat → Nat → Nat) (k0 k_g : Nat) (cB_g : ClassId) (g : Nat → Int64) (ak : Int32) (il : Int32) (mi : Int32) (xe : Int32) (bi : Int64) (fa : Int32) (cu : Int32) (p1 : Int32) (p2 : Int64) : xj_Ov l (dC, dI) vwCl [(cB_g, .long)] (mw_Y k0 k_g cB_g) yY_take wsY_take ({ frames := 1, cells := 0, slots := 0, locals := 21 }) [.ref k0, .int p1, .long p2] (g, ak, il, mi, xe, bi, fa, cu) (mf_Y_take g ak il mi xe bi fa cu p1 p2) := by
  intro sz
  refine Met.ofW (cc := cY_take) (maxL := 6) (ret := none) (by decide) rfl ?_
  intro p e s m args below meth c s₁ B hml hv
  obtain ⟨rfl, hsz, hP, hK, hD0⟩ := hv
  have hx := B.exec
  have hb := B.bytes
  have hr := B.returns
  have hts := atoms_spec (ws := wsY_take) B.pre
  have hown : s.vm.findClass RX1 = some m.cls := findClass_of_methodNamed B.named
  have hlocks := B.notSynchronized
  subst hsz
  have hD := hD0.self (sz := s.heap.size)
  generalize hAe : va_A (mw_Y k0 k_g cB_g (g, ak, il, mi, xe, bi, fa, cu)) s.heap.size = A at hD ⊢
  have hA : ∀ q : Nat, s.heap.size ≤ q → A q := fun q h => by rw [← hAe]; exact Or.inr h
  have hS : va_S A s.heap s.heap [] := va_S.rf
  have hP : va_P (dC, dI) vwCl [(k0, .inr (1, [.ref k_g, .int ak, .int il, .int mi, .int xe, .long bi, .int fa, .int cu])), (k_g, .inl (cB_g, 8, .inr (.inl g)))] s.heap := hP
  have hD : va_D A [(k0, .inr (1, [.ref k_g, .int ak, .int il, .int mi, .int xe, .long bi, .int fa, .int cu])), (k_g, .inl (cB_g, 8, .inr (.inl g)))] := hD
  generalize hT : mf_Y_take g ak il mi xe bi fa cu p1 p2 = T
  have hF := hT.symm
  unfold mf_Y_take at hF
  have hl := lv_entry ([.ref k0, .int p1, .long p2]) (n := 6) (Nat.le_of_ble_eq_true rfl)
  rw [lg_entry_eq]
  generalize (lg_sl ([.ref k0, .int p1, .long p2]) ++ List.replicate (6 - (lg_sl ([.ref k0, .int p1, .long p2])).length) Slot.unset).toArray = ls at hl ⊢
  have hl : lv_has ls 6 [(0, .ref k0), (1, .int p1), (2, .long p2)] := hl
  refine lv_aload_n hx hb dY_take_0 rfl (lv_at hl 0 rfl) ?_
  refine lv_lload_n hx hb dY_take_1 rfl (lv_at hl 2 rfl) ?_
  refine xj_si (As := [.long p2]) (rest := [.ref k0]) ⟨hx, hb, hml, hown, hts⟩ (mc_Y_isBelow l p2) (va_cwS 1 hts (gY_isBelow _) rfl rfl rfl (by decide +kernel) ⟨Nat.le_of_ble_eq_true rfl, Nat.le_of_ble_eq_true rfl⟩) hS hA rfl hl.1 rfl (Nat.le_of_ble_eq_true rfl) dY_take_2 ⟨Nat.zero_le _, Nat.zero_le _⟩ (fun H9 locs9 hk9 hS => ?_)
  have hP := xj_kept hP hk9
  refine lv_topi (fun y1 ey1 => ?_)
  replace hF := xj_bz hF ey1
  refine va_put (D := (dC, dI)) (ci := 1) (v := .int y1) (ty := .boolean) (C := RX1) (T := TX1) (N := 8) hx hb hts (fun w9 h9 => List.mem_cons_of_mem _ (inY w9 h9)) tyX1 tyX1_ok nmX1 hown hK hP hD hS 0 rfl rfl 3 (by decide) (hts (.fieldLink RX1 29 "ExactFloatsModel" "minus" "Z") (List.mem_cons_of_mem _ mY_37)) (fun _ h9 => h9) rfl (by decide +kernel) (xj_nb (by rw [ey1]; exact ms_b_isBelow _)) (xj_fb (by rw [ey1]; exact ms_b_isBelow _)) (Nat.le_of_ble_eq_true rfl) dY_take_5 (fun H9 locs9 hP hD hS => ?_)
  have hP : va_P (dC, dI) vwCl [(k0, .inr (1, [.ref k_g, .int ak, .int il, .int y1, .int xe, .long bi, .int fa, .int cu])), (k_g, .inl (cB_g, 8, .inr (.inl g)))] _ := hP
  have hD : va_D A [(k0, .inr (1, [.ref k_g, .int ak, .int il, .int y1, .int xe, .long bi, .int fa, .int cu])), (k_g, .inl (cB_g, 8, .inr (.inl g)))] := hD
  refine lv_aload_n hx hb dY_take_8 rfl (lv_at hl 0 rfl) ?_
  refine lv_lload_n hx hb dY_take_9 rfl (lv_at hl 2 rfl) ?_
  refine lv_bipush (v := (7 : Int32)) hx hb dY_take_10 (by decide) ?_
  refine lv_lshr (v := (xj_shr p2 (7 : Int32))) hx hb dY_take_12 rfl ?_
  refine lv_ldc2 (own := RX1) (v := (255 : Int64)) hx hb hown (hts (.constantLong RX1 32 (255 : Int64)) (List.mem_cons_of_mem _ mY_38)) dY_take_13 ?_
  refine lv_land hx hb dY_take_16 ?_
  refine lv_l2i (v := (Int64.toInt32 ((xj_shr p2 (7 : Int32)) &&& (255 : Int64)))) hx hb dY_take_17 rfl ?_
  refine lv_topi (fun y2 ey2 => ?_)
  replace hF := xj_bz hF ey2
  refine va_put (D := (dC, dI)) (ci := 1) (v := .int y2) (ty := .int) (C := RX1) (T := TX1) (N := 8) hx hb hts (fun w9 h9 => List.mem_cons_of_mem _ (inY w9 h9)) tyX1 tyX1_ok nmX1 hown hK hP hD hS 0 rfl rfl 4 (by decide) (hts (.fieldLink RX1 34 "ExactFloatsModel" "exponent" "I") (List.mem_cons_of_mem _ mY_39)) (fun _ h9 => h9) rfl (by decide +kernel) rfl rfl (Nat.le_of_ble_eq_true rfl) dY_take_18 (fun H9 locs9 hP hD hS => ?_)
  have hP : va_P (dC, dI) vwCl [(k0, .inr (1, [.ref k_g, .int ak, .int il, .int y1, .int y2, .long bi, .int fa, .int cu])), (k_g, .inl (cB_g, 8, .inr (.inl g)))] _ := hP
  have hD : va_D A [(k0, .inr (1, [.ref k_g, .int ak, .int il, .int y1, .int y2, .long bi, .int fa, .int cu])), (k_g, .inl (cB_g, 8, .inr (.inl g)))] := hD
  refine lv_lload_n hx hb dY_take_21 rfl (lv_at hl 2 rfl) ?_
  refine lv_ldc2 (own := RX1) (v := (127 : Int64)) hx hb hown (hts (.constantLong RX1 38 (127 : Int64)) (List.mem_cons_of_mem _ mY_40)) dY_take_22 ?_
  refine lv_land hx hb dY_take_25 ?_
  refine lv_bipush (v := (48 : Int32)) hx hb dY_take_26 (by decide) ?_
  refine lv_lshl (v := (xj_shl (p2 &&& (127 : Int64)) (48 : Int32))) hx hb dY_take_28 rfl ?_
  refine lv_lload_n hx hb dY_take_29 rfl (lv_at hl 2 rfl) ?_
  refine lv_bipush (v := (16 : Int32)) hx hb dY_take_30 (by decide) ?_
  refine lv_lshr (v := (xj_shr p2 (16 : Int32))) hx hb dY_take_32 rfl ?_
  refine lv_ldc2 (own := RX1) (v := (65535 : Int64)) hx hb hown (hts (.constantLong RX1 40 (65535 : Int64)) (List.mem_cons_of_mem _ mY_41)) dY_take_33 ?_
  refine lv_land hx hb dY_take_36 ?_
  refine lv_bipush (v := (32 : Int32)) hx hb dY_take_37 (by decide) ?_
  refine lv_lshl (v := (xj_shl ((xj_shr p2 (16 : Int32)) &&& (65535 : Int64)) (32 : Int32))) hx hb dY_take_39 rfl ?_
  refine lv_lor hx hb dY_take_40 ?_
  refine lv_topl (fun y3 ey3 => ?_)
  replace hF := xj_bz hF ey3
  refine lv_lstore (lv' := [(4, .long y3), (0, .ref k0), (1, .int p1), (2, .long p2)]) hx hb dY_take_41 hl (by decide) rfl (fun ls hl => ?_)
  refine lv_iload_n hx hb dY_take_43 rfl (lv_at hl 2 rfl) ?_
  refine lv_bipush (v := (8 : Int32)) hx hb dY_take_44 (by decide) ?_
  obtain ⟨y5, ey5⟩ : ∃ z : Int64, z = (if p1 = (8 : Int32) then (xj_bnd ((y3 ||| (xj_shl ((xj_shr p2 (32 : Int32)) &&& (65535 : Int64)) (16 : Int32))) ||| ((xj_shr p2 (48 : Int32)) &&& (65535 : Int64))) (fun y5 => y5)) else y3) := ⟨_, rfl⟩
  replace hF := xj_bz hF ey5
  refine xj_join 74 (fun ls' st' => lv_has ls' 6 [(4, .long y5), (0, .ref k0), (1, .int p1), (2, .long p2)] ∧ st' = []) ?_ (fun K74 => ?_)
  · rintro ls st ⟨hl, rfl⟩
    refine lv_aload_n hx hb dY_take_74 rfl (lv_at hl 1 rfl) ?_
    refine lv_aload_n hx hb dY_take_75 rfl (lv_at hl 1 rfl) ?_
    refine va_get (D := (dC, dI)) (ci := 1) (v := .int y2) (C := RX1) (T := TX1) (N := 8) hx hb hts (fun w9 h9 => List.mem_cons_of_mem _ (inY w9 h9)) hown hK hP 0 rfl rfl 4 (by decide) (hts (.fieldLink RX1 34 "ExactFloatsModel" "exponent" "I") (List.mem_cons_of_mem _ mY_39)) (fun _ h9 => h9) rfl dY_take_76 ?_
    obtain ⟨y7, ey7⟩ : ∃ z : Int64, z = (if y2 = 0 then (0 : Int64) else ((36028797018963968 : Int64) ||| y5)) := ⟨_, rfl⟩
    replace hF := xj_bz hF ey7
    refine xj_join 92 (fun ls' st' => lv_has ls' 6 [(4, .long y5), (0, .ref k0), (1, .int p1), (2, .long p2)] ∧ st' = [.long y7, .ref k0]) ?_ (fun K92 => ?_)
    · rintro ls st ⟨hl, rfl⟩
      refine va_put (D := (dC, dI)) (ci := 1) (v := .long y7) (ty := .long) (C := RX1) (T := TX1) (N := 8) hx hb hts (fun w9 h9 => List.mem_cons_of_mem _ (inY w9 h9)) tyX1 tyX1_ok nmX1 hown hK hP hD hS 0 rfl rfl 5 (by decide) (hts (.fieldLink RX1 44 "ExactFloatsModel" "bits" "J") (List.mem_cons_of_mem _ mY_43)) (fun _ h9 => h9) rfl (by decide +kernel) rfl rfl (Nat.le_of_ble_eq_true rfl) dY_take_92 (fun H9 locs9 hP hD hS => ?_)
      have hP : va_P (dC, dI) vwCl [(k0, .inr (1, [.ref k_g, .int ak, .int il, .int y1, .int y2, .long y7, .int fa, .int cu])), (k_g, .inl (cB_g, 8, .inr (.inl g)))] _ := hP
      have hD : va_D A [(k0, .inr (1, [.ref k_g, .int ak, .int il, .int y1, .int y2, .long y7, .int fa, .int cu])), (k_g, .inl (cB_g, 8, .inr (.inl g)))] := hD
      exact W.vret hx hb hr (fun t ht hW => ⟨⟨(g, ak, il, y1, y2, y7, fa, cu), rfl, hF.symm, by rw [ht]; exact hP, hD⟩, hS.F ht⟩) hS.2.2 dY_take_95
    · refine lv_if_ne (tgt := 86) hx hb dY_take_79 (by decide) (fun c6 => ?_) (fun c6 => ?_)
      · replace ey7 := xj_f ey7 c6
        refine lv_ldc2 (own := RX1) (v := (36028797018963968 : Int64)) hx hb hown (hts (.constantLong RX1 42 (36028797018963968 : Int64)) (List.mem_cons_of_mem _ mY_42)) dY_take_86 ?_
        refine lv_lload hx hb dY_take_89 (lv_at hl 0 rfl) ?_
        refine lv_lor hx hb dY_take_91 ?_
        subst ey7
        exact K92 _ _ ⟨lv_sub hl [0, 1, 2, 3] rfl, rfl⟩
      · replace ey7 := xj_t ey7 c6
        refine lv_lconst (v := (0 : Int64)) hx hb dY_take_82 (by decide) ?_
        refine lv_goto (tgt := 92) hx hb dY_take_83 (by decide) ?_
        subst ey7
        exact K92 _ _ ⟨lv_sub hl [0, 1, 2, 3] rfl, rfl⟩
  · refine lv_icmp_ne (tgt := 74) hx hb dY_take_46 (by decide) (fun c4 => ?_) (fun c4 => ?_)
    · replace ey5 := xj_f ey5 c4
      subst ey5
      exact K74 _ _ ⟨lv_sub hl [0, 1, 2, 3] rfl, rfl⟩
    · replace ey5 := xj_t ey5 c4
      refine lv_lload hx hb dY_take_49 (lv_at hl 0 rfl) ?_
      refine lv_lload_n hx hb dY_take_51 rfl (lv_at hl 3 rfl) ?_
      refine lv_bipush (v := (32 : Int32)) hx hb dY_take_52 (by decide) ?_
      refine lv_lshr (v := (xj_shr p2 (32 : Int32))) hx hb dY_take_54 rfl ?_
      refine lv_ldc2 (own := RX1) (v := (65535 : Int64)) hx hb hown (hts (.constantLong RX1 40 (65535 : Int64)) (List.mem_cons_of_mem _ mY_41)) dY_take_55 ?_
      refine lv_land hx hb dY_take_58 ?_
      refine lv_bipush (v := (16 : Int32)) hx hb dY_take_59 (by decide) ?_
      refine lv_lshl (v := (xj_shl ((xj_shr p2 (32 : Int32)) &&& (65535 : Int64)) (16 : Int32))) hx hb dY_take_61 rfl ?_
      refine lv_lor hx hb dY_take_62 ?_
      refine lv_lload_n hx hb dY_take_63 rfl (lv_at hl 3 rfl) ?_
      refine lv_bipush (v := (48 : Int32)) hx hb dY_take_64 (by decide) ?_
      refine lv_lshr (v := (xj_shr p2 (48 : Int32))) hx hb dY_take_66 rfl ?_
      refine lv_ldc2 (own := RX1) (v := (65535 : Int64)) hx hb hown (hts (.constantLong RX1 40 (65535 : Int64)) (List.mem_cons_of_mem _ mY_41)) dY_take_67 ?_
      refine lv_land hx hb dY_take_70 ?_
      refine lv_lor hx hb dY_take_71 ?_
      refine lv_topl (fun y8 ey8 => ?_)
      replace ey5 := xj_bz ey5 ey8
      refine lv_lstore (lv' := [(4, .long y8), (0, .ref k0), (1, .int p1), (2, .long p2)]) hx hb dY_take_72 hl (by decide) rfl (fun ls hl => ?_)
      subst ey5
      exact K74 _ _ ⟨lv_sub hl [0, 1, 2, 3] rfl, rfl⟩

set_option maxHeartbeats 4000000 in
set_option maxRecDepth 100000 in
theorem mc_Y_init (l : Launch) (dC : Nat → ClassId) (dI : Nat → Nat → Nat) (k0 sz : Nat) : Met l yY_init wsY_init ({ frames := 1, cells := 1, slots := 8, locals := 12 }) (va_Pc [.ref k0] (fun U => U.heap.size = sz ∧ va_P (dC, dI) vwCl [(k0, .inr (1, [.null, .int (0 : Int32), .int (0 : Int32), .int (0 : Int32), .int (0 : Int32), .long (0 : Int64), .int (0 : Int32), .int (0 : Int32)]))] U.heap ∧ va_K (dC, dI) vwCl [] U ∧ va_D (fun _ => True) [(k0, .inr (1, [.null, .int (0 : Int32), .int (0 : Int32), .int (0 : Int32), .int (0 : Int32), .long (0 : Int64), .int (0 : Int32), .int (0 : Int32)]))])) (va_Qv (fun (_ : Nat × ClassId) => True) (fun u t => va_P (dC, dI) vwCl (mw_Y k0 u.1 u.2 (fun _ => 0, 0, 0, 0, 0, 0, 0, 0)) t.heap ∧ va_K (dC, dI) vwCl [(u.2, .long)] t ∧ va_D (va_A [(k0, .inr (1, [.null, .int (0 : Int32), .int (0 : Int32), .int (0 : Int32), .int (0 : Int32), .long (0 : Int64), .int (0 : Int32), .int (0 : Int32)]))] sz) (mw_Y k0 u.1 u.2 (fun _ => 0, 0, 0, 0, 0, 0, 0, 0))) (va_A [(k0, .inr (1, [.null, .int (0 : Int32), .int (0 : Int32), .int (0 : Int32), .int (0 : Int32), .long (0 : Int64), .int (0 : Int32), .int (0 : Int32)]))] sz)) 1 8 (va_A [(k0, .inr (1, [.null, .int (0 : Int32), .int (0 : Int32), .int (0 : Int32), .int (0 : Int32), .long (0 : Int64), .int (0 : Int32), .int (0 : Int32)]))] sz) := by
  refine Met.ofW (cc := cY_init) (maxL := 1) (ret := none) (by decide) rfl ?_
  intro p e s m args below meth c s₁ B hml hv
  obtain ⟨rfl, hsz, hP, hK, hD0⟩ := hv
  have hx := B.exec
  have hb := B.bytes
  have hr := B.returns
  have hts := atoms_spec (ws := wsY_init) B.pre
  have hown : s.vm.findClass RX1 = some m.cls := findClass_of_methodNamed B.named
  have hin : meth.name = "<init>" := (name_of_methodNamed B.named B.method).1
  subst hsz
  have hD := hD0.self (sz := s.heap.size)
  generalize hAe : va_A [(k0, .inr (1, [.null, .int (0 : Int32), .int (0 : Int32), .int (0 : Int32), .int (0 : Int32), .long (0 : Int64), .int (0 : Int32), .int (0 : Int32)]))] s.heap.size = A at hD ⊢
  have hA : ∀ q : Nat, s.heap.size ≤ q → A q := fun q h => by rw [← hAe]; exact Or.inr h
  have hS : va_S A s.heap s.heap [] := va_S.rf
  have hP : va_P (dC, dI) vwCl [(k0, .inr (1, [.null, .int (0 : Int32), .int (0 : Int32), .int (0 : Int32), .int (0 : Int32), .long (0 : Int64), .int (0 : Int32), .int (0 : Int32)]))] s.heap := hP
  have hl := lv_entry ([.ref k0]) (n := 1) (Nat.le_of_ble_eq_true rfl)
  rw [lg_entry_eq]
  generalize (lg_sl ([.ref k0]) ++ List.replicate (1 - (lg_sl ([.ref k0])).length) Slot.unset).toArray = ls at hl ⊢
  have hl : lv_has ls 1 [(0, .ref k0)] := hl
  refine lv_aload_n hx hb dY_init_0 rfl (lv_at hl 0 rfl) ?_
  refine W.objInit hx hb hown (hts (.methodLink RX1 1 objectInit) (by decide +kernel)) (hts (.instanceMethod objectInit) (by decide +kernel)) (hts (.code objectInit ⟨#[0xb1]⟩ 1 none) (by decide +kernel)) rfl (by rw [hml]; exact hl.1) rfl dY_init_1 (Nat.le_of_ble_eq_true rfl) (Nat.le_of_ble_eq_true rfl) ?_
  refine W.eq (g2 := F0 m 4 ls []) rfl ?_
  refine lv_aload_n hx hb dY_init_4 rfl (lv_at hl 0 rfl) ?_
  refine lv_bipush (v := (8 : Int32)) hx hb dY_init_5 (by decide) ?_
  refine va_newa (atype := .long) (ty := .long) (N' := 8) (a0 := (8, .inr (.inl (fun _ => 0)))) hx hb (hts (.arrayClass .long) (by decide +kernel)) rfl hK hP hD hS hA (fun _ => rfl) (by decide +kernel) (by decide +kernel) (by decide +kernel) (Nat.le_of_ble_eq_true rfl) (Nat.le_of_ble_eq_true rfl) dY_init_7 (fun q1 cA1 H9 hK hP hD hS => ?_)
  have hK : va_K (dC, dI) vwCl [(cA1, .long)] s := hK
  have hP : va_P (dC, dI) vwCl [(k0, .inr (1, [.null, .int (0 : Int32), .int (0 : Int32), .int (0 : Int32), .int (0 : Int32), .long (0 : Int64), .int (0 : Int32), .int (0 : Int32)])), (q1, .inl (cA1, 8, .inr (.inl (fun _ => 0))))] _ := hP
  have hD : va_D A [(k0, .inr (1, [.null, .int (0 : Int32), .int (0 : Int32), .int (0 : Int32), .int (0 : Int32), .long (0 : Int64), .int (0 : Int32), .int (0 : Int32)])), (q1, .inl (cA1, 8, .inr (.inl (fun _ => 0))))] := hD
  refine W.widen (k := 1) (n := 8) (Nat.le_of_ble_eq_true rfl) (Nat.le_of_ble_eq_true rfl) ?_
  refine va_putF (D := (dC, dI)) (ci := 1) (v := .ref q1) (ty := .array .long) (C := RX1) (T := TX1) (N := 8) hx hb hts (by decide +kernel) tyX1 tyX1_ok nmX1 hown hK hP hD hS 0 rfl rfl 0 (by decide) (hts (.fieldLink RX1 7 "ExactFloatsModel" "register" "[J") (by decide +kernel)) (fun _ h9 => h9) rfl hin rfl (by decide +kernel) rfl rfl (Nat.le_of_ble_eq_true rfl) dY_init_9 (fun H9 locs9 hP hD hS => ?_)
  have hP : va_P (dC, dI) vwCl [(k0, .inr (1, [.ref q1, .int (0 : Int32), .int (0 : Int32), .int (0 : Int32), .int (0 : Int32), .long (0 : Int64), .int (0 : Int32), .int (0 : Int32)])), (q1, .inl (cA1, 8, .inr (.inl (fun _ => 0))))] _ := hP
  have hD : va_D A [(k0, .inr (1, [.ref q1, .int (0 : Int32), .int (0 : Int32), .int (0 : Int32), .int (0 : Int32), .long (0 : Int64), .int (0 : Int32), .int (0 : Int32)])), (q1, .inl (cA1, 8, .inr (.inl (fun _ => 0))))] := hD
  exact W.vret hx hb hr (fun t ht hW => ⟨⟨(q1, cA1), rfl, trivial, by rw [ht]; exact hP, va_K.moved hW.alike hK, hD⟩, hS.F ht⟩) hS.2.2 dY_init_12
def mf_Y_flags (p1 : Int64) : Int32 := (xj_bnd (mf_Y_isZero p1) (fun y1 => (if y1 = 0 then (xj_bnd (mf_Y_isBelow p1) (fun y3 => (if y3 = 0 then (0 : Int32) else (8 : Int32)))) else (4 : Int32))))
set_option maxHeartbeats 4000000 in
set_option maxRecDepth 100000 in
theorem mc_Y_flags (l : Launch) (p1 : Int64) : xj_Pi l yY_flags wsY_flags ({ frames := 1, cells := 0, slots := 0, locals := 21 }) [.long p1] (mf_Y_flags p1) := by
  intro sz
  refine Met.ofW (cc := cY_flags) (maxL := 2) (ret := (some .int)) (by decide) rfl ?_
  intro p e s m args below meth c s₁ B hml hv
  obtain ⟨rfl, hsz⟩ := hv
  have hx := B.exec
  have hb := B.bytes
  have hr := B.returns
  have hts := atoms_spec (ws := wsY_flags) B.pre
  have hown : s.vm.findClass RX1 = some m.cls := findClass_of_methodNamed B.named
  have hlocks := B.notSynchronized
  subst hsz
  generalize hAe : va_A [] s.heap.size = A
  have hA : ∀ q : Nat, s.heap.size ≤ q → A q := fun q h => by rw [← hAe]; exact Or.inr h
  have hS : va_S A s.heap s.heap [] := va_S.rf
  generalize hT : mf_Y_flags p1 = T
  have hF := hT.symm
  unfold mf_Y_flags at hF
  have hl := lv_entry ([.long p1]) (n := 2) (Nat.le_of_ble_eq_true rfl)
  rw [lg_entry_eq]
  generalize (lg_sl ([.long p1]) ++ List.replicate (2 - (lg_sl ([.long p1])).length) Slot.unset).toArray = ls at hl ⊢
  have hl : lv_has ls 2 [(0, .long p1)] := hl
  refine lv_lload_n hx hb dY_flags_0 rfl (lv_at hl 0 rfl) ?_
  refine xj_si (As := [.long p1]) (rest := []) ⟨hx, hb, hml, hown, hts⟩ (mc_Y_isZero l p1) (va_cwS 1 hts (gY_isZero _) rfl rfl rfl (by decide +kernel) ⟨Nat.le_of_ble_eq_true rfl, Nat.le_of_ble_eq_true rfl⟩) hS hA rfl hl.1 rfl (Nat.le_of_ble_eq_true rfl) dY_flags_1 ⟨Nat.zero_le _, Nat.zero_le _⟩ (fun H9 locs9 hk9 hS => ?_)
  refine lv_topi (fun y1 ey1 => ?_)
  replace hF := xj_bz hF ey1
  refine lv_if_eq (tgt := 11) hx hb dY_flags_4 (by decide) (fun c2 => ?_) (fun c2 => ?_)
  · replace hF := xj_t hF c2
    refine lv_lload_n hx hb dY_flags_11 rfl (lv_at hl 0 rfl) ?_
    refine xj_si (As := [.long p1]) (rest := []) ⟨hx, hb, hml, hown, hts⟩ (mc_Y_isBelow l p1) (va_cwS 1 hts (gY_isBelow _) rfl rfl rfl (by decide +kernel) ⟨Nat.le_of_ble_eq_true rfl, Nat.le_of_ble_eq_true rfl⟩) hS hA rfl hl.1 rfl (Nat.le_of_ble_eq_true rfl) dY_flags_12 ⟨Nat.zero_le _, Nat.zero_le _⟩ (fun H9 locs9 hk9 hS => ?_)
    refine lv_topi (fun y3 ey3 => ?_)
    replace hF := xj_bz hF ey3
    refine lv_if_eq (tgt := 23) hx hb dY_flags_15 (by decide) (fun c4 => ?_) (fun c4 => ?_)
    · replace hF := xj_t hF c4
      refine lv_iconst (v := (0 : Int32)) hx hb dY_flags_23 (by decide) ?_
      exact W.iret (v := (0 : Int32)) hx hb hr (fun t ht hW => ⟨⟨_, (), rfl, hF.symm, trivial⟩, hS.F ht⟩) hS.2.2 dY_flags_24
    · replace hF := xj_f hF c4
      refine lv_bipush (v := (8 : Int32)) hx hb dY_flags_18 (by decide) ?_
      refine lv_goto (tgt := 24) hx hb dY_flags_20 (by decide) ?_
      exact W.iret (v := (8 : Int32)) hx hb hr (fun t ht hW => ⟨⟨_, (), rfl, hF.symm, trivial⟩, hS.F ht⟩) hS.2.2 dY_flags_24
  · replace hF := xj_f hF c2
    refine lv_iconst (v := (4 : Int32)) hx hb dY_flags_7 (by decide) ?_
    refine lv_goto (tgt := 24) hx hb dY_flags_8 (by decide) ?_
    exact W.iret (v := (4 : Int32)) hx hb hr (fun t ht hW => ⟨⟨_, (), rfl, hF.symm, trivial⟩, hS.F ht⟩) hS.2.2 dY_flags_24
def mf_Y_gives (g : Nat → Int64) (ak : Int32) (il : Int32) (mi : Int32) (xe : Int32) (bi : Int64) (fa : Int32) (cu : Int32) (p1 : Int64) (p2 : Int32) : Int32 × (Nat → Int64) × Int32 × Int32 × Int32 × Int32 × Int64 × Int32 × Int32 := (if fa = 0 then (xj_bnd (mf_Y_flags p1) (fun y2 => (y2, ((vp_updL g (Int32.toNatClampNeg p2) p1), ak, cu, mi, xe, bi, fa, cu)))) else (fa, (g, ak, il, mi, xe, bi, fa, cu)))
set_option maxHeartbeats 4000000 in
set_option maxRecDepth 100000 in
theorem mc_Y_gives (l : Launch) (dC : Nat → ClassId) (dI : Nat → Nat → Nat) (k0 k_g : Nat) (cB_g : ClassId) (g : Nat → Int64) (ak : Int32) (il : Int32) (mi : Int32) (xe : Int32) (bi : Int64) (fa : Int32) (cu : Int32) (p1 : Int64) (p2 : Int32) (hin2 : vp_in p2 8) (hcu : cu = 0 ∨ cu = 1) : xj_Oi l (dC, dI) vwCl [(cB_g, .long)] (mw_Y k0 k_g cB_g) yY_gives wsY_gives ({ frames := 2, cells := 0, slots := 0, locals := 42 }) [.ref k0, .long p1, .int p2] (g, ak, il, mi, xe, bi, fa, cu) (mf_Y_gives g ak il mi xe bi fa cu p1 p2) := by
  intro sz
  refine Met.ofW (cc := cY_gives) (maxL := 4) (ret := (some .int)) (by decide) rfl ?_
  intro p e s m args below meth c s₁ B hml hv
  obtain ⟨rfl, hsz, hP, hK, hD0⟩ := hv
  have hx := B.exec
  have hb := B.bytes
  have hr := B.returns
  have hts := atoms_spec (ws := wsY_gives) B.pre
  have hown : s.vm.findClass RX1 = some m.cls := findClass_of_methodNamed B.named
  have hlocks := B.notSynchronized
  subst hsz
  have hD := hD0.self (sz := s.heap.size)
  generalize hAe : va_A (mw_Y k0 k_g cB_g (g, ak, il, mi, xe, bi, fa, cu)) s.heap.size = A at hD ⊢
  have hA : ∀ q : Nat, s.heap.size ≤ q → A q := fun q h => by rw [← hAe]; exact Or.inr h
  have hS : va_S A s.heap s.heap [] := va_S.rf
  have hP : va_P (dC, dI) vwCl [(k0, .inr (1, [.ref k_g, .int ak, .int il, .int mi, .int xe, .long bi, .int fa, .int cu])), (k_g, .inl (cB_g, 8, .inr (.inl g)))] s.heap := hP
  have hD : va_D A [(k0, .inr (1, [.ref k_g, .int ak, .int il, .int mi, .int xe, .long bi, .int fa, .int cu])), (k_g, .inl (cB_g, 8, .inr (.inl g)))] := hD
  generalize hT : mf_Y_gives g ak il mi xe bi fa cu p1 p2 = T
  have hF := hT.symm
  unfold mf_Y_gives at hF
  have hl := lv_entry ([.ref k0, .long p1, .int p2]) (n := 4) (Nat.le_of_ble_eq_true rfl)
  rw [lg_entry_eq]
  generalize (lg_sl ([.ref k0, .long p1, .int p2]) ++ List.replicate (4 - (lg_sl ([.ref k0, .long p1, .int p2])).length) Slot.unset).toArray = ls at hl ⊢
  have hl : lv_has ls 4 [(0, .ref k0), (1, .long p1), (3, .int p2)] := hl
  refine lv_aload_n hx hb dY_gives_0 rfl (lv_at hl 0 rfl) ?_
  refine va_get (D := (dC, dI)) (ci := 1) (v := .int fa) (C := RX1) (T := TX1) (N := 8) hx hb hts (fun w9 h9 => List.mem_cons_of_mem _ (inY w9 h9)) hown hK hP 0 rfl rfl 6 (by decide) (hts (.fieldLink RX1 48 "ExactFloatsModel" "fault" "I") (List.mem_cons_of_mem _ mY_44)) (fun _ h9 => h9) rfl dY_gives_1 ?_
  refine lv_if_eq (tgt := 12) hx hb dY_gives_4 (by decide) (fun c1 => ?_) (fun c1 => ?_)
  · replace hF := xj_t hF c1
    refine lv_aload_n hx hb dY_gives_12 rfl (lv_at hl 0 rfl) ?_
    refine va_get (D := (dC, dI)) (ci := 1) (v := .ref k_g) (C := RX1) (T := TX1) (N := 8) hx hb hts (fun w9 h9 => List.mem_cons_of_mem _ (inY w9 h9)) hown hK hP 0 rfl rfl 0 (by decide) (hts (.fieldLink RX1 7 "ExactFloatsModel" "register" "[J") (List.mem_cons_of_mem _ mY_29)) (fun _ h9 => h9) rfl dY_gives_13 ?_
    refine lv_iload_n hx hb dY_gives_16 rfl (lv_at hl 2 rfl) ?_
    refine lv_lload_n hx hb dY_gives_17 rfl (lv_at hl 1 rfl) ?_
    refine va_last hx hb hK hP hD hS 1 0 rfl rfl (hin2) dY_gives_18 (fun H9 locs9 hP hD hS => ?_)
    have hP : va_P (dC, dI) vwCl [(k0, .inr (1, [.ref k_g, .int ak, .int il, .int mi, .int xe, .long bi, .int fa, .int cu])), (k_g, .inl (cB_g, 8, .inr (.inl (vp_updL g (Int32.toNatClampNeg p2) p1))))] _ := hP
    have hD : va_D A [(k0, .inr (1, [.ref k_g, .int ak, .int il, .int mi, .int xe, .long bi, .int fa, .int cu])), (k_g, .inl (cB_g, 8, .inr (.inl (vp_updL g (Int32.toNatClampNeg p2) p1))))] := hD
    refine lv_aload_n hx hb dY_gives_19 rfl (lv_at hl 0 rfl) ?_
    refine lv_aload_n hx hb dY_gives_20 rfl (lv_at hl 0 rfl) ?_
    refine va_get (D := (dC, dI)) (ci := 1) (v := .int cu) (C := RX1) (T := TX1) (N := 8) hx hb hts (fun w9 h9 => List.mem_cons_of_mem _ (inY w9 h9)) hown hK hP 0 rfl rfl 7 (by decide) (hts (.fieldLink RX1 51 "ExactFloatsModel" "cut" "Z") (List.mem_cons_of_mem _ mY_45)) (fun _ h9 => h9) rfl dY_gives_21 ?_
    refine va_put (D := (dC, dI)) (ci := 1) (v := .int cu) (ty := .boolean) (C := RX1) (T := TX1) (N := 8) hx hb hts (fun w9 h9 => List.mem_cons_of_mem _ (inY w9 h9)) tyX1 tyX1_ok nmX1 hown hK hP hD hS 0 rfl rfl 2 (by decide) (hts (.fieldLink RX1 63 "ExactFloatsModel" "isLost" "Z") (List.mem_cons_of_mem _ mY_51)) (fun _ h9 => h9) rfl (by decide +kernel) (xj_nb (hcu)) (xj_fb (hcu)) (Nat.le_of_ble_eq_true rfl) dY_gives_24 (fun H9 locs9 hP hD hS => ?_)
    have hP : va_P (dC, dI) vwCl [(k0, .inr (1, [.ref k_g, .int ak, .int cu, .int mi, .int xe, .long bi, .int fa, .int cu])), (k_g, .inl (cB_g, 8, .inr (.inl (vp_updL g (Int32.toNatClampNeg p2) p1))))] _ := hP
    have hD : va_D A [(k0, .inr (1, [.ref k_g, .int ak, .int cu, .int mi, .int xe, .long bi, .int fa, .int cu])), (k_g, .inl (cB_g, 8, .inr (.inl (vp_updL g (Int32.toNatClampNeg p2) p1))))] := hD
    refine lv_lload_n hx hb dY_gives_27 rfl (lv_at hl 1 rfl) ?_
    refine xj_si (As := [.long p1]) (rest := []) ⟨hx, hb, hml, hown, hts⟩ (mc_Y_flags l p1) (va_cwS 1 hts (gY_flags _) rfl rfl rfl (by decide +kernel) ⟨Nat.le_of_ble_eq_true rfl, Nat.le_of_ble_eq_true rfl⟩) hS hA rfl hl.1 rfl (Nat.le_of_ble_eq_true rfl) dY_gives_28 ⟨Nat.zero_le _, Nat.zero_le _⟩ (fun H9 locs9 hk9 hS => ?_)
    have hP := xj_kept hP hk9
    refine lv_topi (fun y2 ey2 => ?_)
    replace hF := xj_bz hF ey2
    exact W.iret (v := y2) hx hb hr (fun t ht hW => ⟨⟨_, ((vp_updL g (Int32.toNatClampNeg p2) p1), ak, cu, mi, xe, bi, fa, cu), rfl, hF.symm, by rw [ht]; exact hP, hD⟩, hS.F ht⟩) hS.2.2 dY_gives_31
  · replace hF := xj_f hF c1
    refine lv_aload_n hx hb dY_gives_7 rfl (lv_at hl 0 rfl) ?_
    refine va_get (D := (dC, dI)) (ci := 1) (v := .int fa) (C := RX1) (T := TX1) (N := 8) hx hb hts (fun w9 h9 => List.mem_cons_of_mem _ (inY w9 h9)) hown hK hP 0 rfl rfl 6 (by decide) (hts (.fieldLink RX1 48 "ExactFloatsModel" "fault" "I") (List.mem_cons_of_mem _ mY_44)) (fun _ h9 => h9) rfl dY_gives_8 ?_
    exact W.iret (v := fa) hx hb hr (fun t ht hW => ⟨⟨_, (g, ak, il, mi, xe, bi, fa, cu), rfl, hF.symm, by rw [ht]; exact hP, hD⟩, hS.F ht⟩) hS.2.2 dY_gives_11
def mf_Y_other (p1 : Int64) : Int64 := (xj_bnd (mf_Y_isZero p1) (fun y1 => (if y1 = 0 then (p1 ^^^ (32768 : Int64)) else (0 : Int64))))
set_option maxHeartbeats 4000000 in
set_option maxRecDepth 100000 in
theorem mc_Y_other (l : Launch) (p1 : Int64) : xj_Pl l yY_other wsY_other ({ frames := 1, cells := 0, slots := 0, locals := 21 }) [.long p1] (mf_Y_other p1) := by
  intro sz
  refine Met.ofW (cc := cY_other) (maxL := 2) (ret := (some .long)) (by decide) rfl ?_
  intro p e s m args below meth c s₁ B hml hv
  obtain ⟨rfl, hsz⟩ := hv
  have hx := B.exec
  have hb := B.bytes
  have hr := B.returns
  have hts := atoms_spec (ws := wsY_other) B.pre
  have hown : s.vm.findClass RX1 = some m.cls := findClass_of_methodNamed B.named
  have hlocks := B.notSynchronized
  subst hsz
  generalize hAe : va_A [] s.heap.size = A
  have hA : ∀ q : Nat, s.heap.size ≤ q → A q := fun q h => by rw [← hAe]; exact Or.inr h
  have hS : va_S A s.heap s.heap [] := va_S.rf
  generalize hT : mf_Y_other p1 = T
  have hF := hT.symm
  unfold mf_Y_other at hF
  have hl := lv_entry ([.long p1]) (n := 2) (Nat.le_of_ble_eq_true rfl)
  rw [lg_entry_eq]
  generalize (lg_sl ([.long p1]) ++ List.replicate (2 - (lg_sl ([.long p1])).length) Slot.unset).toArray = ls at hl ⊢
  have hl : lv_has ls 2 [(0, .long p1)] := hl
  refine lv_lload_n hx hb dY_other_0 rfl (lv_at hl 0 rfl) ?_
  refine xj_si (As := [.long p1]) (rest := []) ⟨hx, hb, hml, hown, hts⟩ (mc_Y_isZero l p1) (va_cwS 1 hts (gY_isZero _) rfl rfl rfl (by decide +kernel) ⟨Nat.le_of_ble_eq_true rfl, Nat.le_of_ble_eq_true rfl⟩) hS hA rfl hl.1 rfl (Nat.le_of_ble_eq_true rfl) dY_other_1 ⟨Nat.zero_le _, Nat.zero_le _⟩ (fun H9 locs9 hk9 hS => ?_)
  refine lv_topi (fun y1 ey1 => ?_)
  replace hF := xj_bz hF ey1
  refine lv_if_eq (tgt := 11) hx hb dY_other_4 (by decide) (fun c2 => ?_) (fun c2 => ?_)
  · replace hF := xj_t hF c2
    refine lv_lload_n hx hb dY_other_11 rfl (lv_at hl 0 rfl) ?_
    refine lv_ldc2 (own := RX1) (v := (32768 : Int64)) hx hb hown (hts (.constantLong RX1 21 (32768 : Int64)) (List.mem_cons_of_mem _ mY_33)) dY_other_12 ?_
    refine lv_lxor hx hb dY_other_15 ?_
    exact W.lret (v := (p1 ^^^ (32768 : Int64))) hx hb hr (fun t ht hW => ⟨⟨_, (), rfl, hF.symm, trivial⟩, hS.F ht⟩) hS.2.2 dY_other_16
  · replace hF := xj_f hF c2
    refine lv_lconst (v := (0 : Int64)) hx hb dY_other_7 (by decide) ?_
    refine lv_goto (tgt := 16) hx hb dY_other_8 (by decide) ?_
    exact W.lret (v := (0 : Int64)) hx hb hr (fun t ht hW => ⟨⟨_, (), rfl, hF.symm, trivial⟩, hS.F ht⟩) hS.2.2 dY_other_16
