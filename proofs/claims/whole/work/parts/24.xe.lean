def mf_X0_set (f : Nat → Int64) (u : Int32) (o : Int32) (p1 : Int32) (p2 : Int64) : Int32 × (Nat → Int64) × Int32 × Int32 := (xj_bnd (mf_X0_isRegister p1) (fun y1 => (if y1 = 0 then ((0 : Int32), (f, u, o)) else ((1 : Int32), ((vp_updL f (Int32.toNatClampNeg p1) p2), u, o)))))
set_option maxHeartbeats 4000000 in
set_option maxRecDepth 100000 in
theorem mc_X0_set (l : Launch) (dC : Nat → ClassId) (dI : Nat → Nat → Nat) (h0 h_f : Nat) (cA_f : ClassId) (f : Nat → Int64) (u : Int32) (o : Int32) (p1 : Int32) (p2 : Int64) : xj_Oi l (dC, dI) vwCl [(cA_f, .long)] (mw_X0 h0 h_f cA_f) yX0_set wsX0_set ({ frames := 1, cells := 0, slots := 0, locals := 20 }) [.ref h0, .int p1, .long p2] (f, u, o) (mf_X0_set f u o p1 p2) := by
  intro sz
  refine Met.ofW (cc := cX0_set) (maxL := 4) (ret := (some .boolean)) (by decide) rfl ?_
  intro p e s m args below meth c s₁ B hml hv
  obtain ⟨rfl, hsz, hP, hK, hD0⟩ := hv
  have hx := B.exec
  have hb := B.bytes
  have hr := B.returns
  have hts := atoms_spec (ws := wsX0_set) B.pre
  have hown : s.vm.findClass RX0 = some m.cls := findClass_of_methodNamed B.named
  have hlocks := B.notSynchronized
  subst hsz
  have hD := hD0.self (sz := s.heap.size)
  generalize hAe : va_A (mw_X0 h0 h_f cA_f (f, u, o)) s.heap.size = A at hD ⊢
  have hA : ∀ q : Nat, s.heap.size ≤ q → A q := fun q h => by rw [← hAe]; exact Or.inr h
  have hS : va_S A s.heap s.heap [] := va_S.rf
  have hP : va_P (dC, dI) vwCl [(h0, .inr (0, [.ref h_f, .int u, .int o])), (h_f, .inl (cA_f, 8, .inr (.inl f)))] s.heap := hP
  have hD : va_D A [(h0, .inr (0, [.ref h_f, .int u, .int o])), (h_f, .inl (cA_f, 8, .inr (.inl f)))] := hD
  generalize hT : mf_X0_set f u o p1 p2 = T
  have hF := hT.symm
  unfold mf_X0_set at hF
  have hl := lv_entry ([.ref h0, .int p1, .long p2]) (n := 4) (Nat.le_of_ble_eq_true rfl)
  rw [lg_entry_eq]
  generalize (lg_sl ([.ref h0, .int p1, .long p2]) ++ List.replicate (4 - (lg_sl ([.ref h0, .int p1, .long p2])).length) Slot.unset).toArray = ls at hl ⊢
  have hl : lv_has ls 4 [(0, .ref h0), (1, .int p1), (2, .long p2)] := hl
  refine lv_iload_n hx hb dX0_set_0 rfl (lv_at hl 1 rfl) ?_
  refine xj_si (As := [.int p1]) (rest := []) ⟨hx, hb, hml, hown, hts⟩ (mc_X0_isRegister l p1) (va_cwS 1 hts gX0_set_X0_isRegister rfl rfl rfl (by decide +kernel) ⟨Nat.le_of_ble_eq_true rfl, Nat.le_of_ble_eq_true rfl⟩) hS hA rfl hl.1 rfl (Nat.le_of_ble_eq_true rfl) dX0_set_1 ⟨Nat.zero_le _, Nat.zero_le _⟩ (fun H9 locs9 hk9 hS => ?_)
  have hP := xj_kept hP hk9
  refine lv_topi (fun y1 ey1 => ?_)
  replace hF := xj_bz hF ey1
  refine lv_if_ne (tgt := 9) hx hb dX0_set_4 (by decide) (fun c2 => ?_) (fun c2 => ?_)
  · replace hF := xj_f hF c2
    refine lv_aload_n hx hb dX0_set_9 rfl (lv_at hl 0 rfl) ?_
    refine va_get (D := (dC, dI)) (ci := 0) (v := .ref h_f) (C := RX0) (T := TX0) (N := 3) hx hb hts (by decide +kernel) hown hK hP 0 rfl rfl 0 (by decide) (hts (.fieldLink RX0 9 "ExactFloats" "registers" "[J") (by decide +kernel)) (fun _ h9 => h9) rfl dX0_set_10 ?_
    refine lv_iload_n hx hb dX0_set_13 rfl (lv_at hl 1 rfl) ?_
    refine lv_lload_n hx hb dX0_set_14 rfl (lv_at hl 2 rfl) ?_
    refine va_last hx hb hK hP hD hS 1 0 rfl rfl (mr_reg (fun h9 => c2 (ey1.trans h9))) dX0_set_15 (fun H9 locs9 hP hD hS => ?_)
    have hP : va_P (dC, dI) vwCl [(h0, .inr (0, [.ref h_f, .int u, .int o])), (h_f, .inl (cA_f, 8, .inr (.inl (vp_updL f (Int32.toNatClampNeg p1) p2))))] _ := hP
    have hD : va_D A [(h0, .inr (0, [.ref h_f, .int u, .int o])), (h_f, .inl (cA_f, 8, .inr (.inl (vp_updL f (Int32.toNatClampNeg p1) p2))))] := hD
    refine lv_iconst (v := (1 : Int32)) hx hb dX0_set_16 (by decide) ?_
    exact W.zret (v := (1 : Int32)) hx hb hr rfl (fun t ht hW => ⟨⟨_, ((vp_updL f (Int32.toNatClampNeg p1) p2), u, o), rfl, hF.symm, by rw [ht]; exact hP, hD⟩, hS.F ht⟩) hS.2.2 dX0_set_17
  · replace hF := xj_t hF c2
    refine lv_iconst (v := (0 : Int32)) hx hb dX0_set_7 (by decide) ?_
    exact W.zret (v := (0 : Int32)) hx hb hr rfl (fun t ht hW => ⟨⟨_, (f, u, o), rfl, hF.symm, by rw [ht]; exact hP, hD⟩, hS.F ht⟩) hS.2.2 dX0_set_8
def mf_X0_get (f : Nat → Int64) (u : Int32) (o : Int32) (p1 : Int32) : Int64 := (xj_bnd (mf_X0_isRegister p1) (fun y1 => (if y1 = 0 then (0 : Int64) else (f (Int32.toNatClampNeg p1)))))
set_option maxHeartbeats 4000000 in
set_option maxRecDepth 100000 in
theorem mc_X0_get (l : Launch) (dC : Nat → ClassId) (dI : Nat → Nat → Nat) (h0 h_f : Nat) (cA_f : ClassId) (f : Nat → Int64) (u : Int32) (o : Int32) (p1 : Int32) : xj_Ol l (dC, dI) vwCl [(cA_f, .long)] (mw_X0 h0 h_f cA_f) yX0_get wsX0_get ({ frames := 1, cells := 0, slots := 0, locals := 20 }) [.ref h0, .int p1] (f, u, o) (mf_X0_get f u o p1, (f, u, o)) := by
  intro sz
  refine Met.ofW (cc := cX0_get) (maxL := 2) (ret := (some .long)) (by decide) rfl ?_
  intro p e s m args below meth c s₁ B hml hv
  obtain ⟨rfl, hsz, hP, hK, hD0⟩ := hv
  have hx := B.exec
  have hb := B.bytes
  have hr := B.returns
  have hts := atoms_spec (ws := wsX0_get) B.pre
  have hown : s.vm.findClass RX0 = some m.cls := findClass_of_methodNamed B.named
  have hlocks := B.notSynchronized
  subst hsz
  have hD := hD0.self (sz := s.heap.size)
  generalize hAe : va_A (mw_X0 h0 h_f cA_f (f, u, o)) s.heap.size = A at hD ⊢
  have hA : ∀ q : Nat, s.heap.size ≤ q → A q := fun q h => by rw [← hAe]; exact Or.inr h
  have hS : va_S A s.heap s.heap [] := va_S.rf
  have hP : va_P (dC, dI) vwCl [(h0, .inr (0, [.ref h_f, .int u, .int o])), (h_f, .inl (cA_f, 8, .inr (.inl f)))] s.heap := hP
  have hD : va_D A [(h0, .inr (0, [.ref h_f, .int u, .int o])), (h_f, .inl (cA_f, 8, .inr (.inl f)))] := hD
  generalize hT : mf_X0_get f u o p1 = T
  have hF := hT.symm
  unfold mf_X0_get at hF
  have hl := lv_entry ([.ref h0, .int p1]) (n := 2) (Nat.le_of_ble_eq_true rfl)
  rw [lg_entry_eq]
  generalize (lg_sl ([.ref h0, .int p1]) ++ List.replicate (2 - (lg_sl ([.ref h0, .int p1])).length) Slot.unset).toArray = ls at hl ⊢
  have hl : lv_has ls 2 [(0, .ref h0), (1, .int p1)] := hl
  refine lv_iload_n hx hb dX0_get_0 rfl (lv_at hl 1 rfl) ?_
  refine xj_si (As := [.int p1]) (rest := []) ⟨hx, hb, hml, hown, hts⟩ (mc_X0_isRegister l p1) (va_cwS 1 hts gX0_get_X0_isRegister rfl rfl rfl (by decide +kernel) ⟨Nat.le_of_ble_eq_true rfl, Nat.le_of_ble_eq_true rfl⟩) hS hA rfl hl.1 rfl (Nat.le_of_ble_eq_true rfl) dX0_get_1 ⟨Nat.zero_le _, Nat.zero_le _⟩ (fun H9 locs9 hk9 hS => ?_)
  have hP := xj_kept hP hk9
  refine lv_topi (fun y1 ey1 => ?_)
  replace hF := xj_bz hF ey1
  refine lv_if_eq (tgt := 16) hx hb dX0_get_4 (by decide) (fun c2 => ?_) (fun c2 => ?_)
  · replace hF := xj_t hF c2
    refine lv_lconst (v := (0 : Int64)) hx hb dX0_get_16 (by decide) ?_
    exact W.lret (v := (0 : Int64)) hx hb hr (fun t ht hW => ⟨⟨_, (f, u, o), rfl, by rw [hF], by rw [ht]; exact hP, hD⟩, hS.F ht⟩) hS.2.2 dX0_get_17
  · replace hF := xj_f hF c2
    refine lv_aload_n hx hb dX0_get_7 rfl (lv_at hl 0 rfl) ?_
    refine va_get (D := (dC, dI)) (ci := 0) (v := .ref h_f) (C := RX0) (T := TX0) (N := 3) hx hb hts (by decide +kernel) hown hK hP 0 rfl rfl 0 (by decide) (hts (.fieldLink RX0 9 "ExactFloats" "registers" "[J") (by decide +kernel)) (fun _ h9 => h9) rfl dX0_get_8 ?_
    refine lv_iload_n hx hb dX0_get_11 rfl (lv_at hl 1 rfl) ?_
    refine va_lald hx hb hK hP 1 0 rfl rfl (mr_reg (fun h9 => c2 (ey1.trans h9))) dX0_get_12 ?_
    refine lv_goto (tgt := 17) hx hb dX0_get_13 (by decide) ?_
    exact W.lret (v := (f (Int32.toNatClampNeg p1))) hx hb hr (fun t ht hW => ⟨⟨_, (f, u, o), rfl, by rw [hF], by rw [ht]; exact hP, hD⟩, hS.F ht⟩) hS.2.2 dX0_get_17
def mf_X0_under (f : Nat → Int64) (u : Int32) (o : Int32) (p1 : Int32) : (Nat → Int64) × Int32 × Int32 := (f, p1, o)
set_option maxHeartbeats 4000000 in
set_option maxRecDepth 100000 in
theorem mc_X0_under (l : Launch) (dC : Nat → ClassId) (dI : Nat → Nat → Nat) (h0 h_f : Nat) (cA_f : ClassId) (f : Nat → Int64) (u : Int32) (o : Int32) (p1 : Int32) (hb1 : p1 = 0 ∨ p1 = 1) : xj_Ov l (dC, dI) vwCl [(cA_f, .long)] (mw_X0 h0 h_f cA_f) yX0_under wsX0_under ({ frames := 0, cells := 0, slots := 0, locals := 0 }) [.ref h0, .int p1] (f, u, o) (mf_X0_under f u o p1) := by
  intro sz
  refine Met.ofW (cc := cX0_under) (maxL := 2) (ret := none) (by decide) rfl ?_
  intro p e s m args below meth c s₁ B hml hv
  obtain ⟨rfl, hsz, hP, hK, hD0⟩ := hv
  have hx := B.exec
  have hb := B.bytes
  have hr := B.returns
  have hts := atoms_spec (ws := wsX0_under) B.pre
  have hown : s.vm.findClass RX0 = some m.cls := findClass_of_methodNamed B.named
  have hlocks := B.notSynchronized
  subst hsz
  have hD := hD0.self (sz := s.heap.size)
  generalize hAe : va_A (mw_X0 h0 h_f cA_f (f, u, o)) s.heap.size = A at hD ⊢
  have hA : ∀ q : Nat, s.heap.size ≤ q → A q := fun q h => by rw [← hAe]; exact Or.inr h
  have hS : va_S A s.heap s.heap [] := va_S.rf
  have hP : va_P (dC, dI) vwCl [(h0, .inr (0, [.ref h_f, .int u, .int o])), (h_f, .inl (cA_f, 8, .inr (.inl f)))] s.heap := hP
  have hD : va_D A [(h0, .inr (0, [.ref h_f, .int u, .int o])), (h_f, .inl (cA_f, 8, .inr (.inl f)))] := hD
  generalize hT : mf_X0_under f u o p1 = T
  have hF := hT.symm
  unfold mf_X0_under at hF
  have hl := lv_entry ([.ref h0, .int p1]) (n := 2) (Nat.le_of_ble_eq_true rfl)
  rw [lg_entry_eq]
  generalize (lg_sl ([.ref h0, .int p1]) ++ List.replicate (2 - (lg_sl ([.ref h0, .int p1])).length) Slot.unset).toArray = ls at hl ⊢
  have hl : lv_has ls 2 [(0, .ref h0), (1, .int p1)] := hl
  refine lv_aload_n hx hb dX0_under_0 rfl (lv_at hl 0 rfl) ?_
  refine lv_iload_n hx hb dX0_under_1 rfl (lv_at hl 1 rfl) ?_
  refine va_put (D := (dC, dI)) (ci := 0) (v := .int p1) (ty := .boolean) (C := RX0) (T := TX0) (N := 3) hx hb hts (by decide +kernel) tyX0 tyX0_ok nmX0 hown hK hP hD hS 0 rfl rfl 1 (by decide) (hts (.fieldLink RX0 13 "ExactFloats" "underflowAsked" "Z") (by decide +kernel)) (fun _ h9 => h9) rfl (by decide +kernel) (xj_nb (hb1)) (xj_fb (hb1)) (Nat.le_of_ble_eq_true rfl) dX0_under_2 (fun H9 locs9 hP hD hS => ?_)
  have hP : va_P (dC, dI) vwCl [(h0, .inr (0, [.ref h_f, .int p1, .int o])), (h_f, .inl (cA_f, 8, .inr (.inl f)))] _ := hP
  have hD : va_D A [(h0, .inr (0, [.ref h_f, .int p1, .int o])), (h_f, .inl (cA_f, 8, .inr (.inl f)))] := hD
  exact W.vret hx hb hr (fun t ht hW => ⟨⟨(f, p1, o), rfl, hF.symm, by rw [ht]; exact hP, hD⟩, hS.F ht⟩) hS.2.2 dX0_under_5
def mf_X0_sum (f : Nat → Int64) (u : Int32) (o : Int32) (p1 : Int32) (p2 : Int32) (p3 : Int32) (p4 : Int32) : Int32 × (Nat → Int64) × Int32 × Int32 := (xj_bnd (mf_X0_refusalOf f u o p1 p2 p3 p4) (fun y1 => (if y1 = 0 then (xj_bnd (mf_X0_valueIn f u o p1 p3) (fun y3 => (xj_bnd (mf_X0_valueIn f u o p1 p2) (fun y4 => (xj_bnd (mf_X0_storeSum f u o p1 p4 y3 y4) (fun q5 => (q5.1, (q5.2.1, q5.2.2.1, q5.2.2.2)))))))) else (y1, (f, u, o)))))
set_option maxHeartbeats 4000000 in
set_option maxRecDepth 100000 in
theorem mc_X0_sum (l : Launch) (dC : Nat → ClassId) (dI : Nat → Nat → Nat) (h0 h_f : Nat) (cA_f : ClassId) (f : Nat → Int64) (u : Int32) (o : Int32) (p1 : Int32) (p2 : Int32) (p3 : Int32) (p4 : Int32) : xj_Oi l (dC, dI) vwCl [(cA_f, .long)] (mw_X0 h0 h_f cA_f) yX0_sum wsX0_sum ({ frames := 4, cells := 0, slots := 0, locals := 118 }) [.ref h0, .int p1, .int p2, .int p3, .int p4] (f, u, o) (mf_X0_sum f u o p1 p2 p3 p4) := by
  intro sz
  refine Met.ofW (cc := cX0_sum) (maxL := 6) (ret := (some .int)) (by decide) rfl ?_
  intro p e s m args below meth c s₁ B hml hv
  obtain ⟨rfl, hsz, hP, hK, hD0⟩ := hv
  have hx := B.exec
  have hb := B.bytes
  have hr := B.returns
  have hts := atoms_spec (ws := wsX0_sum) B.pre
  have hown : s.vm.findClass RX0 = some m.cls := findClass_of_methodNamed B.named
  have hlocks := B.notSynchronized
  subst hsz
  have hD := hD0.self (sz := s.heap.size)
  generalize hAe : va_A (mw_X0 h0 h_f cA_f (f, u, o)) s.heap.size = A at hD ⊢
  have hA : ∀ q : Nat, s.heap.size ≤ q → A q := fun q h => by rw [← hAe]; exact Or.inr h
  have hS : va_S A s.heap s.heap [] := va_S.rf
  have hP : va_P (dC, dI) vwCl [(h0, .inr (0, [.ref h_f, .int u, .int o])), (h_f, .inl (cA_f, 8, .inr (.inl f)))] s.heap := hP
  have hD : va_D A [(h0, .inr (0, [.ref h_f, .int u, .int o])), (h_f, .inl (cA_f, 8, .inr (.inl f)))] := hD
  generalize hT : mf_X0_sum f u o p1 p2 p3 p4 = T
  have hF := hT.symm
  unfold mf_X0_sum at hF
  have hl := lv_entry ([.ref h0, .int p1, .int p2, .int p3, .int p4]) (n := 6) (Nat.le_of_ble_eq_true rfl)
  rw [lg_entry_eq]
  generalize (lg_sl ([.ref h0, .int p1, .int p2, .int p3, .int p4]) ++ List.replicate (6 - (lg_sl ([.ref h0, .int p1, .int p2, .int p3, .int p4])).length) Slot.unset).toArray = ls at hl ⊢
  have hl : lv_has ls 6 [(0, .ref h0), (1, .int p1), (2, .int p2), (3, .int p3), (4, .int p4)] := hl
  refine lv_aload_n hx hb dX0_sum_0 rfl (lv_at hl 0 rfl) ?_
  refine lv_iload_n hx hb dX0_sum_1 rfl (lv_at hl 1 rfl) ?_
  refine lv_iload_n hx hb dX0_sum_2 rfl (lv_at hl 2 rfl) ?_
  refine lv_iload_n hx hb dX0_sum_3 rfl (lv_at hl 3 rfl) ?_
  refine lv_iload hx hb dX0_sum_4 (lv_at hl 4 rfl) ?_
  refine xj_vi (As := [.int p1, .int p2, .int p3, .int p4]) (rest := []) (Wd := mw_X0 h0 h_f cA_f) (wr := []) ⟨hx, hb, hml, hown, hts⟩ (mc_X0_refusalOf l dC dI h0 h_f cA_f f u o p1 p2 p3 p4) (cwV 4 hts gX0_sum_X0_refusalOf rfl rfl rfl (by decide +kernel) ⟨Nat.le_of_ble_eq_true rfl, Nat.le_of_ble_eq_true rfl⟩) hP hK hD hS hA [0, 1] [] [0] rfl (by decide) rfl (by decide) (by decide) rfl (va_recv hK hP (ci := 0) (q0 := 0) rfl rfl) rfl hl.1 rfl (Nat.le_of_ble_eq_true rfl) dX0_sum_6 ⟨Nat.zero_le _, Nat.zero_le _⟩ (fun H9 locs9 hP hD hS => ?_)
  have hP : va_P (dC, dI) vwCl [(h0, .inr (0, [.ref h_f, .int u, .int o])), (h_f, .inl (cA_f, 8, .inr (.inl f)))] _ := hP
  have hD : va_D A [(h0, .inr (0, [.ref h_f, .int u, .int o])), (h_f, .inl (cA_f, 8, .inr (.inl f)))] := hD
  refine lv_topi (fun y1 ey1 => ?_)
  replace hF := xj_bz hF ey1
  refine lv_istore (lv' := [(5, .int y1), (0, .ref h0), (1, .int p1), (2, .int p2), (3, .int p3), (4, .int p4)]) hx hb dX0_sum_9 hl (by decide) rfl (fun ls hl => ?_)
  refine lv_iload hx hb dX0_sum_11 (lv_at hl 0 rfl) ?_
  refine lv_if_eq (tgt := 21) hx hb dX0_sum_13 (by decide) (fun c2 => ?_) (fun c2 => ?_)
  · replace hF := xj_t hF c2
    refine lv_aload_n hx hb dX0_sum_21 rfl (lv_at hl 1 rfl) ?_
    refine lv_iload_n hx hb dX0_sum_22 rfl (lv_at hl 2 rfl) ?_
    refine lv_iload hx hb dX0_sum_23 (lv_at hl 5 rfl) ?_
    refine lv_aload_n hx hb dX0_sum_25 rfl (lv_at hl 1 rfl) ?_
    refine lv_iload_n hx hb dX0_sum_26 rfl (lv_at hl 2 rfl) ?_
    refine lv_iload_n hx hb dX0_sum_27 rfl (lv_at hl 4 rfl) ?_
    refine xj_vl (As := [.int p1, .int p3]) (rest := [.int p4, .int p1, .ref h0]) (Wd := mw_X0 h0 h_f cA_f) (wr := []) ⟨hx, hb, hml, hown, hts⟩ (mc_X0_valueIn l dC dI h0 h_f cA_f f u o p1 p3 ((mr_ref (ey1.symm.trans c2)).2.1)) (cwV 2 hts gX0_sum_X0_valueIn rfl rfl rfl (by decide +kernel) ⟨Nat.le_of_ble_eq_true rfl, Nat.le_of_ble_eq_true rfl⟩) hP hK hD hS hA [0, 1] [] [0] rfl (by decide) rfl (by decide) (by decide) rfl (va_recv hK hP (ci := 0) (q0 := 0) rfl rfl) rfl hl.1 rfl (Nat.le_of_ble_eq_true rfl) dX0_sum_28 ⟨Nat.zero_le _, Nat.zero_le _⟩ (fun H9 locs9 hP hD hS => ?_)
    have hP : va_P (dC, dI) vwCl [(h0, .inr (0, [.ref h_f, .int u, .int o])), (h_f, .inl (cA_f, 8, .inr (.inl f)))] _ := hP
    have hD : va_D A [(h0, .inr (0, [.ref h_f, .int u, .int o])), (h_f, .inl (cA_f, 8, .inr (.inl f)))] := hD
    refine lv_topl (fun y3 ey3 => ?_)
    replace hF := xj_bz hF ey3
    refine lv_aload_n hx hb dX0_sum_31 rfl (lv_at hl 1 rfl) ?_
    refine lv_iload_n hx hb dX0_sum_32 rfl (lv_at hl 2 rfl) ?_
    refine lv_iload_n hx hb dX0_sum_33 rfl (lv_at hl 3 rfl) ?_
    refine xj_vl (As := [.int p1, .int p2]) (rest := [.long y3, .int p4, .int p1, .ref h0]) (Wd := mw_X0 h0 h_f cA_f) (wr := []) ⟨hx, hb, hml, hown, hts⟩ (mc_X0_valueIn l dC dI h0 h_f cA_f f u o p1 p2 ((mr_ref (ey1.symm.trans c2)).1)) (cwV 2 hts gX0_sum_X0_valueIn rfl rfl rfl (by decide +kernel) ⟨Nat.le_of_ble_eq_true rfl, Nat.le_of_ble_eq_true rfl⟩) hP hK hD hS hA [0, 1] [] [0] rfl (by decide) rfl (by decide) (by decide) rfl (va_recv hK hP (ci := 0) (q0 := 0) rfl rfl) rfl hl.1 rfl (Nat.le_of_ble_eq_true rfl) dX0_sum_34 ⟨Nat.zero_le _, Nat.zero_le _⟩ (fun H9 locs9 hP hD hS => ?_)
    have hP : va_P (dC, dI) vwCl [(h0, .inr (0, [.ref h_f, .int u, .int o])), (h_f, .inl (cA_f, 8, .inr (.inl f)))] _ := hP
    have hD : va_D A [(h0, .inr (0, [.ref h_f, .int u, .int o])), (h_f, .inl (cA_f, 8, .inr (.inl f)))] := hD
    refine lv_topl (fun y4 ey4 => ?_)
    replace hF := xj_bz hF ey4
    obtain ⟨q5, eq5⟩ : ∃ z : Int32 × (Nat → Int64) × Int32 × Int32, z = (mf_X0_storeSum f u o p1 p4 y3 y4) := ⟨_, rfl⟩
    replace hF := xj_bz hF eq5
    refine xj_vi (r := q5) (As := [.int p1, .int p4, .long y3, .long y4]) (rest := []) (Wd := mw_X0 h0 h_f cA_f) (wr := []) ⟨hx, hb, hml, hown, hts⟩ (by rw [eq5]; exact mc_X0_storeSum l dC dI h0 h_f cA_f f u o p1 p4 y3 y4 ((mr_ref (ey1.symm.trans c2)).2.2)) (cwV 4 hts gX0_sum_X0_storeSum rfl rfl rfl (by decide +kernel) ⟨Nat.le_of_ble_eq_true rfl, Nat.le_of_ble_eq_true rfl⟩) hP hK hD hS hA [0, 1] [] [0] rfl (by decide) rfl (by decide) (by decide) rfl (va_recv hK hP (ci := 0) (q0 := 0) rfl rfl) rfl hl.1 rfl (Nat.le_of_ble_eq_true rfl) dX0_sum_37 ⟨Nat.zero_le _, Nat.zero_le _⟩ (fun H9 locs9 hP hD hS => ?_)
    have hP : va_P (dC, dI) vwCl [(h0, .inr (0, [.ref h_f, .int q5.2.2.1, .int q5.2.2.2])), (h_f, .inl (cA_f, 8, .inr (.inl q5.2.1)))] _ := hP
    have hD : va_D A [(h0, .inr (0, [.ref h_f, .int q5.2.2.1, .int q5.2.2.2])), (h_f, .inl (cA_f, 8, .inr (.inl q5.2.1)))] := hD
    exact W.iret (v := q5.1) hx hb hr (fun t ht hW => ⟨⟨_, (q5.2.1, q5.2.2.1, q5.2.2.2), rfl, hF.symm, by rw [ht]; exact hP, hD⟩, hS.F ht⟩) hS.2.2 dX0_sum_40
  · replace hF := xj_f hF c2
    refine lv_iload hx hb dX0_sum_16 (lv_at hl 0 rfl) ?_
    refine lv_goto (tgt := 40) hx hb dX0_sum_18 (by decide) ?_
    exact W.iret (v := y1) hx hb hr (fun t ht hW => ⟨⟨_, (f, u, o), rfl, hF.symm, by rw [ht]; exact hP, hD⟩, hS.F ht⟩) hS.2.2 dX0_sum_40
def mf_X0_less (f : Nat → Int64) (u : Int32) (o : Int32) (p1 : Int32) (p2 : Int32) (p3 : Int32) (p4 : Int32) : Int32 × (Nat → Int64) × Int32 × Int32 := (xj_bnd (mf_X0_refusalOf f u o p1 p2 p3 p4) (fun y1 => (if y1 = 0 then (xj_bnd (mf_X0_valueIn f u o p1 p3) (fun y3 => (xj_bnd (mf_X0_valueIn f u o p1 p2) (fun y4 => (xj_bnd (mf_X0_storeSum f u o p1 p4 y3 (-y4)) (fun q5 => (q5.1, (q5.2.1, q5.2.2.1, q5.2.2.2)))))))) else (y1, (f, u, o)))))
set_option maxHeartbeats 4000000 in
set_option maxRecDepth 100000 in
theorem mc_X0_less (l : Launch) (dC : Nat → ClassId) (dI : Nat → Nat → Nat) (h0 h_f : Nat) (cA_f : ClassId) (f : Nat → Int64) (u : Int32) (o : Int32) (p1 : Int32) (p2 : Int32) (p3 : Int32) (p4 : Int32) : xj_Oi l (dC, dI) vwCl [(cA_f, .long)] (mw_X0 h0 h_f cA_f) yX0_less wsX0_less ({ frames := 4, cells := 0, slots := 0, locals := 118 }) [.ref h0, .int p1, .int p2, .int p3, .int p4] (f, u, o) (mf_X0_less f u o p1 p2 p3 p4) := by
  intro sz
  refine Met.ofW (cc := cX0_less) (maxL := 6) (ret := (some .int)) (by decide) rfl ?_
  intro p e s m args below meth c s₁ B hml hv
  obtain ⟨rfl, hsz, hP, hK, hD0⟩ := hv
  have hx := B.exec
  have hb := B.bytes
  have hr := B.returns
  have hts := atoms_spec (ws := wsX0_less) B.pre
  have hown : s.vm.findClass RX0 = some m.cls := findClass_of_methodNamed B.named
  have hlocks := B.notSynchronized
  subst hsz
  have hD := hD0.self (sz := s.heap.size)
  generalize hAe : va_A (mw_X0 h0 h_f cA_f (f, u, o)) s.heap.size = A at hD ⊢
  have hA : ∀ q : Nat, s.heap.size ≤ q → A q := fun q h => by rw [← hAe]; exact Or.inr h
  have hS : va_S A s.heap s.heap [] := va_S.rf
  have hP : va_P (dC, dI) vwCl [(h0, .inr (0, [.ref h_f, .int u, .int o])), (h_f, .inl (cA_f, 8, .inr (.inl f)))] s.heap := hP
  have hD : va_D A [(h0, .inr (0, [.ref h_f, .int u, .int o])), (h_f, .inl (cA_f, 8, .inr (.inl f)))] := hD
  generalize hT : mf_X0_less f u o p1 p2 p3 p4 = T
  have hF := hT.symm
  unfold mf_X0_less at hF
  have hl := lv_entry ([.ref h0, .int p1, .int p2, .int p3, .int p4]) (n := 6) (Nat.le_of_ble_eq_true rfl)
  rw [lg_entry_eq]
  generalize (lg_sl ([.ref h0, .int p1, .int p2, .int p3, .int p4]) ++ List.replicate (6 - (lg_sl ([.ref h0, .int p1, .int p2, .int p3, .int p4])).length) Slot.unset).toArray = ls at hl ⊢
  have hl : lv_has ls 6 [(0, .ref h0), (1, .int p1), (2, .int p2), (3, .int p3), (4, .int p4)] := hl
  refine lv_aload_n hx hb dX0_less_0 rfl (lv_at hl 0 rfl) ?_
  refine lv_iload_n hx hb dX0_less_1 rfl (lv_at hl 1 rfl) ?_
  refine lv_iload_n hx hb dX0_less_2 rfl (lv_at hl 2 rfl) ?_
  refine lv_iload_n hx hb dX0_less_3 rfl (lv_at hl 3 rfl) ?_
  refine lv_iload hx hb dX0_less_4 (lv_at hl 4 rfl) ?_
  refine xj_vi (As := [.int p1, .int p2, .int p3, .int p4]) (rest := []) (Wd := mw_X0 h0 h_f cA_f) (wr := []) ⟨hx, hb, hml, hown, hts⟩ (mc_X0_refusalOf l dC dI h0 h_f cA_f f u o p1 p2 p3 p4) (cwV 4 hts gX0_less_X0_refusalOf rfl rfl rfl (by decide +kernel) ⟨Nat.le_of_ble_eq_true rfl, Nat.le_of_ble_eq_true rfl⟩) hP hK hD hS hA [0, 1] [] [0] rfl (by decide) rfl (by decide) (by decide) rfl (va_recv hK hP (ci := 0) (q0 := 0) rfl rfl) rfl hl.1 rfl (Nat.le_of_ble_eq_true rfl) dX0_less_6 ⟨Nat.zero_le _, Nat.zero_le _⟩ (fun H9 locs9 hP hD hS => ?_)
  have hP : va_P (dC, dI) vwCl [(h0, .inr (0, [.ref h_f, .int u, .int o])), (h_f, .inl (cA_f, 8, .inr (.inl f)))] _ := hP
  have hD : va_D A [(h0, .inr (0, [.ref h_f, .int u, .int o])), (h_f, .inl (cA_f, 8, .inr (.inl f)))] := hD
  refine lv_topi (fun y1 ey1 => ?_)
  replace hF := xj_bz hF ey1
  refine lv_istore (lv' := [(5, .int y1), (0, .ref h0), (1, .int p1), (2, .int p2), (3, .int p3), (4, .int p4)]) hx hb dX0_less_9 hl (by decide) rfl (fun ls hl => ?_)
  refine lv_iload hx hb dX0_less_11 (lv_at hl 0 rfl) ?_
  refine lv_if_eq (tgt := 21) hx hb dX0_less_13 (by decide) (fun c2 => ?_) (fun c2 => ?_)
  · replace hF := xj_t hF c2
    refine lv_aload_n hx hb dX0_less_21 rfl (lv_at hl 1 rfl) ?_
    refine lv_iload_n hx hb dX0_less_22 rfl (lv_at hl 2 rfl) ?_
    refine lv_iload hx hb dX0_less_23 (lv_at hl 5 rfl) ?_
    refine lv_aload_n hx hb dX0_less_25 rfl (lv_at hl 1 rfl) ?_
    refine lv_iload_n hx hb dX0_less_26 rfl (lv_at hl 2 rfl) ?_
    refine lv_iload_n hx hb dX0_less_27 rfl (lv_at hl 4 rfl) ?_
    refine xj_vl (As := [.int p1, .int p3]) (rest := [.int p4, .int p1, .ref h0]) (Wd := mw_X0 h0 h_f cA_f) (wr := []) ⟨hx, hb, hml, hown, hts⟩ (mc_X0_valueIn l dC dI h0 h_f cA_f f u o p1 p3 ((mr_ref (ey1.symm.trans c2)).2.1)) (cwV 2 hts gX0_less_X0_valueIn rfl rfl rfl (by decide +kernel) ⟨Nat.le_of_ble_eq_true rfl, Nat.le_of_ble_eq_true rfl⟩) hP hK hD hS hA [0, 1] [] [0] rfl (by decide) rfl (by decide) (by decide) rfl (va_recv hK hP (ci := 0) (q0 := 0) rfl rfl) rfl hl.1 rfl (Nat.le_of_ble_eq_true rfl) dX0_less_28 ⟨Nat.zero_le _, Nat.zero_le _⟩ (fun H9 locs9 hP hD hS => ?_)
    have hP : va_P (dC, dI) vwCl [(h0, .inr (0, [.ref h_f, .int u, .int o])), (h_f, .inl (cA_f, 8, .inr (.inl f)))] _ := hP
    have hD : va_D A [(h0, .inr (0, [.ref h_f, .int u, .int o])), (h_f, .inl (cA_f, 8, .inr (.inl f)))] := hD
    refine lv_topl (fun y3 ey3 => ?_)
    replace hF := xj_bz hF ey3
    refine lv_aload_n hx hb dX0_less_31 rfl (lv_at hl 1 rfl) ?_
    refine lv_iload_n hx hb dX0_less_32 rfl (lv_at hl 2 rfl) ?_
    refine lv_iload_n hx hb dX0_less_33 rfl (lv_at hl 3 rfl) ?_
    refine xj_vl (As := [.int p1, .int p2]) (rest := [.long y3, .int p4, .int p1, .ref h0]) (Wd := mw_X0 h0 h_f cA_f) (wr := []) ⟨hx, hb, hml, hown, hts⟩ (mc_X0_valueIn l dC dI h0 h_f cA_f f u o p1 p2 ((mr_ref (ey1.symm.trans c2)).1)) (cwV 2 hts gX0_less_X0_valueIn rfl rfl rfl (by decide +kernel) ⟨Nat.le_of_ble_eq_true rfl, Nat.le_of_ble_eq_true rfl⟩) hP hK hD hS hA [0, 1] [] [0] rfl (by decide) rfl (by decide) (by decide) rfl (va_recv hK hP (ci := 0) (q0 := 0) rfl rfl) rfl hl.1 rfl (Nat.le_of_ble_eq_true rfl) dX0_less_34 ⟨Nat.zero_le _, Nat.zero_le _⟩ (fun H9 locs9 hP hD hS => ?_)
    have hP : va_P (dC, dI) vwCl [(h0, .inr (0, [.ref h_f, .int u, .int o])), (h_f, .inl (cA_f, 8, .inr (.inl f)))] _ := hP
    have hD : va_D A [(h0, .inr (0, [.ref h_f, .int u, .int o])), (h_f, .inl (cA_f, 8, .inr (.inl f)))] := hD
    refine lv_topl (fun y4 ey4 => ?_)
    replace hF := xj_bz hF ey4
    refine lv_lneg hx hb dX0_less_37 ?_
    obtain ⟨q5, eq5⟩ : ∃ z : Int32 × (Nat → Int64) × Int32 × Int32, z = (mf_X0_storeSum f u o p1 p4 y3 (-y4)) := ⟨_, rfl⟩
    replace hF := xj_bz hF eq5
    refine xj_vi (r := q5) (As := [.int p1, .int p4, .long y3, .long (-y4)]) (rest := []) (Wd := mw_X0 h0 h_f cA_f) (wr := []) ⟨hx, hb, hml, hown, hts⟩ (by rw [eq5]; exact mc_X0_storeSum l dC dI h0 h_f cA_f f u o p1 p4 y3 (-y4) ((mr_ref (ey1.symm.trans c2)).2.2)) (cwV 4 hts gX0_less_X0_storeSum rfl rfl rfl (by decide +kernel) ⟨Nat.le_of_ble_eq_true rfl, Nat.le_of_ble_eq_true rfl⟩) hP hK hD hS hA [0, 1] [] [0] rfl (by decide) rfl (by decide) (by decide) rfl (va_recv hK hP (ci := 0) (q0 := 0) rfl rfl) rfl hl.1 rfl (Nat.le_of_ble_eq_true rfl) dX0_less_38 ⟨Nat.zero_le _, Nat.zero_le _⟩ (fun H9 locs9 hP hD hS => ?_)
    have hP : va_P (dC, dI) vwCl [(h0, .inr (0, [.ref h_f, .int q5.2.2.1, .int q5.2.2.2])), (h_f, .inl (cA_f, 8, .inr (.inl q5.2.1)))] _ := hP
    have hD : va_D A [(h0, .inr (0, [.ref h_f, .int q5.2.2.1, .int q5.2.2.2])), (h_f, .inl (cA_f, 8, .inr (.inl q5.2.1)))] := hD
    exact W.iret (v := q5.1) hx hb hr (fun t ht hW => ⟨⟨_, (q5.2.1, q5.2.2.1, q5.2.2.2), rfl, hF.symm, by rw [ht]; exact hP, hD⟩, hS.F ht⟩) hS.2.2 dX0_less_41
  · replace hF := xj_f hF c2
    refine lv_iload hx hb dX0_less_16 (lv_at hl 0 rfl) ?_
    refine lv_goto (tgt := 41) hx hb dX0_less_18 (by decide) ?_
    exact W.iret (v := y1) hx hb hr (fun t ht hW => ⟨⟨_, (f, u, o), rfl, hF.symm, by rw [ht]; exact hP, hD⟩, hS.F ht⟩) hS.2.2 dX0_less_41
def mf_X0_product (f : Nat → Int64) (u : Int32) (o : Int32) (p1 : Int32) (p2 : Int32) (p3 : Int32) (p4 : Int32) : Int32 × (Nat → Int64) × Int32 × Int32 := (xj_bnd (mf_X0_refusalOf f u o p1 p2 p3 p4) (fun y1 => (if y1 = 0 then (xj_bnd (mf_X0_valueIn f u o p1 p2) (fun y3 => (xj_bnd (mf_X0_valueIn f u o p1 p3) (fun y4 => (xj_bnd (mf_X0_storeProduct f u o p1 p4 y3 y4) (fun q5 => (q5.1, (q5.2.1, q5.2.2.1, q5.2.2.2)))))))) else (y1, (f, u, o)))))
set_option maxHeartbeats 4000000 in
set_option maxRecDepth 100000 in
theorem mc_X0_product (l : Launch) (dC : Nat → ClassId) (dI : Nat → Nat → Nat) (h0 h_f : Nat) (cA_f : ClassId) (f : Nat → Int64) (u : Int32) (o : Int32) (p1 : Int32) (p2 : Int32) (p3 : Int32) (p4 : Int32) : xj_Oi l (dC, dI) vwCl [(cA_f, .long)] (mw_X0 h0 h_f cA_f) yX0_product wsX0_product ({ frames := 3, cells := 0, slots := 0, locals := 82 }) [.ref h0, .int p1, .int p2, .int p3, .int p4] (f, u, o) (mf_X0_product f u o p1 p2 p3 p4) := by
  intro sz
  refine Met.ofW (cc := cX0_product) (maxL := 6) (ret := (some .int)) (by decide) rfl ?_
  intro p e s m args below meth c s₁ B hml hv
  obtain ⟨rfl, hsz, hP, hK, hD0⟩ := hv
  have hx := B.exec
  have hb := B.bytes
  have hr := B.returns
  have hts := atoms_spec (ws := wsX0_product) B.pre
  have hown : s.vm.findClass RX0 = some m.cls := findClass_of_methodNamed B.named
  have hlocks := B.notSynchronized
  subst hsz
  have hD := hD0.self (sz := s.heap.size)
  generalize hAe : va_A (mw_X0 h0 h_f cA_f (f, u, o)) s.heap.size = A at hD ⊢
  have hA : ∀ q : Nat, s.heap.size ≤ q → A q := fun q h => by rw [← hAe]; exact Or.inr h
  have hS : va_S A s.heap s.heap [] := va_S.rf
  have hP : va_P (dC, dI) vwCl [(h0, .inr (0, [.ref h_f, .int u, .int o])), (h_f, .inl (cA_f, 8, .inr (.inl f)))] s.heap := hP
  have hD : va_D A [(h0, .inr (0, [.ref h_f, .int u, .int o])), (h_f, .inl (cA_f, 8, .inr (.inl f)))] := hD
  generalize hT : mf_X0_product f u o p1 p2 p3 p4 = T
  have hF := hT.symm
  unfold mf_X0_product at hF
  have hl := lv_entry ([.ref h0, .int p1, .int p2, .int p3, .int p4]) (n := 6) (Nat.le_of_ble_eq_true rfl)
  rw [lg_entry_eq]
  generalize (lg_sl ([.ref h0, .int p1, .int p2, .int p3, .int p4]) ++ List.replicate (6 - (lg_sl ([.ref h0, .int p1, .int p2, .int p3, .int p4])).length) Slot.unset).toArray = ls at hl ⊢
  have hl : lv_has ls 6 [(0, .ref h0), (1, .int p1), (2, .int p2), (3, .int p3), (4, .int p4)] := hl
  refine lv_aload_n hx hb dX0_product_0 rfl (lv_at hl 0 rfl) ?_
  refine lv_iload_n hx hb dX0_product_1 rfl (lv_at hl 1 rfl) ?_
  refine lv_iload_n hx hb dX0_product_2 rfl (lv_at hl 2 rfl) ?_
  refine lv_iload_n hx hb dX0_product_3 rfl (lv_at hl 3 rfl) ?_
  refine lv_iload hx hb dX0_product_4 (lv_at hl 4 rfl) ?_
  refine xj_vi (As := [.int p1, .int p2, .int p3, .int p4]) (rest := []) (Wd := mw_X0 h0 h_f cA_f) (wr := []) ⟨hx, hb, hml, hown, hts⟩ (mc_X0_refusalOf l dC dI h0 h_f cA_f f u o p1 p2 p3 p4) (cwV 4 hts gX0_product_X0_refusalOf rfl rfl rfl (by decide +kernel) ⟨Nat.le_of_ble_eq_true rfl, Nat.le_of_ble_eq_true rfl⟩) hP hK hD hS hA [0, 1] [] [0] rfl (by decide) rfl (by decide) (by decide) rfl (va_recv hK hP (ci := 0) (q0 := 0) rfl rfl) rfl hl.1 rfl (Nat.le_of_ble_eq_true rfl) dX0_product_6 ⟨Nat.zero_le _, Nat.zero_le _⟩ (fun H9 locs9 hP hD hS => ?_)
  have hP : va_P (dC, dI) vwCl [(h0, .inr (0, [.ref h_f, .int u, .int o])), (h_f, .inl (cA_f, 8, .inr (.inl f)))] _ := hP
  have hD : va_D A [(h0, .inr (0, [.ref h_f, .int u, .int o])), (h_f, .inl (cA_f, 8, .inr (.inl f)))] := hD
  refine lv_topi (fun y1 ey1 => ?_)
  replace hF := xj_bz hF ey1
  refine lv_istore (lv' := [(5, .int y1), (0, .ref h0), (1, .int p1), (2, .int p2), (3, .int p3), (4, .int p4)]) hx hb dX0_product_9 hl (by decide) rfl (fun ls hl => ?_)
  refine lv_iload hx hb dX0_product_11 (lv_at hl 0 rfl) ?_
  refine lv_if_eq (tgt := 21) hx hb dX0_product_13 (by decide) (fun c2 => ?_) (fun c2 => ?_)
  · replace hF := xj_t hF c2
    refine lv_aload_n hx hb dX0_product_21 rfl (lv_at hl 1 rfl) ?_
    refine lv_iload_n hx hb dX0_product_22 rfl (lv_at hl 2 rfl) ?_
    refine lv_iload hx hb dX0_product_23 (lv_at hl 5 rfl) ?_
    refine lv_aload_n hx hb dX0_product_25 rfl (lv_at hl 1 rfl) ?_
    refine lv_iload_n hx hb dX0_product_26 rfl (lv_at hl 2 rfl) ?_
    refine lv_iload_n hx hb dX0_product_27 rfl (lv_at hl 3 rfl) ?_
    refine xj_vl (As := [.int p1, .int p2]) (rest := [.int p4, .int p1, .ref h0]) (Wd := mw_X0 h0 h_f cA_f) (wr := []) ⟨hx, hb, hml, hown, hts⟩ (mc_X0_valueIn l dC dI h0 h_f cA_f f u o p1 p2 ((mr_ref (ey1.symm.trans c2)).1)) (cwV 2 hts gX0_product_X0_valueIn rfl rfl rfl (by decide +kernel) ⟨Nat.le_of_ble_eq_true rfl, Nat.le_of_ble_eq_true rfl⟩) hP hK hD hS hA [0, 1] [] [0] rfl (by decide) rfl (by decide) (by decide) rfl (va_recv hK hP (ci := 0) (q0 := 0) rfl rfl) rfl hl.1 rfl (Nat.le_of_ble_eq_true rfl) dX0_product_28 ⟨Nat.zero_le _, Nat.zero_le _⟩ (fun H9 locs9 hP hD hS => ?_)
    have hP : va_P (dC, dI) vwCl [(h0, .inr (0, [.ref h_f, .int u, .int o])), (h_f, .inl (cA_f, 8, .inr (.inl f)))] _ := hP
    have hD : va_D A [(h0, .inr (0, [.ref h_f, .int u, .int o])), (h_f, .inl (cA_f, 8, .inr (.inl f)))] := hD
    refine lv_topl (fun y3 ey3 => ?_)
    replace hF := xj_bz hF ey3
    refine lv_aload_n hx hb dX0_product_31 rfl (lv_at hl 1 rfl) ?_
    refine lv_iload_n hx hb dX0_product_32 rfl (lv_at hl 2 rfl) ?_
    refine lv_iload_n hx hb dX0_product_33 rfl (lv_at hl 4 rfl) ?_
    refine xj_vl (As := [.int p1, .int p3]) (rest := [.long y3, .int p4, .int p1, .ref h0]) (Wd := mw_X0 h0 h_f cA_f) (wr := []) ⟨hx, hb, hml, hown, hts⟩ (mc_X0_valueIn l dC dI h0 h_f cA_f f u o p1 p3 ((mr_ref (ey1.symm.trans c2)).2.1)) (cwV 2 hts gX0_product_X0_valueIn rfl rfl rfl (by decide +kernel) ⟨Nat.le_of_ble_eq_true rfl, Nat.le_of_ble_eq_true rfl⟩) hP hK hD hS hA [0, 1] [] [0] rfl (by decide) rfl (by decide) (by decide) rfl (va_recv hK hP (ci := 0) (q0 := 0) rfl rfl) rfl hl.1 rfl (Nat.le_of_ble_eq_true rfl) dX0_product_34 ⟨Nat.zero_le _, Nat.zero_le _⟩ (fun H9 locs9 hP hD hS => ?_)
    have hP : va_P (dC, dI) vwCl [(h0, .inr (0, [.ref h_f, .int u, .int o])), (h_f, .inl (cA_f, 8, .inr (.inl f)))] _ := hP
    have hD : va_D A [(h0, .inr (0, [.ref h_f, .int u, .int o])), (h_f, .inl (cA_f, 8, .inr (.inl f)))] := hD
    refine lv_topl (fun y4 ey4 => ?_)
    replace hF := xj_bz hF ey4
    obtain ⟨q5, eq5⟩ : ∃ z : Int32 × (Nat → Int64) × Int32 × Int32, z = (mf_X0_storeProduct f u o p1 p4 y3 y4) := ⟨_, rfl⟩
    replace hF := xj_bz hF eq5
    refine xj_vi (r := q5) (As := [.int p1, .int p4, .long y3, .long y4]) (rest := []) (Wd := mw_X0 h0 h_f cA_f) (wr := []) ⟨hx, hb, hml, hown, hts⟩ (by rw [eq5]; exact mc_X0_storeProduct l dC dI h0 h_f cA_f f u o p1 p4 y3 y4 ((mr_ref (ey1.symm.trans c2)).2.2)) (cwV 4 hts gX0_product_X0_storeProduct rfl rfl rfl (by decide +kernel) ⟨Nat.le_of_ble_eq_true rfl, Nat.le_of_ble_eq_true rfl⟩) hP hK hD hS hA [0, 1] [] [0] rfl (by decide) rfl (by decide) (by decide) rfl (va_recv hK hP (ci := 0) (q0 := 0) rfl rfl) rfl hl.1 rfl (Nat.le_of_ble_eq_true rfl) dX0_product_37 ⟨Nat.zero_le _, Nat.zero_le _⟩ (fun H9 locs9 hP hD hS => ?_)
    have hP : va_P (dC, dI) vwCl [(h0, .inr (0, [.ref h_f, .int q5.2.2.1, .int q5.2.2.2])), (h_f, .inl (cA_f, 8, .inr (.inl q5.2.1)))] _ := hP
    have hD : va_D A [(h0, .inr (0, [.ref h_f, .int q5.2.2.1, .int q5.2.2.2])), (h_f, .inl (cA_f, 8, .inr (.inl q5.2.1)))] := hD
    exact W.iret (v := q5.1) hx hb hr (fun t ht hW => ⟨⟨_, (q5.2.1, q5.2.2.1, q5.2.2.2), rfl, hF.symm, by rw [ht]; exact hP, hD⟩, hS.F ht⟩) hS.2.2 dX0_product_40
  · replace hF := xj_f hF c2
    refine lv_iload hx hb dX0_product_16 (lv_at hl 0 rfl) ?_
    refine lv_goto (tgt := 40) hx hb dX0_product_18 (by decide) ?_
    exact W.iret (v := y1) hx hb hr (fun t ht hW => ⟨⟨_, (f, u, o), rfl, hF.symm, by rw [ht]; exact hP, hD⟩, hS.F ht⟩) hS.2.2 dX0_product_40
def mf_X0_quotient (f : Nat → Int64) (u : Int32) (o : Int32) (p1 : Int32) (p2 : Int32) (p3 : Int32) (p4 : Int32) : Int32 × (Nat → Int64) × Int32 × Int32 := (xj_bnd (mf_X0_refusalOf f u o p1 p2 p3 p4) (fun y1 => (if y1 = 0 then (xj_bnd (mf_X0_valueIn f u o p1 p2) (fun y3 => (if y3 = (0 : Int64) then ((-4 : Int32), (f, u, o)) else (xj_bnd (mf_X0_valueIn f u o p1 p3) (fun y5 => (xj_bnd (mf_X0_storeQuotient f u o p1 p4 y5 y3) (fun q6 => (q6.1, (q6.2.1, q6.2.2.1, q6.2.2.2))))))))) else (y1, (f, u, o)))))
set_option maxHeartbeats 4000000 in
set_option maxRecDepth 100000 in
theorem mc_X0_quotient (l : Launch) (dC : Nat → ClassId) (dI : Nat → Nat → Nat) (h0 h_f : Nat) (cA_f : ClassId) (f : Nat → Int64) (u : Int32) (o : Int32) (p1 : Int32) (p2 : Int32) (p3 : Int32) (p4 : Int32) : xj_Oi l (dC, dI) vwCl [(cA_f, .long)] (mw_X0 h0 h_f cA_f) yX0_quotient wsX0_quotient ({ frames := 3, cells := 0, slots := 0, locals := 83 }) [.ref h0, .int p1, .int p2, .int p3, .int p4] (f, u, o) (mf_X0_quotient f u o p1 p2 p3 p4) := by
  intro sz
  refine Met.ofW (cc := cX0_quotient) (maxL := 8) (ret := (some .int)) (by decide) rfl ?_
  intro p e s m args below meth c s₁ B hml hv
  obtain ⟨rfl, hsz, hP, hK, hD0⟩ := hv
  have hx := B.exec
  have hb := B.bytes
  have hr := B.returns
  have hts := atoms_spec (ws := wsX0_quotient) B.pre
  have hown : s.vm.findClass RX0 = some m.cls := findClass_of_methodNamed B.named
  have hlocks := B.notSynchronized
  subst hsz
  have hD := hD0.self (sz := s.heap.size)
  generalize hAe : va_A (mw_X0 h0 h_f cA_f (f, u, o)) s.heap.size = A at hD ⊢
  have hA : ∀ q : Nat, s.heap.size ≤ q → A q := fun q h => by rw [← hAe]; exact Or.inr h
  have hS : va_S A s.heap s.heap [] := va_S.rf
  have hP : va_P (dC, dI) vwCl [(h0, .inr (0, [.ref h_f, .int u, .int o])), (h_f, .inl (cA_f, 8, .inr (.inl f)))] s.heap := hP
  have hD : va_D A [(h0, .inr (0, [.ref h_f, .int u, .int o])), (h_f, .inl (cA_f, 8, .inr (.inl f)))] := hD
  generalize hT : mf_X0_quotient f u o p1 p2 p3 p4 = T
  have hF := hT.symm
  unfold mf_X0_quotient at hF
  have hl := lv_entry ([.ref h0, .int p1, .int p2, .int p3, .int p4]) (n := 8) (Nat.le_of_ble_eq_true rfl)
  rw [lg_entry_eq]
  generalize (lg_sl ([.ref h0, .int p1, .int p2, .int p3, .int p4]) ++ List.replicate (8 - (lg_sl ([.ref h0, .int p1, .int p2, .int p3, .int p4])).length) Slot.unset).toArray = ls at hl ⊢
  have hl : lv_has ls 8 [(0, .ref h0), (1, .int p1), (2, .int p2), (3, .int p3), (4, .int p4)] := hl
  refine lv_aload_n hx hb dX0_quotient_0 rfl (lv_at hl 0 rfl) ?_
  refine lv_iload_n hx hb dX0_quotient_1 rfl (lv_at hl 1 rfl) ?_
  refine lv_iload_n hx hb dX0_quotient_2 rfl (lv_at hl 2 rfl) ?_
  refine lv_iload_n hx hb dX0_quotient_3 rfl (lv_at hl 3 rfl) ?_
  refine lv_iload hx hb dX0_quotient_4 (lv_at hl 4 rfl) ?_
  refine xj_vi (As := [.int p1, .int p2, .int p3, .int p4]) (rest := []) (Wd := mw_X0 h0 h_f cA_f) (wr := []) ⟨hx, hb, hml, hown, hts⟩ (mc_X0_refusalOf l dC dI h0 h_f cA_f f u o p1 p2 p3 p4) (cwV 4 hts gX0_quotient_X0_refusalOf rfl rfl rfl (by decide +kernel) ⟨Nat.le_of_ble_eq_true rfl, Nat.le_of_ble_eq_true rfl⟩) hP hK hD hS hA [0, 1] [] [0] rfl (by decide) rfl (by decide) (by decide) rfl (va_recv hK hP (ci := 0) (q0 := 0) rfl rfl) rfl hl.1 rfl (Nat.le_of_ble_eq_true rfl) dX0_quotient_6 ⟨Nat.zero_le _, Nat.zero_le _⟩ (fun H9 locs9 hP hD hS => ?_)
  have hP : va_P (dC, dI) vwCl [(h0, .inr (0, [.ref h_f, .int u, .int o])), (h_f, .inl (cA_f, 8, .inr (.inl f)))] _ := hP
  have hD : va_D A [(h0, .inr (0, [.ref h_f, .int u, .int o])), (h_f, .inl (cA_f, 8, .inr (.inl f)))] := hD
  refine lv_topi (fun y1 ey1 => ?_)
  replace hF := xj_bz hF ey1
  refine lv_istore (lv' := [(5, .int y1), (0, .ref h0), (1, .int p1), (2, .int p2), (3, .int p3), (4, .int p4)]) hx hb dX0_quotient_9 hl (by decide) rfl (fun ls hl => ?_)
  refine lv_iload hx hb dX0_quotient_11 (lv_at hl 0 rfl) ?_
  refine lv_if_eq (tgt := 19) hx hb dX0_quotient_13 (by decide) (fun c2 => ?_) (fun c2 => ?_)
  · replace hF := xj_t hF c2
    refine lv_aload_n hx hb dX0_quotient_19 rfl (lv_at hl 1 rfl) ?_
    refine lv_iload_n hx hb dX0_quotient_20 rfl (lv_at hl 2 rfl) ?_
    refine lv_iload_n hx hb dX0_quotient_21 rfl (lv_at hl 3 rfl) ?_
    refine xj_vl (As := [.int p1, .int p2]) (rest := []) (Wd := mw_X0 h0 h_f cA_f) (wr := []) ⟨hx, hb, hml, hown, hts⟩ (mc_X0_valueIn l dC dI h0 h_f cA_f f u o p1 p2 ((mr_ref (ey1.symm.trans c2)).1)) (cwV 2 hts gX0_quotient_X0_valueIn rfl rfl rfl (by decide +kernel) ⟨Nat.le_of_ble_eq_true rfl, Nat.le_of_ble_eq_true rfl⟩) hP hK hD hS hA [0, 1] [] [0] rfl (by decide) rfl (by decide) (by decide) rfl (va_recv hK hP (ci := 0) (q0 := 0) rfl rfl) rfl hl.1 rfl (Nat.le_of_ble_eq_true rfl) dX0_quotient_22 ⟨Nat.zero_le _, Nat.zero_le _⟩ (fun H9 locs9 hP hD hS => ?_)
    have hP : va_P (dC, dI) vwCl [(h0, .inr (0, [.ref h_f, .int u, .int o])), (h_f, .inl (cA_f, 8, .inr (.inl f)))] _ := hP
    have hD : va_D A [(h0, .inr (0, [.ref h_f, .int u, .int o])), (h_f, .inl (cA_f, 8, .inr (.inl f)))] := hD
    refine lv_topl (fun y3 ey3 => ?_)
    replace hF := xj_bz hF ey3
    refine lv_lstore (lv' := [(6, .long y3), (5, .int y1), (0, .ref h0), (1, .int p1), (2, .int p2), (3, .int p3), (4, .int p4)]) hx hb dX0_quotient_25 hl (by decide) rfl (fun ls hl => ?_)
    refine lv_lload hx hb dX0_quotient_27 (lv_at hl 0 rfl) ?_
    refine lv_lconst (v := (0 : Int64)) hx hb dX0_quotient_29 (by decide) ?_
    refine xj_l_ne (tgt := 39) hx hb dX0_quotient_30 dX0_quotient_31 (by decide) (fun c4 => ?_) (fun c4 => ?_)
    · replace hF := xj_f hF c4
      refine lv_aload_n hx hb dX0_quotient_39 rfl (lv_at hl 2 rfl) ?_
      refine lv_iload_n hx hb dX0_quotient_40 rfl (lv_at hl 3 rfl) ?_
      refine lv_iload hx hb dX0_quotient_41 (lv_at hl 6 rfl) ?_
      refine lv_aload_n hx hb dX0_quotient_43 rfl (lv_at hl 2 rfl) ?_
      refine lv_iload_n hx hb dX0_quotient_44 rfl (lv_at hl 3 rfl) ?_
      refine lv_iload_n hx hb dX0_quotient_45 rfl (lv_at hl 5 rfl) ?_
      refine xj_vl (As := [.int p1, .int p3]) (rest := [.int p4, .int p1, .ref h0]) (Wd := mw_X0 h0 h_f cA_f) (wr := []) ⟨hx, hb, hml, hown, hts⟩ (mc_X0_valueIn l dC dI h0 h_f cA_f f u o p1 p3 ((mr_ref (ey1.symm.trans c2)).2.1)) (cwV 2 hts gX0_quotient_X0_valueIn rfl rfl rfl (by decide +kernel) ⟨Nat.le_of_ble_eq_true rfl, Nat.le_of_ble_eq_true rfl⟩) hP hK hD hS hA [0, 1] [] [0] rfl (by decide) rfl (by decide) (by decide) rfl (va_recv hK hP (ci := 0) (q0 := 0) rfl rfl) rfl hl.1 rfl (Nat.le_of_ble_eq_true rfl) dX0_quotient_46 ⟨Nat.zero_le _, Nat.zero_le _⟩ (fun H9 locs9 hP hD hS => ?_)
      have hP : va_P (dC, dI) vwCl [(h0, .inr (0, [.ref h_f, .int u, .int o])), (h_f, .inl (cA_f, 8, .inr (.inl f)))] _ := hP
      have hD : va_D A [(h0, .inr (0, [.ref h_f, .int u, .int o])), (h_f, .inl (cA_f, 8, .inr (.inl f)))] := hD
      refine lv_topl (fun y5 ey5 => ?_)
      replace hF := xj_bz hF ey5
      refine lv_lload hx hb dX0_quotient_49 (lv_at hl 0 rfl) ?_
      obtain ⟨q6, eq6⟩ : ∃ z : Int32 × (Nat → Int64) × Int32 × Int32, z = (mf_X0_storeQuotient f u o p1 p4 y5 y3) := ⟨_, rfl⟩
      replace hF := xj_bz hF eq6
      refine xj_vi (r := q6) (As := [.int p1, .int p4, .long y5, .long y3]) (rest := []) (Wd := mw_X0 h0 h_f cA_f) (wr := []) ⟨hx, hb, hml, hown, hts⟩ (by rw [eq6]; exact mc_X0_storeQuotient l dC dI h0 h_f cA_f f u o p1 p4 y5 y3 ((mr_ref (ey1.symm.trans c2)).2.2)) (cwV 4 hts gX0_quotient_X0_storeQuotient rfl rfl rfl (by decide +kernel) ⟨Nat.le_of_ble_eq_true rfl, Nat.le_of_ble_eq_true rfl⟩) hP hK hD hS hA [0, 1] [] [0] rfl (by decide) rfl (by decide) (by decide) rfl (va_recv hK hP (ci := 0) (q0 := 0) rfl rfl) rfl hl.1 rfl (Nat.le_of_ble_eq_true rfl) dX0_quotient_51 ⟨Nat.zero_le _, Nat.zero_le _⟩ (fun H9 locs9 hP hD hS => ?_)
      have hP : va_P (dC, dI) vwCl [(h0, .inr (0, [.ref h_f, .int q6.2.2.1, .int q6.2.2.2])), (h_f, .inl (cA_f, 8, .inr (.inl q6.2.1)))] _ := hP
      have hD : va_D A [(h0, .inr (0, [.ref h_f, .int q6.2.2.1, .int q6.2.2.2])), (h_f, .inl (cA_f, 8, .inr (.inl q6.2.1)))] := hD
      exact W.iret (v := q6.1) hx hb hr (fun t ht hW => ⟨⟨_, (q6.2.1, q6.2.2.1, q6.2.2.2), rfl, hF.symm, by rw [ht]; exact hP, hD⟩, hS.F ht⟩) hS.2.2 dX0_quotient_54
    · replace hF := xj_t hF c4
      refine lv_bipush (v := (-4 : Int32)) hx hb dX0_quotient_34 (by decide) ?_
      refine lv_goto (tgt := 54) hx hb dX0_quotient_36 (by decide) ?_
      exact W.iret (v := (-4 : Int32)) hx hb hr (fun t ht hW => ⟨⟨_, (f, u, o), rfl, hF.symm, by rw [ht]; exact hP, hD⟩, hS.F ht⟩) hS.2.2 dX0_quotient_54
  · replace hF := xj_f hF c2
    refine lv_iload hx hb dX0_quotient_16 (lv_at hl 0 rfl) ?_
    exact W.iret (v := y1) hx hb hr (fun t ht hW => ⟨⟨_, (f, u, o), rfl, hF.symm, by rw [ht]; exact hP, hD⟩, hS.F ht⟩) hS.2.2 dX0_quotient_18
def mf_X0_negative (f : Nat → Int64) (u : Int32) (o : Int32) (p1 : Int32) (p2 : Int32) (p3 : Int32) : Int32 × (Nat → Int64) × Int32 × Int32 := (xj_bnd (mf_X0_refusalOf f u o p1 p2 p2 p3) (fun y1 => (if y1 = 0 then (xj_bnd (mf_X0_valueIn f u o p1 p2) (fun y3 => (xj_bnd (mf_X0_storeValue f u o p1 p3 (-y3)) (fun q4 => (q4.1, (q4.2.1, q4.2.2.1, q4.2.2.2)))))) else (y1, (f, u, o)))))
set_option maxHeartbeats 4000000 in
set_option maxRecDepth 100000 in
theorem mc_X0_negative (l : Launch) (dC : Nat → ClassId) (dI : Nat → Nat → Nat) (h0 h_f : Nat) (cA_f : ClassId) (f : Nat → Int64) (u : Int32) (o : Int32) (p1 : Int32) (p2 : Int32) (p3 : Int32) : xj_Oi l (dC, dI) vwCl [(cA_f, .long)] (mw_X0 h0 h_f cA_f) yX0_negative wsX0_negative ({ frames := 3, cells := 0, slots := 0, locals := 78 }) [.ref h0, .int p1, .int p2, .int p3] (f, u, o) (mf_X0_negative f u o p1 p2 p3) := by
  intro sz
  refine Met.ofW (cc := cX0_negative) (maxL := 5) (ret := (some .int)) (by decide) rfl ?_
  intro p e s m args below meth c s₁ B hml hv
  obtain ⟨rfl, hsz, hP, hK, hD0⟩ := hv
  have hx := B.exec
  have hb := B.bytes
  have hr := B.returns
  have hts := atoms_spec (ws := wsX0_negative) B.pre
  have hown : s.vm.findClass RX0 = some m.cls := findClass_of_methodNamed B.named
  have hlocks := B.notSynchronized
  subst hsz
  have hD := hD0.self (sz := s.heap.size)
  generalize hAe : va_A (mw_X0 h0 h_f cA_f (f, u, o)) s.heap.size = A at hD ⊢
  have hA : ∀ q : Nat, s.heap.size ≤ q → A q := fun q h => by rw [← hAe]; exact Or.inr h
  have hS : va_S A s.heap s.heap [] := va_S.rf
  have hP : va_P (dC, dI) vwCl [(h0, .inr (0, [.ref h_f, .int u, .int o])), (h_f, .inl (cA_f, 8, .inr (.inl f)))] s.heap := hP
  have hD : va_D A [(h0, .inr (0, [.ref h_f, .int u, .int o])), (h_f, .inl (cA_f, 8, .inr (.inl f)))] := hD
  generalize hT : mf_X0_negative f u o p1 p2 p3 = T
  have hF := hT.symm
  unfold mf_X0_negative at hF
  have hl := lv_entry ([.ref h0, .int p1, .int p2, .int p3]) (n := 5) (Nat.le_of_ble_eq_true rfl)
  rw [lg_entry_eq]
  generalize (lg_sl ([.ref h0, .int p1, .int p2, .int p3]) ++ List.replicate (5 - (lg_sl ([.ref h0, .int p1, .int p2, .int p3])).length) Slot.unset).toArray = ls at hl ⊢
  have hl : lv_has ls 5 [(0, .ref h0), (1, .int p1), (2, .int p2), (3, .int p3)] := hl
  refine lv_aload_n hx hb dX0_negative_0 rfl (lv_at hl 0 rfl) ?_
  refine lv_iload_n hx hb dX0_negative_1 rfl (lv_at hl 1 rfl) ?_
  refine lv_iload_n hx hb dX0_negative_2 rfl (lv_at hl 2 rfl) ?_
  refine lv_iload_n hx hb dX0_negative_3 rfl (lv_at hl 2 rfl) ?_
  refine lv_iload_n hx hb dX0_negative_4 rfl (lv_at hl 3 rfl) ?_
  refine xj_vi (As := [.int p1, .int p2, .int p2, .int p3]) (rest := []) (Wd := mw_X0 h0 h_f cA_f) (wr := []) ⟨hx, hb, hml, hown, hts⟩ (mc_X0_refusalOf l dC dI h0 h_f cA_f f u o p1 p2 p2 p3) (cwV 4 hts gX0_negative_X0_refusalOf rfl rfl rfl (by decide +kernel) ⟨Nat.le_of_ble_eq_true rfl, Nat.le_of_ble_eq_true rfl⟩) hP hK hD hS hA [0, 1] [] [0] rfl (by decide) rfl (by decide) (by decide) rfl (va_recv hK hP (ci := 0) (q0 := 0) rfl rfl) rfl hl.1 rfl (Nat.le_of_ble_eq_true rfl) dX0_negative_5 ⟨Nat.zero_le _, Nat.zero_le _⟩ (fun H9 locs9 hP hD hS => ?_)
  have hP : va_P (dC, dI) vwCl [(h0, .inr (0, [.ref h_f, .int u, .int o])), (h_f, .inl (cA_f, 8, .inr (.inl f)))] _ := hP
  have hD : va_D A [(h0, .inr (0, [.ref h_f, .int u, .int o])), (h_f, .inl (cA_f, 8, .inr (.inl f)))] := hD
  refine lv_topi (fun y1 ey1 => ?_)
  replace hF := xj_bz hF ey1
  refine lv_istore (lv' := [(4, .int y1), (0, .ref h0), (1, .int p1), (2, .int p2), (3, .int p3)]) hx hb dX0_negative_8 hl (by decide) rfl (fun ls hl => ?_)
  refine lv_iload hx hb dX0_negative_10 (lv_at hl 0 rfl) ?_
  refine lv_if_eq (tgt := 20) hx hb dX0_negative_12 (by decide) (fun c2 => ?_) (fun c2 => ?_)
  · replace hF := xj_t hF c2
    refine lv_aload_n hx hb dX0_negative_20 rfl (lv_at hl 1 rfl) ?_
    refine lv_iload_n hx hb dX0_negative_21 rfl (lv_at hl 2 rfl) ?_
    refine lv_iload_n hx hb dX0_negative_22 rfl (lv_at hl 4 rfl) ?_
    refine lv_aload_n hx hb dX0_negative_23 rfl (lv_at hl 1 rfl) ?_
    refine lv_iload_n hx hb dX0_negative_24 rfl (lv_at hl 2 rfl) ?_
    refine lv_iload_n hx hb dX0_negative_25 rfl (lv_at hl 3 rfl) ?_
    refine xj_vl (As := [.int p1, .int p2]) (rest := [.int p3, .int p1, .ref h0]) (Wd := mw_X0 h0 h_f cA_f) (wr := []) ⟨hx, hb, hml, hown, hts⟩ (mc_X0_valueIn l dC dI h0 h_f cA_f f u o p1 p2 ((mr_ref (ey1.symm.trans c2)).1)) (cwV 2 hts gX0_negative_X0_valueIn rfl rfl rfl (by decide +kernel) ⟨Nat.le_of_ble_eq_true rfl, Nat.le_of_ble_eq_true rfl⟩) hP hK hD hS hA [0, 1] [] [0] rfl (by decide) rfl (by decide) (by decide) rfl (va_recv hK hP (ci := 0) (q0 := 0) rfl rfl) rfl hl.1 rfl (Nat.le_of_ble_eq_true rfl) dX0_negative_26 ⟨Nat.zero_le _, Nat.zero_le _⟩ (fun H9 locs9 hP hD hS => ?_)
    have hP : va_P (dC, dI) vwCl [(h0, .inr (0, [.ref h_f, .int u, .int o])), (h_f, .inl (cA_f, 8, .inr (.inl f)))] _ := hP
    have hD : va_D A [(h0, .inr (0, [.ref h_f, .int u, .int o])), (h_f, .inl (cA_f, 8, .inr (.inl f)))] := hD
    refine lv_topl (fun y3 ey3 => ?_)
    replace hF := xj_bz hF ey3
    refine lv_lneg hx hb dX0_negative_29 ?_
    obtain ⟨q4, eq4⟩ : ∃ z : Int32 × (Nat → Int64) × Int32 × Int32, z = (mf_X0_storeValue f u o p1 p3 (-y3)) := ⟨_, rfl⟩
    replace hF := xj_bz hF eq4
    refine xj_vi (r := q4) (As := [.int p1, .int p3, .long (-y3)]) (rest := []) (Wd := mw_X0 h0 h_f cA_f) (wr := []) ⟨hx, hb, hml, hown, hts⟩ (by rw [eq4]; exact mc_X0_storeValue l dC dI h0 h_f cA_f f u o p1 p3 (-y3) ((mr_ref (ey1.symm.trans c2)).2.2)) (cwV 3 hts gX0_negative_X0_storeValue rfl rfl rfl (by decide +kernel) ⟨Nat.le_of_ble_eq_true rfl, Nat.le_of_ble_eq_true rfl⟩) hP hK hD hS hA [0, 1] [] [0] rfl (by decide) rfl (by decide) (by decide) rfl (va_recv hK hP (ci := 0) (q0 := 0) rfl rfl) rfl hl.1 rfl (Nat.le_of_ble_eq_true rfl) dX0_negative_30 ⟨Nat.zero_le _, Nat.zero_le _⟩ (fun H9 locs9 hP hD hS => ?_)
    have hP : va_P (dC, dI) vwCl [(h0, .inr (0, [.ref h_f, .int q4.2.2.1, .int q4.2.2.2])), (h_f, .inl (cA_f, 8, .inr (.inl q4.2.1)))] _ := hP
    have hD : va_D A [(h0, .inr (0, [.ref h_f, .int q4.2.2.1, .int q4.2.2.2])), (h_f, .inl (cA_f, 8, .inr (.inl q4.2.1)))] := hD
    exact W.iret (v := q4.1) hx hb hr (fun t ht hW => ⟨⟨_, (q4.2.1, q4.2.2.1, q4.2.2.2), rfl, hF.symm, by rw [ht]; exact hP, hD⟩, hS.F ht⟩) hS.2.2 dX0_negative_33
  · replace hF := xj_f hF c2
    refine lv_iload hx hb dX0_negative_15 (lv_at hl 0 rfl) ?_
    refine lv_goto (tgt := 33) hx hb dX0_negative_17 (by decide) ?_
    exact W.iret (v := y1) hx hb hr (fun t ht hW => ⟨⟨_, (f, u, o), rfl, hF.symm, by rw [ht]; exact hP, hD⟩, hS.F ht⟩) hS.2.2 dX0_negative_33
def mf_X0_compare (f : Nat → Int64) (u : Int32) (o : Int32) (p1 : Int32) (p2 : Int32) (p3 : Int32) : Int32 := (xj_bnd (mf_X0_refusalOf f u o p1 p2 p3 p2) (fun y1 => (if y1 = 0 then (xj_bnd (mf_X0_valueIn f u o p1 p2) (fun y3 => (xj_bnd (mf_X0_valueIn f u o p1 p3) (fun y4 => (xj_bnd (mf_J13_compare_74951 y3 y4) (fun y5 => (xj_bnd (mf_X0_flagsOf (Int32.toInt64 y5)) (fun y6 => y6)))))))) else y1)))
set_option maxHeartbeats 4000000 in
set_option maxRecDepth 100000 in
theorem mc_X0_compare (l : Launch) (dC : Nat → ClassId) (dI : Nat → Nat → Nat) (h0 h_f : Nat) (cA_f : ClassId) (f : Nat → Int64) (u : Int32) (o : Int32) (p1 : Int32) (p2 : Int32) (p3 : Int32) : xj_Oi l (dC, dI) vwCl [(cA_f, .long)] (mw_X0 h0 h_f cA_f) yX0_compare wsX0_compare ({ frames := 2, cells := 0, slots := 0, locals := 45 }) [.ref h0, .int p1, .int p2, .int p3] (f, u, o) (mf_X0_compare f u o p1 p2 p3, (f, u, o)) := by
  intro sz
  refine Met.ofW (cc := cX0_compare) (maxL := 5) (ret := (some .int)) (by decide) rfl ?_
  intro p e s m args below meth c s₁ B hml hv
  obtain ⟨rfl, hsz, hP, hK, hD0⟩ := hv
  have hx := B.exec
  have hb := B.bytes
  have hr := B.returns
  have hts := atoms_spec (ws := wsX0_compare) B.pre
  have hown : s.vm.findClass RX0 = some m.cls := findClass_of_methodNamed B.named
  have hlocks := B.notSynchronized
  subst hsz
  have hD := hD0.self (sz := s.heap.size)
  generalize hAe : va_A (mw_X0 h0 h_f cA_f (f, u, o)) s.heap.size = A at hD ⊢
  have hA : ∀ q : Nat, s.heap.size ≤ q → A q := fun q h => by rw [← hAe]; exact Or.inr h
  have hS : va_S A s.heap s.heap [] := va_S.rf
  have hP : va_P (dC, dI) vwCl [(h0, .inr (0, [.ref h_f, .int u, .int o])), (h_f, .inl (cA_f, 8, .inr (.inl f)))] s.heap := hP
  have hD : va_D A [(h0, .inr (0, [.ref h_f, .int u, .int o])), (h_f, .inl (cA_f, 8, .inr (.inl f)))] := hD
  generalize hT : mf_X0_compare f u o p1 p2 p3 = T
  have hF := hT.symm
  unfold mf_X0_compare at hF
  have hl := lv_entry ([.ref h0, .int p1, .int p2, .int p3]) (n := 5) (Nat.le_of_ble_eq_true rfl)
  rw [lg_entry_eq]
  generalize (lg_sl ([.ref h0, .int p1, .int p2, .int p3]) ++ List.replicate (5 - (lg_sl ([.ref h0, .int p1, .int p2, .int p3])).length) Slot.unset).toArray = ls at hl ⊢
  have hl : lv_has ls 5 [(0, .ref h0), (1, .int p1), (2, .int p2), (3, .int p3)] := hl
  refine lv_aload_n hx hb dX0_compare_0 rfl (lv_at hl 0 rfl) ?_
  refine lv_iload_n hx hb dX0_compare_1 rfl (lv_at hl 1 rfl) ?_
  refine lv_iload_n hx hb dX0_compare_2 rfl (lv_at hl 2 rfl) ?_
  refine lv_iload_n hx hb dX0_compare_3 rfl (lv_at hl 3 rfl) ?_
  refine lv_iload_n hx hb dX0_compare_4 rfl (lv_at hl 2 rfl) ?_
  refine xj_vi (As := [.int p1, .int p2, .int p3, .int p2]) (rest := []) (Wd := mw_X0 h0 h_f cA_f) (wr := []) ⟨hx, hb, hml, hown, hts⟩ (mc_X0_refusalOf l dC dI h0 h_f cA_f f u o p1 p2 p3 p2) (cwV 4 hts gX0_compare_X0_refusalOf rfl rfl rfl (by decide +kernel) ⟨Nat.le_of_ble_eq_true rfl, Nat.le_of_ble_eq_true rfl⟩) hP hK hD hS hA [0, 1] [] [0] rfl (by decide) rfl (by decide) (by decide) rfl (va_recv hK hP (ci := 0) (q0 := 0) rfl rfl) rfl hl.1 rfl (Nat.le_of_ble_eq_true rfl) dX0_compare_5 ⟨Nat.zero_le _, Nat.zero_le _⟩ (fun H9 locs9 hP hD hS => ?_)
  have hP : va_P (dC, dI) vwCl [(h0, .inr (0, [.ref h_f, .int u, .int o])), (h_f, .inl (cA_f, 8, .inr (.inl f)))] _ := hP
  have hD : va_D A [(h0, .inr (0, [.ref h_f, .int u, .int o])), (h_f, .inl (cA_f, 8, .inr (.inl f)))] := hD
  refine lv_topi (fun y1 ey1 => ?_)
  replace hF := xj_bz hF ey1
  refine lv_istore (lv' := [(4, .int y1), (0, .ref h0), (1, .int p1), (2, .int p2), (3, .int p3)]) hx hb dX0_compare_8 hl (by decide) rfl (fun ls hl => ?_)
  refine lv_iload hx hb dX0_compare_10 (lv_at hl 0 rfl) ?_
  refine lv_if_eq (tgt := 18) hx hb dX0_compare_12 (by decide) (fun c2 => ?_) (fun c2 => ?_)
  · replace hF := xj_t hF c2
    refine lv_aload_n hx hb dX0_compare_18 rfl (lv_at hl 1 rfl) ?_
    refine lv_iload_n hx hb dX0_compare_19 rfl (lv_at hl 2 rfl) ?_
    refine lv_iload_n hx hb dX0_compare_20 rfl (lv_at hl 3 rfl) ?_
    refine xj_vl (As := [.int p1, .int p2]) (rest := []) (Wd := mw_X0 h0 h_f cA_f) (wr := []) ⟨hx, hb, hml, hown, hts⟩ (mc_X0_valueIn l dC dI h0 h_f cA_f f u o p1 p2 ((mr_ref (ey1.symm.trans c2)).1)) (cwV 2 hts gX0_compare_X0_valueIn rfl rfl rfl (by decide +kernel) ⟨Nat.le_of_ble_eq_true rfl, Nat.le_of_ble_eq_true rfl⟩) hP hK hD hS hA [0, 1] [] [0] rfl (by decide) rfl (by decide) (by decide) rfl (va_recv hK hP (ci := 0) (q0 := 0) rfl rfl) rfl hl.1 rfl (Nat.le_of_ble_eq_true rfl) dX0_compare_21 ⟨Nat.zero_le _, Nat.zero_le _⟩ (fun H9 locs9 hP hD hS => ?_)
    have hP : va_P (dC, dI) vwCl [(h0, .inr (0, [.ref h_f, .int u, .int o])), (h_f, .inl (cA_f, 8, .inr (.inl f)))] _ := hP
    have hD : va_D A [(h0, .inr (0, [.ref h_f, .int u, .int o])), (h_f, .inl (cA_f, 8, .inr (.inl f)))] := hD
    refine lv_topl (fun y3 ey3 => ?_)
    replace hF := xj_bz hF ey3
    refine lv_aload_n hx hb dX0_compare_24 rfl (lv_at hl 1 rfl) ?_
    refine lv_iload_n hx hb dX0_compare_25 rfl (lv_at hl 2 rfl) ?_
    refine lv_iload_n hx hb dX0_compare_26 rfl (lv_at hl 4 rfl) ?_
    refine xj_vl (As := [.int p1, .int p3]) (rest := [.long y3]) (Wd := mw_X0 h0 h_f cA_f) (wr := []) ⟨hx, hb, hml, hown, hts⟩ (mc_X0_valueIn l dC dI h0 h_f cA_f f u o p1 p3 ((mr_ref (ey1.symm.trans c2)).2.1)) (cwV 2 hts gX0_compare_X0_valueIn rfl rfl rfl (by decide +kernel) ⟨Nat.le_of_ble_eq_true rfl, Nat.le_of_ble_eq_true rfl⟩) hP hK hD hS hA [0, 1] [] [0] rfl (by decide) rfl (by decide) (by decide) rfl (va_recv hK hP (ci := 0) (q0 := 0) rfl rfl) rfl hl.1 rfl (Nat.le_of_ble_eq_true rfl) dX0_compare_27 ⟨Nat.zero_le _, Nat.zero_le _⟩ (fun H9 locs9 hP hD hS => ?_)
    have hP : va_P (dC, dI) vwCl [(h0, .inr (0, [.ref h_f, .int u, .int o])), (h_f, .inl (cA_f, 8, .inr (.inl f)))] _ := hP
    have hD : va_D A [(h0, .inr (0, [.ref h_f, .int u, .int o])), (h_f, .inl (cA_f, 8, .inr (.inl f)))] := hD
    refine lv_topl (fun y4 ey4 => ?_)
    replace hF := xj_bz hF ey4
    refine xj_si (As := [.long y3, .long y4]) (rest := []) ⟨hx, hb, hml, hown, hts⟩ (mc_J13_compare_74951 l y3 y4) (va_cwS 2 hts gX0_compare_J13_compare_74951 rfl rfl rfl (by decide +kernel) ⟨Nat.le_of_ble_eq_true rfl, Nat.le_of_ble_eq_true rfl⟩) hS hA rfl hl.1 rfl (Nat.le_of_ble_eq_true rfl) dX0_compare_30 ⟨Nat.zero_le _, Nat.zero_le _⟩ (fun H9 locs9 hk9 hS => ?_)
    have hP := xj_kept hP hk9
    refine lv_topi (fun y5 ey5 => ?_)
    replace hF := xj_bz hF ey5
    refine lv_i2l (v := (Int32.toInt64 y5)) hx hb dX0_compare_33 rfl ?_
    refine xj_si (As := [.long (Int32.toInt64 y5)]) (rest := []) ⟨hx, hb, hml, hown, hts⟩ (mc_X0_flagsOf l (Int32.toInt64 y5)) (va_cwS 1 hts gX0_compare_X0_flagsOf rfl rfl rfl (by decide +kernel) ⟨Nat.le_of_ble_eq_true rfl, Nat.le_of_ble_eq_true rfl⟩) hS hA rfl hl.1 rfl (Nat.le_of_ble_eq_true rfl) dX0_compare_34 ⟨Nat.zero_le _, Nat.zero_le _⟩ (fun H9 locs9 hk9 hS => ?_)
    have hP := xj_kept hP hk9
    refine lv_topi (fun y6 ey6 => ?_)
    replace hF := xj_bz hF ey6
    exact W.iret (v := y6) hx hb hr (fun t ht hW => ⟨⟨_, (f, u, o), rfl, by rw [hF], by rw [ht]; exact hP, hD⟩, hS.F ht⟩) hS.2.2 dX0_compare_37
  · replace hF := xj_f hF c2
    refine lv_iload hx hb dX0_compare_15 (lv_at hl 0 rfl) ?_
    exact W.iret (v := y1) hx hb hr (fun t ht hW => ⟨⟨_, (f, u, o), rfl, by rw [hF], by rw [ht]; exact hP, hD⟩, hS.F ht⟩) hS.2.2 dX0_compare_17
def mf_X0_change (f : Nat → Int64) (u : Int32) (o : Int32) (p1 : Int32) (p2 : Int32) (p3 : Int32) : Int32 × (Nat → Int64) × Int32 × Int32 := (xj_bnd (mf_X0_refusalOf f u o p1 p2 p2 p3) (fun y1 => (xj_bnd (if p1 = (4 : Int32) then (8 : Int32) else (4 : Int32)) (fun y3 => (if y1 = 0 then (xj_bnd (mf_X0_valueIn f u o p1 p2) (fun y5 => (xj_bnd (mf_X0_storeValue f u o y3 p3 y5) (fun q6 => (q6.1, (q6.2.1, q6.2.2.1, q6.2.2.2)))))) else (y1, (f, u, o)))))))
set_option maxHeartbeats 4000000 in
set_option maxRecDepth 100000 in
theorem mc_X0_change (l : Launch) (dC : Nat → ClassId) (dI : Nat → Nat → Nat) (h0 h_f : Nat) (cA_f : ClassId) (f : Nat → Int64) (u : Int32) (o : Int32) (p1 : Int32) (p2 : Int32) (p3 : Int32) : xj_Oi l (dC, dI) vwCl [(cA_f, .long)] (mw_X0 h0 h_f cA_f) yX0_change wsX0_change ({ frames := 3, cells := 0, slots := 0, locals := 78 }) [.ref h0, .int p1, .int p2, .int p3] (f, u, o) (mf_X0_change f u o p1 p2 p3) := by
  intro sz
  refine Met.ofW (cc := cX0_change) (maxL := 6) (ret := (some .int)) (by decide) rfl ?_
  intro p e s m args below meth c s₁ B hml hv
  obtain ⟨rfl, hsz, hP, hK, hD0⟩ := hv
  have hx := B.exec
  have hb := B.bytes
  have hr := B.returns
  have hts := atoms_spec (ws := wsX0_change) B.pre
  have hown : s.vm.findClass RX0 = some m.cls := findClass_of_methodNamed B.named
  have hlocks := B.notSynchronized
  subst hsz
  have hD := hD0.self (sz := s.heap.size)
  generalize hAe : va_A (mw_X0 h0 h_f cA_f (f, u, o)) s.heap.size = A at hD ⊢
  have hA : ∀ q : Nat, s.heap.size ≤ q → A q := fun q h => by rw [← hAe]; exact Or.inr h
  have hS : va_S A s.heap s.heap [] := va_S.rf
  have hP : va_P (dC, dI) vwCl [(h0, .inr (0, [.ref h_f, .int u, .int o])), (h_f, .inl (cA_f, 8, .inr (.inl f)))] s.heap := hP
  have hD : va_D A [(h0, .inr (0, [.ref h_f, .int u, .int o])), (h_f, .inl (cA_f, 8, .inr (.inl f)))] := hD
  generalize hT : mf_X0_change f u o p1 p2 p3 = T
  have hF := hT.symm
  unfold mf_X0_change at hF
  have hl := lv_entry ([.ref h0, .int p1, .int p2, .int p3]) (n := 6) (Nat.le_of_ble_eq_true rfl)
  rw [lg_entry_eq]
  generalize (lg_sl ([.ref h0, .int p1, .int p2, .int p3]) ++ List.replicate (6 - (lg_sl ([.ref h0, .int p1, .int p2, .int p3])).length) Slot.unset).toArray = ls at hl ⊢
  have hl : lv_has ls 6 [(0, .ref h0), (1, .int p1), (2, .int p2), (3, .int p3)] := hl
  refine lv_aload_n hx hb dX0_change_0 rfl (lv_at hl 0 rfl) ?_
  refine lv_iload_n hx hb dX0_change_1 rfl (lv_at hl 1 rfl) ?_
  refine lv_iload_n hx hb dX0_change_2 rfl (lv_at hl 2 rfl) ?_
  refine lv_iload_n hx hb dX0_change_3 rfl (lv_at hl 2 rfl) ?_
  refine lv_iload_n hx hb dX0_change_4 rfl (lv_at hl 3 rfl) ?_
  refine xj_vi (As := [.int p1, .int p2, .int p2, .int p3]) (rest := []) (Wd := mw_X0 h0 h_f cA_f) (wr := []) ⟨hx, hb, hml, hown, hts⟩ (mc_X0_refusalOf l dC dI h0 h_f cA_f f u o p1 p2 p2 p3) (cwV 4 hts gX0_change_X0_refusalOf rfl rfl rfl (by decide +kernel) ⟨Nat.le_of_ble_eq_true rfl, Nat.le_of_ble_eq_true rfl⟩) hP hK hD hS hA [0, 1] [] [0] rfl (by decide) rfl (by decide) (by decide) rfl (va_recv hK hP (ci := 0) (q0 := 0) rfl rfl) rfl hl.1 rfl (Nat.le_of_ble_eq_true rfl) dX0_change_5 ⟨Nat.zero_le _, Nat.zero_le _⟩ (fun H9 locs9 hP hD hS => ?_)
  have hP : va_P (dC, dI) vwCl [(h0, .inr (0, [.ref h_f, .int u, .int o])), (h_f, .inl (cA_f, 8, .inr (.inl f)))] _ := hP
  have hD : va_D A [(h0, .inr (0, [.ref h_f, .int u, .int o])), (h_f, .inl (cA_f, 8, .inr (.inl f)))] := hD
  refine lv_topi (fun y1 ey1 => ?_)
  replace hF := xj_bz hF ey1
  refine lv_istore (lv' := [(4, .int y1), (0, .ref h0), (1, .int p1), (2, .int p2), (3, .int p3)]) hx hb dX0_change_8 hl (by decide) rfl (fun ls hl => ?_)
  refine lv_iload_n hx hb dX0_change_10 rfl (lv_at hl 2 rfl) ?_
  refine lv_iconst (v := (4 : Int32)) hx hb dX0_change_11 (by decide) ?_
  obtain ⟨y3, ey3⟩ : ∃ z : Int32, z = (if p1 = (4 : Int32) then (8 : Int32) else (4 : Int32)) := ⟨_, rfl⟩
  replace hF := xj_bz hF ey3
  refine xj_join 21 (fun ls' st' => lv_has ls' 6 [(4, .int y1), (0, .ref h0), (1, .int p1), (2, .int p2), (3, .int p3)] ∧ st' = [.int y3]) ?_ (fun K21 => ?_)
  · rintro ls st ⟨hl, rfl⟩
    refine lv_istore (lv' := [(5, .int y3), (4, .int y1), (0, .ref h0), (1, .int p1), (2, .int p2), (3, .int p3)]) hx hb dX0_change_21 hl (by decide) rfl (fun ls hl => ?_)
    refine lv_iload hx hb dX0_change_23 (lv_at hl 1 rfl) ?_
    refine lv_if_eq (tgt := 33) hx hb dX0_change_25 (by decide) (fun c4 => ?_) (fun c4 => ?_)
    · replace hF := xj_t hF c4
      refine lv_aload_n hx hb dX0_change_33 rfl (lv_at hl 2 rfl) ?_
      refine lv_iload hx hb dX0_change_34 (lv_at hl 0 rfl) ?_
      refine lv_iload_n hx hb dX0_change_36 rfl (lv_at hl 5 rfl) ?_
      refine lv_aload_n hx hb dX0_change_37 rfl (lv_at hl 2 rfl) ?_
      refine lv_iload_n hx hb dX0_change_38 rfl (lv_at hl 3 rfl) ?_
      refine lv_iload_n hx hb dX0_change_39 rfl (lv_at hl 4 rfl) ?_
      refine xj_vl (As := [.int p1, .int p2]) (rest := [.int p3, .int y3, .ref h0]) (Wd := mw_X0 h0 h_f cA_f) (wr := []) ⟨hx, hb, hml, hown, hts⟩ (mc_X0_valueIn l dC dI h0 h_f cA_f f u o p1 p2 ((mr_ref (ey1.symm.trans c4)).1)) (cwV 2 hts gX0_change_X0_valueIn rfl rfl rfl (by decide +kernel) ⟨Nat.le_of_ble_eq_true rfl, Nat.le_of_ble_eq_true rfl⟩) hP hK hD hS hA [0, 1] [] [0] rfl (by decide) rfl (by decide) (by decide) rfl (va_recv hK hP (ci := 0) (q0 := 0) rfl rfl) rfl hl.1 rfl (Nat.le_of_ble_eq_true rfl) dX0_change_40 ⟨Nat.zero_le _, Nat.zero_le _⟩ (fun H9 locs9 hP hD hS => ?_)
      have hP : va_P (dC, dI) vwCl [(h0, .inr (0, [.ref h_f, .int u, .int o])), (h_f, .inl (cA_f, 8, .inr (.inl f)))] _ := hP
      have hD : va_D A [(h0, .inr (0, [.ref h_f, .int u, .int o])), (h_f, .inl (cA_f, 8, .inr (.inl f)))] := hD
      refine lv_topl (fun y5 ey5 => ?_)
      replace hF := xj_bz hF ey5
      obtain ⟨q6, eq6⟩ : ∃ z : Int32 × (Nat → Int64) × Int32 × Int32, z = (mf_X0_storeValue f u o y3 p3 y5) := ⟨_, rfl⟩
      replace hF := xj_bz hF eq6
      refine xj_vi (r := q6) (As := [.int y3, .int p3, .long y5]) (rest := []) (Wd := mw_X0 h0 h_f cA_f) (wr := []) ⟨hx, hb, hml, hown, hts⟩ (by rw [eq6]; exact mc_X0_storeValue l dC dI h0 h_f cA_f f u o y3 p3 y5 ((mr_ref (ey1.symm.trans c4)).2.2)) (cwV 3 hts gX0_change_X0_storeValue rfl rfl rfl (by decide +kernel) ⟨Nat.le_of_ble_eq_true rfl, Nat.le_of_ble_eq_true rfl⟩) hP hK hD hS hA [0, 1] [] [0] rfl (by decide) rfl (by decide) (by decide) rfl (va_recv hK hP (ci := 0) (q0 := 0) rfl rfl) rfl hl.1 rfl (Nat.le_of_ble_eq_true rfl) dX0_change_43 ⟨Nat.zero_le _, Nat.zero_le _⟩ (fun H9 locs9 hP hD hS => ?_)
      have hP : va_P (dC, dI) vwCl [(h0, .inr (0, [.ref h_f, .int q6.2.2.1, .int q6.2.2.2])), (h_f, .inl (cA_f, 8, .inr (.inl q6.2.1)))] _ := hP
      have hD : va_D A [(h0, .inr (0, [.ref h_f, .int q6.2.2.1, .int q6.2.2.2])), (h_f, .inl (cA_f, 8, .inr (.inl q6.2.1)))] := hD
      exact W.iret (v := q6.1) hx hb hr (fun t ht hW => ⟨⟨_, (q6.2.1, q6.2.2.1, q6.2.2.2), rfl, hF.symm, by rw [ht]; exact hP, hD⟩, hS.F ht⟩) hS.2.2 dX0_change_46
    · replace hF := xj_f hF c4
      refine lv_iload hx hb dX0_change_28 (lv_at hl 1 rfl) ?_
      refine lv_goto (tgt := 46) hx hb dX0_change_30 (by decide) ?_
      exact W.iret (v := y1) hx hb hr (fun t ht hW => ⟨⟨_, (f, u, o), rfl, hF.symm, by rw [ht]; exact hP, hD⟩, hS.F ht⟩) hS.2.2 dX0_change_46
  · refine lv_icmp_ne (tgt := 20) hx hb dX0_change_12 (by decide) (fun c2 => ?_) (fun c2 => ?_)
    · replace ey3 := xj_f ey3 c2
      refine lv_iconst (v := (4 : Int32)) hx hb dX0_change_20 (by decide) ?_
      subst ey3
      exact K21 _ _ ⟨lv_sub hl [0, 1, 2, 3, 4] rfl, rfl⟩
    · replace ey3 := xj_t ey3 c2
      refine lv_bipush (v := (8 : Int32)) hx hb dX0_change_15 (by decide) ?_
      refine lv_goto (tgt := 21) hx hb dX0_change_17 (by decide) ?_
      subst ey3
      exact K21 _ _ ⟨lv_sub hl [0, 1, 2, 3, 4] rfl, rfl⟩
def mf_X0_whole (f : Nat → Int64) (u : Int32) (o : Int32) (p1 : Int32) (p2 : Int32) (p3 : Int32) (p4 : Int32) (p5 : Int32) : Int32 × (Nat → Int64) × Int32 × Int32 := (xj_bnd (xj_bnd (mf_X0_refusalOf f u o p1 p2 p2 p5) (fun y3 => (if y3 = 0 then (xj_bnd (mf_X0_valueIn f u o p1 p2) (fun y5 => (xj_bnd (mf_X0_wholeOf y5 p4) (fun y6 => (xj_bnd ((64 : Int32) - ((8 : Int32) * p3)) (fun y7 => (xj_bnd (xj_shr (xj_shl y6 y7) y7) (fun y8 => (xj_bnd (mf_X0_flagsOf y8) (fun y9 => (xj_bnd (if y8 = y6 then (0 : Int32) else (2 : Int32)) (fun y11 => ((y9 ||| y11), ((vp_updL f (Int32.toNatClampNeg p5) y8), u, o)))))))))))))) else (y3, (f, u, o))))) (fun k2 => (if p3 = (1 : Int32) then k2 else (if p3 = (2 : Int32) then k2 else (if p3 = (4 : Int32) then k2 else ((-5 : Int32), (f, u, o)))))))
set_option maxHeartbeats 4000000 in
set_option maxRecDepth 100000 in
theorem mc_X0_whole (l : Launch) (dC : Nat → ClassId) (dI : Nat → Nat → Nat) (h0 h_f : Nat) (cA_f : ClassId) (f : Nat → Int64) (u : Int32) (o : Int32) (p1 : Int32) (p2 : Int32) (p3 : Int32) (p4 : Int32) (p5 : Int32) : xj_Oi l (dC, dI) vwCl [(cA_f, .long)] (mw_X0 h0 h_f cA_f) yX0_whole wsX0_whole ({ frames := 3, cells := 0, slots := 0, locals := 59 }) [.ref h0, .int p1, .int p2, .int p3, .int p4, .int p5] (f, u, o) (mf_X0_whole f u o p1 p2 p3 p4 p5) := by
  intro sz
  refine Met.ofW (cc := cX0_whole) (maxL := 12) (ret := (some .int)) (by decide) rfl ?_
  intro p e s m args below meth c s₁ B hml hv
  obtain ⟨rfl, hsz, hP, hK, hD0⟩ := hv
  have hx := B.exec
  have hb := B.bytes
  have hr := B.returns
  have hts := atoms_spec (ws := wsX0_whole) B.pre
  have hown : s.vm.findClass RX0 = some m.cls := findClass_of_methodNamed B.named
  have hlocks := B.notSynchronized
  subst hsz
  have hD := hD0.self (sz := s.heap.size)
  generalize hAe : va_A (mw_X0 h0 h_f cA_f (f, u, o)) s.heap.size = A at hD ⊢
  have hA : ∀ q : Nat, s.heap.size ≤ q → A q := fun q h => by rw [← hAe]; exact Or.inr h
  have hS : va_S A s.heap s.heap [] := va_S.rf
  have hP : va_P (dC, dI) vwCl [(h0, .inr (0, [.ref h_f, .int u, .int o])), (h_f, .inl (cA_f, 8, .inr (.inl f)))] s.heap := hP
  have hD : va_D A [(h0, .inr (0, [.ref h_f, .int u, .int o])), (h_f, .inl (cA_f, 8, .inr (.inl f)))] := hD
  generalize hT : mf_X0_whole f u o p1 p2 p3 p4 p5 = T
  have hF := hT.symm
  unfold mf_X0_whole at hF
  have hl := lv_entry ([.ref h0, .int p1, .int p2, .int p3, .int p4, .int p5]) (n := 12) (Nat.le_of_ble_eq_true rfl)
  rw [lg_entry_eq]
  generalize (lg_sl ([.ref h0, .int p1, .int p2, .int p3, .int p4, .int p5]) ++ List.replicate (12 - (lg_sl ([.ref h0, .int p1, .int p2, .int p3, .int p4, .int p5])).length) Slot.unset).toArray = ls at hl ⊢
  have hl : lv_has ls 12 [(0, .ref h0), (1, .int p1), (2, .int p2), (3, .int p3), (4, .int p4), (5, .int p5)] := hl
  refine lv_iload_n hx hb dX0_whole_0 rfl (lv_at hl 3 rfl) ?_
  refine lv_iconst (v := (1 : Int32)) hx hb dX0_whole_1 (by decide) ?_
  obtain ⟨k2, ek2, hF⟩ := xj_b hF
  refine xj_join 18 (fun ls' st' => T = k2 ∧ lv_has ls' 12 [(0, .ref h0), (1, .int p1), (2, .int p2), (3, .int p3), (4, .int p4), (5, .int p5)] ∧ st' = []) ?_ (fun K18 => ?_)
  · rintro ls st ⟨hF, hl, rfl⟩
    have hF := hF.trans ek2
    refine lv_aload_n hx hb dX0_whole_18 rfl (lv_at hl 0 rfl) ?_
    refine lv_iload_n hx hb dX0_whole_19 rfl (lv_at hl 1 rfl) ?_
    refine lv_iload_n hx hb dX0_whole_20 rfl (lv_at hl 2 rfl) ?_
    refine lv_iload_n hx hb dX0_whole_21 rfl (lv_at hl 2 rfl) ?_
    refine lv_iload hx hb dX0_whole_22 (lv_at hl 5 rfl) ?_
    refine xj_vi (As := [.int p1, .int p2, .int p2, .int p5]) (rest := []) (Wd := mw_X0 h0 h_f cA_f) (wr := []) ⟨hx, hb, hml, hown, hts⟩ (mc_X0_refusalOf l dC dI h0 h_f cA_f f u o p1 p2 p2 p5) (cwV 4 hts gX0_whole_X0_refusalOf rfl rfl rfl (by decide +kernel) ⟨Nat.le_of_ble_eq_true rfl, Nat.le_of_ble_eq_true rfl⟩) hP hK hD hS hA [0, 1] [] [0] rfl (by decide) rfl (by decide) (by decide) rfl (va_recv hK hP (ci := 0) (q0 := 0) rfl rfl) rfl hl.1 rfl (Nat.le_of_ble_eq_true rfl) dX0_whole_24 ⟨Nat.zero_le _, Nat.zero_le _⟩ (fun H9 locs9 hP hD hS => ?_)
    have hP : va_P (dC, dI) vwCl [(h0, .inr (0, [.ref h_f, .int u, .int o])), (h_f, .inl (cA_f, 8, .inr (.inl f)))] _ := hP
    have hD : va_D A [(h0, .inr (0, [.ref h_f, .int u, .int o])), (h_f, .inl (cA_f, 8, .inr (.inl f)))] := hD
    refine lv_topi (fun y3 ey3 => ?_)
    replace hF := xj_bz hF ey3
    refine lv_istore (lv' := [(6, .int y3), (0, .ref h0), (1, .int p1), (2, .int p2), (3, .int p3), (4, .int p4), (5, .int p5)]) hx hb dX0_whole_27 hl (by decide) rfl (fun ls hl => ?_)
    refine lv_iload hx hb dX0_whole_29 (lv_at hl 0 rfl) ?_
    refine lv_if_eq (tgt := 37) hx hb dX0_whole_31 (by decide) (fun c4 => ?_) (fun c4 => ?_)
    · replace hF := xj_t hF c4
      refine lv_aload_n hx hb dX0_whole_37 rfl (lv_at hl 1 rfl) ?_
      refine lv_iload_n hx hb dX0_whole_38 rfl (lv_at hl 2 rfl) ?_
      refine lv_iload_n hx hb dX0_whole_39 rfl (lv_at hl 3 rfl) ?_
      refine xj_vl (As := [.int p1, .int p2]) (rest := []) (Wd := mw_X0 h0 h_f cA_f) (wr := []) ⟨hx, hb, hml, hown, hts⟩ (mc_X0_valueIn l dC dI h0 h_f cA_f f u o p1 p2 ((mr_ref (ey3.symm.trans c4)).1)) (cwV 2 hts gX0_whole_X0_valueIn rfl rfl rfl (by decide +kernel) ⟨Nat.le_of_ble_eq_true rfl, Nat.le_of_ble_eq_true rfl⟩) hP hK hD hS hA [0, 1] [] [0] rfl (by decide) rfl (by decide) (by decide) rfl (va_recv hK hP (ci := 0) (q0 := 0) rfl rfl) rfl hl.1 rfl (Nat.le_of_ble_eq_true rfl) dX0_whole_40 ⟨Nat.zero_le _, Nat.zero_le _⟩ (fun H9 locs9 hP hD hS => ?_)
      have hP : va_P (dC, dI) vwCl [(h0, .inr (0, [.ref h_f, .int u, .int o])), (h_f, .inl (cA_f, 8, .inr (.inl f)))] _ := hP
      have hD : va_D A [(h0, .inr (0, [.ref h_f, .int u, .int o])), (h_f, .inl (cA_f, 8, .inr (.inl f)))] := hD
      refine lv_topl (fun y5 ey5 => ?_)
      replace hF := xj_bz hF ey5
      refine lv_iload hx hb dX0_whole_43 (lv_at hl 5 rfl) ?_
      refine xj_sl (As := [.long y5, .int p4]) (rest := []) ⟨hx, hb, hml, hown, hts⟩ (mc_X0_wholeOf l y5 p4) (va_cwS 2 hts gX0_whole_X0_wholeOf rfl rfl rfl (by decide +kernel) ⟨Nat.le_of_ble_eq_true rfl, Nat.le_of_ble_eq_true rfl⟩) hS hA rfl hl.1 rfl (Nat.le_of_ble_eq_true rfl) dX0_whole_45 ⟨Nat.zero_le _, Nat.zero_le _⟩ (fun H9 locs9 hk9 hS => ?_)
      have hP := xj_kept hP hk9
      refine lv_topl (fun y6 ey6 => ?_)
      replace hF := xj_bz hF ey6
      refine lv_lstore (lv' := [(7, .long y6), (6, .int y3), (0, .ref h0), (1, .int p1), (2, .int p2), (3, .int p3), (4, .int p4), (5, .int p5)]) hx hb dX0_whole_48 hl (by decide) rfl (fun ls hl => ?_)
      refine lv_bipush (v := (64 : Int32)) hx hb dX0_whole_50 (by decide) ?_
      refine lv_bipush (v := (8 : Int32)) hx hb dX0_whole_52 (by decide) ?_
      refine lv_iload_n hx hb dX0_whole_54 rfl (lv_at hl 5 rfl) ?_
      refine lv_imul hx hb dX0_whole_55 ?_
      refine lv_isub hx hb dX0_whole_56 ?_
      refine lv_topi (fun y7 ey7 => ?_)
      replace hF := xj_bz hF ey7
      refine lv_istore (lv' := [(9, .int y7), (7, .long y6), (6, .int y3), (0, .ref h0), (1, .int p1), (2, .int p2), (3, .int p3), (4, .int p4), (5, .int p5)]) hx hb dX0_whole_57 hl (by decide) rfl (fun ls hl => ?_)
      refine lv_lload hx hb dX0_whole_59 (lv_at hl 1 rfl) ?_
      refine lv_iload hx hb dX0_whole_61 (lv_at hl 0 rfl) ?_
      refine lv_lshl (v := (xj_shl y6 y7)) hx hb dX0_whole_63 rfl ?_
      refine lv_iload hx hb dX0_whole_64 (lv_at hl 0 rfl) ?_
      refine lv_lshr (v := (xj_shr (xj_shl y6 y7) y7)) hx hb dX0_whole_66 rfl ?_
      refine lv_topl (fun y8 ey8 => ?_)
      replace hF := xj_bz hF ey8
      refine lv_lstore (lv' := [(10, .long y8), (9, .int y7), (7, .long y6), (6, .int y3), (0, .ref h0), (1, .int p1), (2, .int p2), (3, .int p3), (4, .int p4), (5, .int p5)]) hx hb dX0_whole_67 hl (by decide) rfl (fun ls hl => ?_)
      refine lv_aload_n hx hb dX0_whole_69 rfl (lv_at hl 4 rfl) ?_
      refine va_get (D := (dC, dI)) (ci := 0) (v := .ref h_f) (C := RX0) (T := TX0) (N := 3) hx hb hts (by decide +kernel) hown hK hP 0 rfl rfl 0 (by decide) (hts (.fieldLink RX0 9 "ExactFloats" "registers" "[J") (by decide +kernel)) (fun _ h9 => h9) rfl dX0_whole_70 ?_
      refine lv_iload hx hb dX0_whole_73 (lv_at hl 9 rfl) ?_
      refine lv_lload hx hb dX0_whole_75 (lv_at hl 0 rfl) ?_
      refine va_last hx hb hK hP hD hS 1 0 rfl rfl ((mr_ref (ey3.symm.trans c4)).2.2) dX0_whole_77 (fun H9 locs9 hP hD hS => ?_)
      have hP : va_P (dC, dI) vwCl [(h0, .inr (0, [.ref h_f, .int u, .int o])), (h_f, .inl (cA_f, 8, .inr (.inl (vp_updL f (Int32.toNatClampNeg p5) y8))))] _ := hP
      have hD : va_D A [(h0, .inr (0, [.ref h_f, .int u, .int o])), (h_f, .inl (cA_f, 8, .inr (.inl (vp_updL f (Int32.toNatClampNeg p5) y8))))] := hD
      refine lv_lload hx hb dX0_whole_78 (lv_at hl 0 rfl) ?_
      refine xj_si (As := [.long y8]) (rest := []) ⟨hx, hb, hml, hown, hts⟩ (mc_X0_flagsOf l y8) (va_cwS 1 hts gX0_whole_X0_flagsOf rfl rfl rfl (by decide +kernel) ⟨Nat.le_of_ble_eq_true rfl, Nat.le_of_ble_eq_true rfl⟩) hS hA rfl hl.1 rfl (Nat.le_of_ble_eq_true rfl) dX0_whole_80 ⟨Nat.zero_le _, Nat.zero_le _⟩ (fun H9 locs9 hk9 hS => ?_)
      have hP := xj_kept hP hk9
      refine lv_topi (fun y9 ey9 => ?_)
      replace hF := xj_bz hF ey9
      refine lv_lload hx hb dX0_whole_83 (lv_at hl 0 rfl) ?_
      refine lv_lload hx hb dX0_whole_85 (lv_at hl 2 rfl) ?_
      obtain ⟨y11, ey11⟩ : ∃ z : Int32, z = (if y8 = y6 then (0 : Int32) else (2 : Int32)) := ⟨_, rfl⟩
      replace hF := xj_bz hF ey11
      refine xj_join 96 (fun ls' st' => lv_has ls' 12 [(10, .long y8), (9, .int y7), (7, .long y6), (6, .int y3), (0, .ref h0), (1, .int p1), (2, .int p2), (3, .int p3), (4, .int p4), (5, .int p5)] ∧ st' = [.int y11, .int y9]) ?_ (fun K96 => ?_)
      · rintro ls st ⟨hl, rfl⟩
        refine lv_ior hx hb dX0_whole_96 ?_
        exact W.iret (v := (y9 ||| y11)) hx hb hr (fun t ht hW => ⟨⟨_, ((vp_updL f (Int32.toNatClampNeg p5) y8), u, o), rfl, hF.symm, by rw [ht]; exact hP, hD⟩, hS.F ht⟩) hS.2.2 dX0_whole_97
      · refine xj_l_eq (tgt := 95) hx hb dX0_whole_87 dX0_whole_88 (by decide) (fun c10 => ?_) (fun c10 => ?_)
        · replace ey11 := xj_t ey11 c10
          refine lv_iconst (v := (0 : Int32)) hx hb dX0_whole_95 (by decide) ?_
          subst ey11
          exact K96 _ _ ⟨lv_sub hl [0, 1, 2, 3, 4, 5, 6, 7, 8, 9] rfl, rfl⟩
        · replace ey11 := xj_f ey11 c10
          refine lv_iconst (v := (2 : Int32)) hx hb dX0_whole_91 (by decide) ?_
          refine lv_goto (tgt := 96) hx hb dX0_whole_92 (by decide) ?_
          subst ey11
          exact K96 _ _ ⟨lv_sub hl [0, 1, 2, 3, 4, 5, 6, 7, 8, 9] rfl, rfl⟩
    · replace hF := xj_f hF c4
      refine lv_iload hx hb dX0_whole_34 (lv_at hl 0 rfl) ?_
      exact W.iret (v := y3) hx hb hr (fun t ht hW => ⟨⟨_, (f, u, o), rfl, hF.symm, by rw [ht]; exact hP, hD⟩, hS.F ht⟩) hS.2.2 dX0_whole_36
  · refine lv_icmp_eq (tgt := 18) hx hb dX0_whole_2 (by decide) (fun c1 => ?_) (fun c1 => ?_)
    · replace hF := xj_t hF c1
      exact K18 _ _ ⟨hF, lv_sub hl [0, 1, 2, 3, 4, 5] rfl, rfl⟩
    · replace hF := xj_f hF c1
      refine lv_iload_n hx hb dX0_whole_5 rfl (lv_at hl 3 rfl) ?_
      refine lv_iconst (v := (2 : Int32)) hx hb dX0_whole_6 (by decide) ?_
      refine lv_icmp_eq (tgt := 18) hx hb dX0_whole_7 (by decide) (fun c12 => ?_) (fun c12 => ?_)
      · replace hF := xj_t hF c12
        exact K18 _ _ ⟨hF, lv_sub hl [0, 1, 2, 3, 4, 5] rfl, rfl⟩
      · replace hF := xj_f hF c12
        refine lv_iload_n hx hb dX0_whole_10 rfl (lv_at hl 3 rfl) ?_
        refine lv_iconst (v := (4 : Int32)) hx hb dX0_whole_11 (by decide) ?_
        refine lv_icmp_eq (tgt := 18) hx hb dX0_whole_12 (by decide) (fun c13 => ?_) (fun c13 => ?_)
        · replace hF := xj_t hF c13
          exact K18 _ _ ⟨hF, lv_sub hl [0, 1, 2, 3, 4, 5] rfl, rfl⟩
        · replace hF := xj_f hF c13
          refine lv_bipush (v := (-5 : Int32)) hx hb dX0_whole_15 (by decide) ?_
          exact W.iret (v := (-5 : Int32)) hx hb hr (fun t ht hW => ⟨⟨_, (f, u, o), rfl, hF.symm, by rw [ht]; exact hP, hD⟩, hS.F ht⟩) hS.2.2 dX0_whole_17
def mf_X0_number (f : Nat → Int64) (u : Int32) (o : Int32) (p1 : Int32) (p2 : Int32) (p3 : Int32) : Int32 × (Nat → Int64) × Int32 × Int32 := (xj_bnd (mf_X0_isSize p1) (fun y1 => (if y1 = 0 then ((-5 : Int32), (f, u, o)) else (xj_bnd (mf_X0_isRegister p3) (fun y3 => (if y3 = 0 then ((-5 : Int32), (f, u, o)) else (xj_bnd (if 0 ≤ p2 then (0 : Int32) else (1 : Int32)) (fun y6 => (xj_bnd (xj_abs (Int32.toInt64 p2)) (fun y7 => (xj_bnd (mf_X0_storeRounded f u o p1 p3 y6 (191 : Int32) y7) (fun q8 => (q8.1, (q8.2.1, q8.2.2.1, q8.2.2.2))))))))))))))
set_option maxHeartbeats 4000000 in
set_option maxRecDepth 100000 in
theorem mc_X0_number (l : Launch) (dC : Nat → ClassId) (dI : Nat → Nat → Nat) (h0 h_f : Nat) (cA_f : ClassId) (f : Nat → Int64) (u : Int32) (o : Int32) (p1 : Int32) (p2 : Int32) (p3 : Int32) : xj_Oi l (dC, dI) vwCl [(cA_f, .long)] (mw_X0 h0 h_f cA_f) yX0_number wsX0_number ({ frames := 2, cells := 0, slots := 0, locals := 54 }) [.ref h0, .int p1, .int p2, .int p3] (f, u, o) (mf_X0_number f u o p1 p2 p3) := by
  intro sz
  refine Met.ofW (cc := cX0_number) (maxL := 4) (ret := (some .int)) (by decide) rfl ?_
  intro p e s m args below meth c s₁ B hml hv
  obtain ⟨rfl, hsz, hP, hK, hD0⟩ := hv
  have hx := B.exec
  have hb := B.bytes
  have hr := B.returns
  have hts := atoms_spec (ws := wsX0_number) B.pre
  have hown : s.vm.findClass RX0 = some m.cls := findClass_of_methodNamed B.named
  have hlocks := B.notSynchronized
  subst hsz
  have hD := hD0.self (sz := s.heap.size)
  generalize hAe : va_A (mw_X0 h0 h_f cA_f (f, u, o)) s.heap.size = A at hD ⊢
  have hA : ∀ q : Nat, s.heap.size ≤ q → A q := fun q h => by rw [← hAe]; exact Or.inr h
  have hS : va_S A s.heap s.heap [] := va_S.rf
  have hP : va_P (dC, dI) vwCl [(h0, .inr (0, [.ref h_f, .int u, .int o])), (h_f, .inl (cA_f, 8, .inr (.inl f)))] s.heap := hP
  have hD : va_D A [(h0, .inr (0, [.ref h_f, .int u, .int o])), (h_f, .inl (cA_f, 8, .inr (.inl f)))] := hD
  generalize hT : mf_X0_number f u o p1 p2 p3 = T
  have hF := hT.symm
  unfold mf_X0_number at hF
  have hl := lv_entry ([.ref h0, .int p1, .int p2, .int p3]) (n := 4) (Nat.le_of_ble_eq_true rfl)
  rw [lg_entry_eq]
  generalize (lg_sl ([.ref h0, .int p1, .int p2, .int p3]) ++ List.replicate (4 - (lg_sl ([.ref h0, .int p1, .int p2, .int p3])).length) Slot.unset).toArray = ls at hl ⊢
  have hl : lv_has ls 4 [(0, .ref h0), (1, .int p1), (2, .int p2), (3, .int p3)] := hl
  refine lv_iload_n hx hb dX0_number_0 rfl (lv_at hl 1 rfl) ?_
  refine xj_si (As := [.int p1]) (rest := []) ⟨hx, hb, hml, hown, hts⟩ (mc_X0_isSize l p1) (va_cwS 1 hts gX0_number_X0_isSize rfl rfl rfl (by decide +kernel) ⟨Nat.le_of_ble_eq_true rfl, Nat.le_of_ble_eq_true rfl⟩) hS hA rfl hl.1 rfl (Nat.le_of_ble_eq_true rfl) dX0_number_1 ⟨Nat.zero_le _, Nat.zero_le _⟩ (fun H9 locs9 hk9 hS => ?_)
  have hP := xj_kept hP hk9
  refine lv_topi (fun y1 ey1 => ?_)
  replace hF := xj_bz hF ey1
  refine lv_if_eq (tgt := 14) hx hb dX0_number_4 (by decide) (fun c2 => ?_) (fun c2 => ?_)
  · replace hF := xj_t hF c2
    refine lv_bipush (v := (-5 : Int32)) hx hb dX0_number_14 (by decide) ?_
    exact W.iret (v := (-5 : Int32)) hx hb hr (fun t ht hW => ⟨⟨_, (f, u, o), rfl, hF.symm, by rw [ht]; exact hP, hD⟩, hS.F ht⟩) hS.2.2 dX0_number_16
  · replace hF := xj_f hF c2
    refine lv_iload_n hx hb dX0_number_7 rfl (lv_at hl 3 rfl) ?_
    refine xj_si (As := [.int p3]) (rest := []) ⟨hx, hb, hml, hown, hts⟩ (mc_X0_isRegister l p3) (va_cwS 1 hts gX0_number_X0_isRegister rfl rfl rfl (by decide +kernel) ⟨Nat.le_of_ble_eq_true rfl, Nat.le_of_ble_eq_true rfl⟩) hS hA rfl hl.1 rfl (Nat.le_of_ble_eq_true rfl) dX0_number_8 ⟨Nat.zero_le _, Nat.zero_le _⟩ (fun H9 locs9 hk9 hS => ?_)
    have hP := xj_kept hP hk9
    refine lv_topi (fun y3 ey3 => ?_)
    replace hF := xj_bz hF ey3
    refine lv_if_ne (tgt := 17) hx hb dX0_number_11 (by decide) (fun c4 => ?_) (fun c4 => ?_)
    · replace hF := xj_f hF c4
      refine lv_aload_n hx hb dX0_number_17 rfl (lv_at hl 0 rfl) ?_
      refine lv_iload_n hx hb dX0_number_18 rfl (lv_at hl 1 rfl) ?_
      refine lv_iload_n hx hb dX0_number_19 rfl (lv_at hl 3 rfl) ?_
      refine lv_iload_n hx hb dX0_number_20 rfl (lv_at hl 2 rfl) ?_
      obtain ⟨y6, ey6⟩ : ∃ z : Int32, z = (if 0 ≤ p2 then (0 : Int32) else (1 : Int32)) := ⟨_, rfl⟩
      replace hF := xj_bz hF ey6
      refine xj_join 29 (fun ls' st' => lv_has ls' 4 [(0, .ref h0), (1, .int p1), (2, .int p2), (3, .int p3)] ∧ st' = [.int y6, .int p3, .int p1, .ref h0]) ?_ (fun K29 => ?_)
      · rintro ls st ⟨hl, rfl⟩
        refine lv_sipush (v := (191 : Int32)) hx hb dX0_number_29 (by decide) ?_
        refine lv_iload_n hx hb dX0_number_32 rfl (lv_at hl 2 rfl) ?_
        refine lv_i2l (v := (Int32.toInt64 p2)) hx hb dX0_number_33 rfl ?_
        refine va_mabs_long (x := (Int32.toInt64 p2)) hx hb (by rw [hml]; exact hl.1.symm) hown (hts (.methodLink RX0 63 Lib.MathLoose.abs_long.x) (by decide +kernel)) (hts (.static Lib.MathLoose.abs_long.x) (by decide +kernel)) (hts (.initialized "java/lang/Math") (by decide +kernel)) (hts _ (by decide +kernel)) (Nat.le_of_ble_eq_true rfl) (Nat.le_of_ble_eq_true rfl) (Nat.zero_le _) (Nat.zero_le _) dX0_number_34 ?_
        refine lv_topl (fun y7 ey7 => ?_)
        replace hF := xj_bz hF ey7
        obtain ⟨q8, eq8⟩ : ∃ z : Int32 × (Nat → Int64) × Int32 × Int32, z = (mf_X0_storeRounded f u o p1 p3 y6 (191 : Int32) y7) := ⟨_, rfl⟩
        replace hF := xj_bz hF eq8
        refine xj_vi (r := q8) (As := [.int p1, .int p3, .int y6, .int (191 : Int32), .long y7]) (rest := []) (Wd := mw_X0 h0 h_f cA_f) (wr := []) ⟨hx, hb, hml, hown, hts⟩ (by rw [eq8]; exact mc_X0_storeRounded l dC dI h0 h_f cA_f f u o p1 p3 y6 (191 : Int32) y7 (mr_reg (fun h9 => c4 (ey3.trans h9)))) (cwV 5 hts gX0_number_X0_storeRounded rfl rfl rfl (by decide +kernel) ⟨Nat.le_of_ble_eq_true rfl, Nat.le_of_ble_eq_true rfl⟩) hP hK hD hS hA [0, 1] [] [0] rfl (by decide) rfl (by decide) (by decide) rfl (va_recv hK hP (ci := 0) (q0 := 0) rfl rfl) rfl hl.1 rfl (Nat.le_of_ble_eq_true rfl) dX0_number_37 ⟨Nat.zero_le _, Nat.zero_le _⟩ (fun H9 locs9 hP hD hS => ?_)
        have hP : va_P (dC, dI) vwCl [(h0, .inr (0, [.ref h_f, .int q8.2.2.1, .int q8.2.2.2])), (h_f, .inl (cA_f, 8, .inr (.inl q8.2.1)))] _ := hP
        have hD : va_D A [(h0, .inr (0, [.ref h_f, .int q8.2.2.1, .int q8.2.2.2])), (h_f, .inl (cA_f, 8, .inr (.inl q8.2.1)))] := hD
        exact W.iret (v := q8.1) hx hb hr (fun t ht hW => ⟨⟨_, (q8.2.1, q8.2.2.1, q8.2.2.2), rfl, hF.symm, by rw [ht]; exact hP, hD⟩, hS.F ht⟩) hS.2.2 dX0_number_40
      · refine lv_if_ge (tgt := 28) hx hb dX0_number_21 (by decide) (fun c5 => ?_) (fun c5 => ?_)
        · replace ey6 := xj_t ey6 c5
          refine lv_iconst (v := (0 : Int32)) hx hb dX0_number_28 (by decide) ?_
          subst ey6
          exact K29 _ _ ⟨lv_sub hl [0, 1, 2, 3] rfl, rfl⟩
        · replace ey6 := xj_f ey6 c5
          refine lv_iconst (v := (1 : Int32)) hx hb dX0_number_24 (by decide) ?_
          refine lv_goto (tgt := 29) hx hb dX0_number_25 (by decide) ?_
          subst ey6
          exact K29 _ _ ⟨lv_sub hl [0, 1, 2, 3] rfl, rfl⟩
    · replace hF := xj_t hF c4
      refine lv_bipush (v := (-5 : Int32)) hx hb dX0_number_14 (by decide) ?_
      exact W.iret (v := (-5 : Int32)) hx hb hr (fun t ht hW => ⟨⟨_, (f, u, o), rfl, hF.symm, by rw [ht]; exact hP, hD⟩, hS.F ht⟩) hS.2.2 dX0_number_16
def mf_X0_lost (f : Nat → Int64) (u : Int32) (o : Int32)  : Int32 := o
set_option maxHeartbeats 4000000 in
set_option maxRecDepth 100000 in
theorem mc_X0_lost (l : Launch) (dC : Nat → ClassId) (dI : Nat → Nat → Nat) (h0 h_f : Nat) (cA_f : ClassId) (f : Nat → Int64) (u : Int32) (o : Int32)  (ho : o = 0 ∨ o = 1) : xj_Oi l (dC, dI) vwCl [(cA_f, .long)] (mw_X0 h0 h_f cA_f) yX0_lost wsX0_lost ({ frames := 0, cells := 0, slots := 0, locals := 0 }) [.ref h0] (f, u, o) (mf_X0_lost f u o, (f, u, o)) := by
  intro sz
  refine Met.ofW (cc := cX0_lost) (maxL := 1) (ret := (some .boolean)) (by decide) rfl ?_
  intro p e s m args below meth c s₁ B hml hv
  obtain ⟨rfl, hsz, hP, hK, hD0⟩ := hv
  have hx := B.exec
  have hb := B.bytes
  have hr := B.returns
  have hts := atoms_spec (ws := wsX0_lost) B.pre
  have hown : s.vm.findClass RX0 = some m.cls := findClass_of_methodNamed B.named
  have hlocks := B.notSynchronized
  subst hsz
  have hD := hD0.self (sz := s.heap.size)
  generalize hAe : va_A (mw_X0 h0 h_f cA_f (f, u, o)) s.heap.size = A at hD ⊢
  have hA : ∀ q : Nat, s.heap.size ≤ q → A q := fun q h => by rw [← hAe]; exact Or.inr h
  have hS : va_S A s.heap s.heap [] := va_S.rf
  have hP : va_P (dC, dI) vwCl [(h0, .inr (0, [.ref h_f, .int u, .int o])), (h_f, .inl (cA_f, 8, .inr (.inl f)))] s.heap := hP
  have hD : va_D A [(h0, .inr (0, [.ref h_f, .int u, .int o])), (h_f, .inl (cA_f, 8, .inr (.inl f)))] := hD
  generalize hT : mf_X0_lost f u o = T
  have hF := hT.symm
  unfold mf_X0_lost at hF
  have hl := lv_entry ([.ref h0]) (n := 1) (Nat.le_of_ble_eq_true rfl)
  rw [lg_entry_eq]
  generalize (lg_sl ([.ref h0]) ++ List.replicate (1 - (lg_sl ([.ref h0])).length) Slot.unset).toArray = ls at hl ⊢
  have hl : lv_has ls 1 [(0, .ref h0)] := hl
  refine lv_aload_n hx hb dX0_lost_0 rfl (lv_at hl 0 rfl) ?_
  refine va_get (D := (dC, dI)) (ci := 0) (v := .int o) (C := RX0) (T := TX0) (N := 3) hx hb hts (by decide +kernel) hown hK hP 0 rfl rfl 2 (by decide) (hts (.fieldLink RX0 17 "ExactFloats" "lastWasInexact" "Z") (by decide +kernel)) (fun _ h9 => h9) rfl dX0_lost_1 ?_
  exact W.zret (v := o) hx hb hr (xj_nb (ho)) (fun t ht hW => ⟨⟨_, (f, u, o), rfl, by rw [hF], by rw [ht]; exact hP, hD⟩, hS.F ht⟩) hS.2.2 dX0_lost_4
