def mf_X0_shiftedDown (p1 : Int64) (p2 : Int32) : Int64 := (if p2 < (63 : Int32) then (xj_bnd (xj_ush p1 p2) (fun y2 => (if (xj_shl y2 p2) = p1 then y2 else (y2 ||| (1 : Int64))))) else (1 : Int64))
set_option maxHeartbeats 4000000 in
set_option maxRecDepth 100000 in
theorem mc_X0_shiftedDown (l : Launch) (p1 : Int64) (p2 : Int32) : xj_Pl l yX0_shiftedDown wsX0_shiftedDown ({ frames := 0, cells := 0, slots := 0, locals := 0 }) [.long p1, .int p2] (mf_X0_shiftedDown p1 p2) := by
  intro sz
  refine Met.ofW (cc := cX0_shiftedDown) (maxL := 5) (ret := (some .long)) (by decide) rfl ?_
  intro p e s m args below meth c s₁ B hml hv
  obtain ⟨rfl, hsz⟩ := hv
  have hx := B.exec
  have hb := B.bytes
  have hr := B.returns
  have hts := atoms_spec (ws := wsX0_shiftedDown) B.pre
  have hown : s.vm.findClass RX0 = some m.cls := findClass_of_methodNamed B.named
  have hlocks := B.notSynchronized
  subst hsz
  generalize hAe : va_A [] s.heap.size = A
  have hA : ∀ q : Nat, s.heap.size ≤ q → A q := fun q h => by rw [← hAe]; exact Or.inr h
  have hS : va_S A s.heap s.heap [] := va_S.rf
  generalize hT : mf_X0_shiftedDown p1 p2 = T
  have hF := hT.symm
  unfold mf_X0_shiftedDown at hF
  have hl := lv_entry ([.long p1, .int p2]) (n := 5) (Nat.le_of_ble_eq_true rfl)
  rw [lg_entry_eq]
  generalize (lg_sl ([.long p1, .int p2]) ++ List.replicate (5 - (lg_sl ([.long p1, .int p2])).length) Slot.unset).toArray = ls at hl ⊢
  have hl : lv_has ls 5 [(0, .long p1), (2, .int p2)] := hl
  refine lv_iload_n hx hb dX0_shiftedDown_0 rfl (lv_at hl 1 rfl) ?_
  refine lv_bipush (v := (63 : Int32)) hx hb dX0_shiftedDown_1 (by decide) ?_
  refine lv_icmp_lt (tgt := 8) hx hb dX0_shiftedDown_3 (by decide) (fun c1 => ?_) (fun c1 => ?_)
  · replace hF := xj_t hF c1
    refine lv_lload_n hx hb dX0_shiftedDown_8 rfl (lv_at hl 0 rfl) ?_
    refine lv_iload_n hx hb dX0_shiftedDown_9 rfl (lv_at hl 1 rfl) ?_
    refine lv_lushr (v := (xj_ush p1 p2)) hx hb dX0_shiftedDown_10 rfl ?_
    refine lv_topl (fun y2 ey2 => ?_)
    replace hF := xj_bz hF ey2
    refine lv_lstore_n (lv' := [(3, .long y2), (0, .long p1), (2, .int p2)]) hx hb dX0_shiftedDown_11 rfl hl (by decide) rfl (fun ls hl => ?_)
    refine lv_lload_n hx hb dX0_shiftedDown_12 rfl (lv_at hl 0 rfl) ?_
    refine lv_iload_n hx hb dX0_shiftedDown_13 rfl (lv_at hl 2 rfl) ?_
    refine lv_lshl (v := (xj_shl y2 p2)) hx hb dX0_shiftedDown_14 rfl ?_
    refine lv_lload_n hx hb dX0_shiftedDown_15 rfl (lv_at hl 1 rfl) ?_
    refine xj_l_ne (tgt := 24) hx hb dX0_shiftedDown_16 dX0_shiftedDown_17 (by decide) (fun c3 => ?_) (fun c3 => ?_)
    · replace hF := xj_f hF c3
      refine lv_lload_n hx hb dX0_shiftedDown_24 rfl (lv_at hl 0 rfl) ?_
      refine lv_lconst (v := (1 : Int64)) hx hb dX0_shiftedDown_25 (by decide) ?_
      refine lv_lor hx hb dX0_shiftedDown_26 ?_
      exact W.lret (v := (y2 ||| (1 : Int64))) hx hb hr (fun t ht hW => ⟨⟨_, (), rfl, hF.symm, trivial⟩, hS.F ht⟩) hS.2.2 dX0_shiftedDown_27
    · replace hF := xj_t hF c3
      refine lv_lload_n hx hb dX0_shiftedDown_20 rfl (lv_at hl 0 rfl) ?_
      refine lv_goto (tgt := 27) hx hb dX0_shiftedDown_21 (by decide) ?_
      exact W.lret (v := y2) hx hb hr (fun t ht hW => ⟨⟨_, (), rfl, hF.symm, trivial⟩, hS.F ht⟩) hS.2.2 dX0_shiftedDown_27
  · replace hF := xj_f hF c1
    refine lv_lconst (v := (1 : Int64)) hx hb dX0_shiftedDown_6 (by decide) ?_
    exact W.lret (v := (1 : Int64)) hx hb hr (fun t ht hW => ⟨⟨_, (), rfl, hF.symm, trivial⟩, hS.F ht⟩) hS.2.2 dX0_shiftedDown_7
def mf_X0_storeSum (f : Nat → Int64) (u : Int32) (o : Int32) (p1 : Int32) (p2 : Int32) (p3 : Int64) (p4 : Int64) : Int32 × (Nat → Int64) × Int32 × Int32 := (xj_bnd (xj_bnd (if p3 = (0 : Int64) then p4 else p3) (fun y4 => (xj_bnd (mf_X0_storeValue f u o p1 p2 y4) (fun q5 => (q5.1, (q5.2.1, q5.2.2.1, q5.2.2.2)))))) (fun k2 => (if p3 = (0 : Int64) then k2 else (if p4 = (0 : Int64) then k2 else (xj_bnd (xj_abs p3) (fun y7 => (xj_bnd (xj_abs p4) (fun y8 => (xj_bnd (if y7 < y8 then (0 : Int32) else (1 : Int32)) (fun y10 => (xj_bnd (if y10 = 0 then p4 else p3) (fun y12 => (xj_bnd (if y10 = 0 then p3 else p4) (fun y14 => (xj_bnd (mf_X0_exponentOf y12) (fun y15 => (xj_bnd (mf_X0_exponentOf y14) (fun y16 => (xj_bnd (y15 - y16) (fun y17 => (xj_bnd (mf_X0_significandOf y12) (fun y18 => (xj_bnd (xj_shl y18 (6 : Int32)) (fun y19 => (xj_bnd (mf_X0_significandOf y14) (fun y20 => (xj_bnd (mf_X0_shiftedDown (xj_shl y20 (6 : Int32)) y17) (fun y21 => (xj_bnd (if (0 : Int64) ≤ y12 then (0 : Int32) else (1 : Int32)) (fun y23 => (xj_bnd (if (0 : Int64) ≤ y14 then (0 : Int32) else (1 : Int32)) (fun y25 => (xj_bnd (if y23 = y25 then (1 : Int32) else (0 : Int32)) (fun y27 => (xj_bnd (if y27 = 0 then (y19 - y21) else (y19 + y21)) (fun y29 => (xj_bnd (if (0 : Int64) ≤ y12 then (0 : Int32) else (1 : Int32)) (fun y31 => (xj_bnd (mf_X0_exponentOf y12) (fun y32 => (xj_bnd (mf_X0_storeRounded f u o p1 p2 y31 (y32 + (1 : Int32)) y29) (fun q33 => (q33.1, (q33.2.1, q33.2.2.1, q33.2.2.2))))))))))))))))))))))))))))))))))))))))))))
set_option maxHeartbeats 4000000 in
set_option maxRecDepth 100000 in
theorem mc_X0_storeSum (l : Launch) (dC : Nat → ClassId) (dI : Nat → Nat → Nat) (h0 h_f : Nat) (cA_f : ClassId) (f : Nat → Int64) (u : Int32) (o : Int32) (p1 : Int32) (p2 : Int32) (p3 : Int64) (p4 : Int64) (hin2 : vp_in p2 8) : xj_Oi l (dC, dI) vwCl [(cA_f, .long)] (mw_X0 h0 h_f cA_f) yX0_storeSum wsX0_storeSum ({ frames := 3, cells := 0, slots := 0, locals := 78 }) [.ref h0, .int p1, .int p2, .long p3, .long p4] (f, u, o) (mf_X0_storeSum f u o p1 p2 p3 p4) := by
  intro sz
  refine Met.ofW (cc := cX0_storeSum) (maxL := 21) (ret := (some .int)) (by decide) rfl ?_
  intro p e s m args below meth c s₁ B hml hv
  obtain ⟨rfl, hsz, hP, hK, hD0⟩ := hv
  have hx := B.exec
  have hb := B.bytes
  have hr := B.returns
  have hts := atoms_spec (ws := wsX0_storeSum) B.pre
  have hown : s.vm.findClass RX0 = some m.cls := findClass_of_methodNamed B.named
  have hlocks := B.notSynchronized
  subst hsz
  have hD := hD0.self (sz := s.heap.size)
  generalize hAe : va_A (mw_X0 h0 h_f cA_f (f, u, o)) s.heap.size = A at hD ⊢
  have hA : ∀ q : Nat, s.heap.size ≤ q → A q := fun q h => by rw [← hAe]; exact Or.inr h
  have hS : va_S A s.heap s.heap [] := va_S.rf
  have hP : va_P (dC, dI) vwCl [(h0, .inr (0, [.ref h_f, .int u, .int o])), (h_f, .inl (cA_f, 8, .inr (.inl f)))] s.heap := hP
  have hD : va_D A [(h0, .inr (0, [.ref h_f, .int u, .int o])), (h_f, .inl (cA_f, 8, .inr (.inl f)))] := hD
  generalize hT : mf_X0_storeSum f u o p1 p2 p3 p4 = T
  have hF := hT.symm
  unfold mf_X0_storeSum at hF
  have hl := lv_entry ([.ref h0, .int p1, .int p2, .long p3, .long p4]) (n := 21) (Nat.le_of_ble_eq_true rfl)
  rw [lg_entry_eq]
  generalize (lg_sl ([.ref h0, .int p1, .int p2, .long p3, .long p4]) ++ List.replicate (21 - (lg_sl ([.ref h0, .int p1, .int p2, .long p3, .long p4])).length) Slot.unset).toArray = ls at hl ⊢
  have hl : lv_has ls 21 [(0, .ref h0), (1, .int p1), (2, .int p2), (3, .long p3), (5, .long p4)] := hl
  refine lv_lload_n hx hb dX0_storeSum_0 rfl (lv_at hl 3 rfl) ?_
  refine lv_lconst (v := (0 : Int64)) hx hb dX0_storeSum_1 (by decide) ?_
  obtain ⟨k2, ek2, hF⟩ := xj_b hF
  refine xj_joinH 13 (fun H' locs' ls' st' => T = k2 ∧ va_P (dC, dI) vwCl [(h0, .inr (0, [.ref h_f, .int u, .int o])), (h_f, .inl (cA_f, 8, .inr (.inl f)))] H' ∧ va_D A [(h0, .inr (0, [.ref h_f, .int u, .int o])), (h_f, .inl (cA_f, 8, .inr (.inl f)))] ∧ va_S A s.heap H' locs' ∧ lv_has ls' 21 [(0, .ref h0), (1, .int p1), (2, .int p2), (3, .long p3), (5, .long p4)] ∧ st' = []) ?_ (fun K13 => ?_)
  · rintro H9 locs9 ls st ⟨hF, hP, hD, hS, hl, rfl⟩
    have hF := hF.trans ek2
    refine lv_aload_n hx hb dX0_storeSum_13 rfl (lv_at hl 0 rfl) ?_
    refine lv_iload_n hx hb dX0_storeSum_14 rfl (lv_at hl 1 rfl) ?_
    refine lv_iload_n hx hb dX0_storeSum_15 rfl (lv_at hl 2 rfl) ?_
    refine lv_lload_n hx hb dX0_storeSum_16 rfl (lv_at hl 3 rfl) ?_
    refine lv_lconst (v := (0 : Int64)) hx hb dX0_storeSum_17 (by decide) ?_
    obtain ⟨y4, ey4⟩ : ∃ z : Int64, z = (if p3 = (0 : Int64) then p4 else p3) := ⟨_, rfl⟩
    replace hF := xj_bz hF ey4
    refine xj_join 28 (fun ls' st' => lv_has ls' 21 [(0, .ref h0), (1, .int p1), (2, .int p2), (3, .long p3), (5, .long p4)] ∧ st' = [.long y4, .int p2, .int p1, .ref h0]) ?_ (fun K28 => ?_)
    · rintro ls st ⟨hl, rfl⟩
      obtain ⟨q5, eq5⟩ : ∃ z : Int32 × (Nat → Int64) × Int32 × Int32, z = (mf_X0_storeValue f u o p1 p2 y4) := ⟨_, rfl⟩
      replace hF := xj_bz hF eq5
      refine xj_vi (r := q5) (As := [.int p1, .int p2, .long y4]) (rest := []) (Wd := mw_X0 h0 h_f cA_f) (wr := []) ⟨hx, hb, hml, hown, hts⟩ (by rw [eq5]; exact mc_X0_storeValue l dC dI h0 h_f cA_f f u o p1 p2 y4 (hin2)) (cwV 3 hts gX0_storeSum_X0_storeValue rfl rfl rfl (by decide +kernel) ⟨Nat.le_of_ble_eq_true rfl, Nat.le_of_ble_eq_true rfl⟩) hP hK hD hS hA [0, 1] [] [0] rfl (by decide) rfl (by decide) (by decide) rfl (va_recv hK hP (ci := 0) (q0 := 0) rfl rfl) rfl hl.1 rfl (Nat.le_of_ble_eq_true rfl) dX0_storeSum_28 ⟨Nat.zero_le _, Nat.zero_le _⟩ (fun H9 locs9 hP hD hS => ?_)
      have hP : va_P (dC, dI) vwCl [(h0, .inr (0, [.ref h_f, .int q5.2.2.1, .int q5.2.2.2])), (h_f, .inl (cA_f, 8, .inr (.inl q5.2.1)))] _ := hP
      have hD : va_D A [(h0, .inr (0, [.ref h_f, .int q5.2.2.1, .int q5.2.2.2])), (h_f, .inl (cA_f, 8, .inr (.inl q5.2.1)))] := hD
      exact W.iret (v := q5.1) hx hb hr (fun t ht hW => ⟨⟨_, (q5.2.1, q5.2.2.1, q5.2.2.2), rfl, hF.symm, by rw [ht]; exact hP, hD⟩, hS.F ht⟩) hS.2.2 dX0_storeSum_31
    · refine xj_l_ne (tgt := 27) hx hb dX0_storeSum_18 dX0_storeSum_19 (by decide) (fun c3 => ?_) (fun c3 => ?_)
      · replace ey4 := xj_f ey4 c3
        refine lv_lload_n hx hb dX0_storeSum_27 rfl (lv_at hl 3 rfl) ?_
        subst ey4
        exact K28 _ _ ⟨lv_sub hl [0, 1, 2, 3, 4] rfl, rfl⟩
      · replace ey4 := xj_t ey4 c3
        refine lv_lload hx hb dX0_storeSum_22 (lv_at hl 4 rfl) ?_
        refine lv_goto (tgt := 28) hx hb dX0_storeSum_24 (by decide) ?_
        subst ey4
        exact K28 _ _ ⟨lv_sub hl [0, 1, 2, 3, 4] rfl, rfl⟩
  · refine xj_l_eq (tgt := 13) hx hb dX0_storeSum_2 dX0_storeSum_3 (by decide) (fun c1 => ?_) (fun c1 => ?_)
    · replace hF := xj_t hF c1
      exact K13 _ _ _ _ ⟨hF, hP, hD, hS, lv_sub hl [0, 1, 2, 3, 4] rfl, rfl⟩
    · replace hF := xj_f hF c1
      refine lv_lload hx hb dX0_storeSum_6 (lv_at hl 4 rfl) ?_
      refine lv_lconst (v := (0 : Int64)) hx hb dX0_storeSum_8 (by decide) ?_
      refine xj_l_ne (tgt := 32) hx hb dX0_storeSum_9 dX0_storeSum_10 (by decide) (fun c6 => ?_) (fun c6 => ?_)
      · replace hF := xj_f hF c6
        refine lv_lload_n hx hb dX0_storeSum_32 rfl (lv_at hl 3 rfl) ?_
        refine va_mabs_long (x := p3) hx hb (by rw [hml]; exact hl.1.symm) hown (hts (.methodLink RX0 63 Lib.MathLoose.abs_long.x) (by decide +kernel)) (hts (.static Lib.MathLoose.abs_long.x) (by decide +kernel)) (hts (.initialized "java/lang/Math") (by decide +kernel)) (hts _ (by decide +kernel)) (Nat.le_of_ble_eq_true rfl) (Nat.le_of_ble_eq_true rfl) (Nat.zero_le _) (Nat.zero_le _) dX0_storeSum_33 ?_
        refine lv_topl (fun y7 ey7 => ?_)
        replace hF := xj_bz hF ey7
        refine lv_lload hx hb dX0_storeSum_36 (lv_at hl 4 rfl) ?_
        refine va_mabs_long (x := p4) hx hb (by rw [hml]; exact hl.1.symm) hown (hts (.methodLink RX0 63 Lib.MathLoose.abs_long.x) (by decide +kernel)) (hts (.static Lib.MathLoose.abs_long.x) (by decide +kernel)) (hts (.initialized "java/lang/Math") (by decide +kernel)) (hts _ (by decide +kernel)) (Nat.le_of_ble_eq_true rfl) (Nat.le_of_ble_eq_true rfl) (Nat.zero_le _) (Nat.zero_le _) dX0_storeSum_38 ?_
        refine lv_topl (fun y8 ey8 => ?_)
        replace hF := xj_bz hF ey8
        obtain ⟨y10, ey10⟩ : ∃ z : Int32, z = (if y7 < y8 then (0 : Int32) else (1 : Int32)) := ⟨_, rfl⟩
        replace hF := xj_bz hF ey10
        refine xj_join 50 (fun ls' st' => lv_has ls' 21 [(0, .ref h0), (1, .int p1), (2, .int p2), (3, .long p3), (5, .long p4)] ∧ st' = [.int y10]) ?_ (fun K50 => ?_)
        · rintro ls st ⟨hl, rfl⟩
          refine lv_istore (lv' := [(7, .int y10), (0, .ref h0), (1, .int p1), (2, .int p2), (3, .long p3), (5, .long p4)]) hx hb dX0_storeSum_50 hl (by decide) rfl (fun ls hl => ?_)
          refine lv_iload hx hb dX0_storeSum_52 (lv_at hl 0 rfl) ?_
          obtain ⟨y12, ey12⟩ : ∃ z : Int64, z = (if y10 = 0 then p4 else p3) := ⟨_, rfl⟩
          replace hF := xj_bz hF ey12
          refine xj_join 63 (fun ls' st' => lv_has ls' 21 [(7, .int y10), (0, .ref h0), (1, .int p1), (2, .int p2), (3, .long p3), (5, .long p4)] ∧ st' = [.long y12]) ?_ (fun K63 => ?_)
          · rintro ls st ⟨hl, rfl⟩
            refine lv_lstore (lv' := [(8, .long y12), (7, .int y10), (0, .ref h0), (1, .int p1), (2, .int p2), (3, .long p3), (5, .long p4)]) hx hb dX0_storeSum_63 hl (by decide) rfl (fun ls hl => ?_)
            refine lv_iload hx hb dX0_storeSum_65 (lv_at hl 1 rfl) ?_
            obtain ⟨y14, ey14⟩ : ∃ z : Int64, z = (if y10 = 0 then p3 else p4) := ⟨_, rfl⟩
            replace hF := xj_bz hF ey14
            refine xj_join 76 (fun ls' st' => lv_has ls' 21 [(8, .long y12), (7, .int y10), (0, .ref h0), (1, .int p1), (2, .int p2), (3, .long p3), (5, .long p4)] ∧ st' = [.long y14]) ?_ (fun K76 => ?_)
            · rintro ls st ⟨hl, rfl⟩
              refine lv_lstore (lv' := [(10, .long y14), (8, .long y12), (7, .int y10), (0, .ref h0), (1, .int p1), (2, .int p2), (3, .long p3), (5, .long p4)]) hx hb dX0_storeSum_76 hl (by decide) rfl (fun ls hl => ?_)
              refine lv_bipush (v := (6 : Int32)) hx hb dX0_storeSum_78 (by decide) ?_
              refine lv_istore (lv' := [(12, .int (6 : Int32)), (10, .long y14), (8, .long y12), (7, .int y10), (0, .ref h0), (1, .int p1), (2, .int p2), (3, .long p3), (5, .long p4)]) hx hb dX0_storeSum_80 hl (by decide) rfl (fun ls hl => ?_)
              refine lv_lload hx hb dX0_storeSum_82 (lv_at hl 2 rfl) ?_
              refine xj_si (As := [.long y12]) (rest := []) ⟨hx, hb, hml, hown, hts⟩ (mc_X0_exponentOf l y12) (va_cwS 1 hts gX0_storeSum_X0_exponentOf rfl rfl rfl (by decide +kernel) ⟨Nat.le_of_ble_eq_true rfl, Nat.le_of_ble_eq_true rfl⟩) hS hA rfl hl.1 rfl (Nat.le_of_ble_eq_true rfl) dX0_storeSum_84 ⟨Nat.zero_le _, Nat.zero_le _⟩ (fun H9 locs9 hk9 hS => ?_)
              have hP := xj_kept hP hk9
              refine lv_topi (fun y15 ey15 => ?_)
              replace hF := xj_bz hF ey15
              refine lv_lload hx hb dX0_storeSum_87 (lv_at hl 1 rfl) ?_
              refine xj_si (As := [.long y14]) (rest := [.int y15]) ⟨hx, hb, hml, hown, hts⟩ (mc_X0_exponentOf l y14) (va_cwS 1 hts gX0_storeSum_X0_exponentOf rfl rfl rfl (by decide +kernel) ⟨Nat.le_of_ble_eq_true rfl, Nat.le_of_ble_eq_true rfl⟩) hS hA rfl hl.1 rfl (Nat.le_of_ble_eq_true rfl) dX0_storeSum_89 ⟨Nat.zero_le _, Nat.zero_le _⟩ (fun H9 locs9 hk9 hS => ?_)
              have hP := xj_kept hP hk9
              refine lv_topi (fun y16 ey16 => ?_)
              replace hF := xj_bz hF ey16
              refine lv_isub hx hb dX0_storeSum_92 ?_
              refine lv_topi (fun y17 ey17 => ?_)
              replace hF := xj_bz hF ey17
              refine lv_istore (lv' := [(13, .int y17), (12, .int (6 : Int32)), (10, .long y14), (8, .long y12), (7, .int y10), (0, .ref h0), (1, .int p1), (2, .int p2), (3, .long p3), (5, .long p4)]) hx hb dX0_storeSum_93 hl (by decide) rfl (fun ls hl => ?_)
              refine lv_lload hx hb dX0_storeSum_95 (lv_at hl 3 rfl) ?_
              refine xj_sl (As := [.long y12]) (rest := []) ⟨hx, hb, hml, hown, hts⟩ (mc_X0_significandOf l y12) (va_cwS 1 hts gX0_storeSum_X0_significandOf rfl rfl rfl (by decide +kernel) ⟨Nat.le_of_ble_eq_true rfl, Nat.le_of_ble_eq_true rfl⟩) hS hA rfl hl.1 rfl (Nat.le_of_ble_eq_true rfl) dX0_storeSum_97 ⟨Nat.zero_le _, Nat.zero_le _⟩ (fun H9 locs9 hk9 hS => ?_)
              have hP := xj_kept hP hk9
              refine lv_topl (fun y18 ey18 => ?_)
              replace hF := xj_bz hF ey18
              refine lv_iload hx hb dX0_storeSum_100 (lv_at hl 1 rfl) ?_
              refine lv_lshl (v := (xj_shl y18 (6 : Int32))) hx hb dX0_storeSum_102 rfl ?_
              refine lv_topl (fun y19 ey19 => ?_)
              replace hF := xj_bz hF ey19
              refine lv_lstore (lv' := [(14, .long y19), (13, .int y17), (12, .int (6 : Int32)), (10, .long y14), (8, .long y12), (7, .int y10), (0, .ref h0), (1, .int p1), (2, .int p2), (3, .long p3), (5, .long p4)]) hx hb dX0_storeSum_103 hl (by decide) rfl (fun ls hl => ?_)
              refine lv_lload hx hb dX0_storeSum_105 (lv_at hl 3 rfl) ?_
              refine xj_sl (As := [.long y14]) (rest := []) ⟨hx, hb, hml, hown, hts⟩ (mc_X0_significandOf l y14) (va_cwS 1 hts gX0_storeSum_X0_significandOf rfl rfl rfl (by decide +kernel) ⟨Nat.le_of_ble_eq_true rfl, Nat.le_of_ble_eq_true rfl⟩) hS hA rfl hl.1 rfl (Nat.le_of_ble_eq_true rfl) dX0_storeSum_107 ⟨Nat.zero_le _, Nat.zero_le _⟩ (fun H9 locs9 hk9 hS => ?_)
              have hP := xj_kept hP hk9
              refine lv_topl (fun y20 ey20 => ?_)
              replace hF := xj_bz hF ey20
              refine lv_iload hx hb dX0_storeSum_110 (lv_at hl 2 rfl) ?_
              refine lv_lshl (v := (xj_shl y20 (6 : Int32))) hx hb dX0_storeSum_112 rfl ?_
              refine lv_iload hx hb dX0_storeSum_113 (lv_at hl 1 rfl) ?_
              refine xj_sl (As := [.long (xj_shl y20 (6 : Int32)), .int y17]) (rest := []) ⟨hx, hb, hml, hown, hts⟩ (mc_X0_shiftedDown l (xj_shl y20 (6 : Int32)) y17) (va_cwS 2 hts gX0_storeSum_X0_shiftedDown rfl rfl rfl (by decide +kernel) ⟨Nat.le_of_ble_eq_true rfl, Nat.le_of_ble_eq_true rfl⟩) hS hA rfl hl.1 rfl (Nat.le_of_ble_eq_true rfl) dX0_storeSum_115 ⟨Nat.zero_le _, Nat.zero_le _⟩ (fun H9 locs9 hk9 hS => ?_)
              have hP := xj_kept hP hk9
              refine lv_topl (fun y21 ey21 => ?_)
              replace hF := xj_bz hF ey21
              refine lv_lstore (lv' := [(16, .long y21), (14, .long y19), (13, .int y17), (12, .int (6 : Int32)), (10, .long y14), (8, .long y12), (7, .int y10), (0, .ref h0), (1, .int p1), (2, .int p2), (3, .long p3), (5, .long p4)]) hx hb dX0_storeSum_118 hl (by decide) rfl (fun ls hl => ?_)
              refine lv_lload hx hb dX0_storeSum_120 (lv_at hl 5 rfl) ?_
              refine lv_lconst (v := (0 : Int64)) hx hb dX0_storeSum_122 (by decide) ?_
              obtain ⟨y23, ey23⟩ : ∃ z : Int32, z = (if (0 : Int64) ≤ y12 then (0 : Int32) else (1 : Int32)) := ⟨_, rfl⟩
              replace hF := xj_bz hF ey23
              refine xj_join 132 (fun ls' st' => lv_has ls' 21 [(16, .long y21), (14, .long y19), (13, .int y17), (12, .int (6 : Int32)), (10, .long y14), (8, .long y12), (7, .int y10), (0, .ref h0), (1, .int p1), (2, .int p2), (3, .long p3), (5, .long p4)] ∧ st' = [.int y23]) ?_ (fun K132 => ?_)
              · rintro ls st ⟨hl, rfl⟩
                refine lv_lload hx hb dX0_storeSum_132 (lv_at hl 4 rfl) ?_
                refine lv_lconst (v := (0 : Int64)) hx hb dX0_storeSum_134 (by decide) ?_
                obtain ⟨y25, ey25⟩ : ∃ z : Int32, z = (if (0 : Int64) ≤ y14 then (0 : Int32) else (1 : Int32)) := ⟨_, rfl⟩
                replace hF := xj_bz hF ey25
                refine xj_join 144 (fun ls' st' => lv_has ls' 21 [(16, .long y21), (14, .long y19), (13, .int y17), (12, .int (6 : Int32)), (10, .long y14), (8, .long y12), (7, .int y10), (0, .ref h0), (1, .int p1), (2, .int p2), (3, .long p3), (5, .long p4)] ∧ st' = [.int y25, .int y23]) ?_ (fun K144 => ?_)
                · rintro ls st ⟨hl, rfl⟩
                  obtain ⟨y27, ey27⟩ : ∃ z : Int32, z = (if y23 = y25 then (1 : Int32) else (0 : Int32)) := ⟨_, rfl⟩
                  replace hF := xj_bz hF ey27
                  refine xj_join 152 (fun ls' st' => lv_has ls' 21 [(16, .long y21), (14, .long y19), (13, .int y17), (12, .int (6 : Int32)), (10, .long y14), (8, .long y12), (7, .int y10), (0, .ref h0), (1, .int p1), (2, .int p2), (3, .long p3), (5, .long p4)] ∧ st' = [.int y27]) ?_ (fun K152 => ?_)
                  · rintro ls st ⟨hl, rfl⟩
                    refine lv_istore (lv' := [(18, .int y27), (16, .long y21), (14, .long y19), (13, .int y17), (12, .int (6 : Int32)), (10, .long y14), (8, .long y12), (7, .int y10), (0, .ref h0), (1, .int p1), (2, .int p2), (3, .long p3), (5, .long p4)]) hx hb dX0_storeSum_152 hl (by decide) rfl (fun ls hl => ?_)
                    refine lv_iload hx hb dX0_storeSum_154 (lv_at hl 0 rfl) ?_
                    obtain ⟨y29, ey29⟩ : ∃ z : Int64, z = (if y27 = 0 then (y19 - y21) else (y19 + y21)) := ⟨_, rfl⟩
                    replace hF := xj_bz hF ey29
                    refine xj_join 172 (fun ls' st' => lv_has ls' 21 [(18, .int y27), (16, .long y21), (14, .long y19), (13, .int y17), (12, .int (6 : Int32)), (10, .long y14), (8, .long y12), (7, .int y10), (0, .ref h0), (1, .int p1), (2, .int p2), (3, .long p3), (5, .long p4)] ∧ st' = [.long y29]) ?_ (fun K172 => ?_)
                    · rintro ls st ⟨hl, rfl⟩
                      refine lv_lstore (lv' := [(19, .long y29), (18, .int y27), (16, .long y21), (14, .long y19), (13, .int y17), (12, .int (6 : Int32)), (10, .long y14), (8, .long y12), (7, .int y10), (0, .ref h0), (1, .int p1), (2, .int p2), (3, .long p3), (5, .long p4)]) hx hb dX0_storeSum_172 hl (by decide) rfl (fun ls hl => ?_)
                      refine lv_aload_n hx hb dX0_storeSum_174 rfl (lv_at hl 9 rfl) ?_
                      refine lv_iload_n hx hb dX0_storeSum_175 rfl (lv_at hl 10 rfl) ?_
                      refine lv_iload_n hx hb dX0_storeSum_176 rfl (lv_at hl 11 rfl) ?_
                      refine lv_lload hx hb dX0_storeSum_177 (lv_at hl 7 rfl) ?_
                      refine lv_lconst (v := (0 : Int64)) hx hb dX0_storeSum_179 (by decide) ?_
                      obtain ⟨y31, ey31⟩ : ∃ z : Int32, z = (if (0 : Int64) ≤ y12 then (0 : Int32) else (1 : Int32)) := ⟨_, rfl⟩
                      replace hF := xj_bz hF ey31
                      refine xj_join 189 (fun ls' st' => lv_has ls' 21 [(19, .long y29), (18, .int y27), (16, .long y21), (14, .long y19), (13, .int y17), (12, .int (6 : Int32)), (10, .long y14), (8, .long y12), (7, .int y10), (0, .ref h0), (1, .int p1), (2, .int p2), (3, .long p3), (5, .long p4)] ∧ st' = [.int y31, .int p2, .int p1, .ref h0]) ?_ (fun K189 => ?_)
                      · rintro ls st ⟨hl, rfl⟩
                        refine lv_lload hx hb dX0_storeSum_189 (lv_at hl 7 rfl) ?_
                        refine xj_si (As := [.long y12]) (rest := [.int y31, .int p2, .int p1, .ref h0]) ⟨hx, hb, hml, hown, hts⟩ (mc_X0_exponentOf l y12) (va_cwS 1 hts gX0_storeSum_X0_exponentOf rfl rfl rfl (by decide +kernel) ⟨Nat.le_of_ble_eq_true rfl, Nat.le_of_ble_eq_true rfl⟩) hS hA rfl hl.1 rfl (Nat.le_of_ble_eq_true rfl) dX0_storeSum_191 ⟨Nat.zero_le _, Nat.zero_le _⟩ (fun H9 locs9 hk9 hS => ?_)
                        have hP := xj_kept hP hk9
                        refine lv_topi (fun y32 ey32 => ?_)
                        replace hF := xj_bz hF ey32
                        refine lv_iconst (v := (1 : Int32)) hx hb dX0_storeSum_194 (by decide) ?_
                        refine lv_iadd hx hb dX0_storeSum_195 ?_
                        refine lv_lload hx hb dX0_storeSum_196 (lv_at hl 0 rfl) ?_
                        obtain ⟨q33, eq33⟩ : ∃ z : Int32 × (Nat → Int64) × Int32 × Int32, z = (mf_X0_storeRounded f u o p1 p2 y31 (y32 + (1 : Int32)) y29) := ⟨_, rfl⟩
                        replace hF := xj_bz hF eq33
                        refine xj_vi (r := q33) (As := [.int p1, .int p2, .int y31, .int (y32 + (1 : Int32)), .long y29]) (rest := []) (Wd := mw_X0 h0 h_f cA_f) (wr := []) ⟨hx, hb, hml, hown, hts⟩ (by rw [eq33]; exact mc_X0_storeRounded l dC dI h0 h_f cA_f f u o p1 p2 y31 (y32 + (1 : Int32)) y29 (hin2)) (cwV 5 hts gX0_storeSum_X0_storeRounded rfl rfl rfl (by decide +kernel) ⟨Nat.le_of_ble_eq_true rfl, Nat.le_of_ble_eq_true rfl⟩) hP hK hD hS hA [0, 1] [] [0] rfl (by decide) rfl (by decide) (by decide) rfl (va_recv hK hP (ci := 0) (q0 := 0) rfl rfl) rfl hl.1 rfl (Nat.le_of_ble_eq_true rfl) dX0_storeSum_198 ⟨Nat.zero_le _, Nat.zero_le _⟩ (fun H9 locs9 hP hD hS => ?_)
                        have hP : va_P (dC, dI) vwCl [(h0, .inr (0, [.ref h_f, .int q33.2.2.1, .int q33.2.2.2])), (h_f, .inl (cA_f, 8, .inr (.inl q33.2.1)))] _ := hP
                        have hD : va_D A [(h0, .inr (0, [.ref h_f, .int q33.2.2.1, .int q33.2.2.2])), (h_f, .inl (cA_f, 8, .inr (.inl q33.2.1)))] := hD
                        exact W.iret (v := q33.1) hx hb hr (fun t ht hW => ⟨⟨_, (q33.2.1, q33.2.2.1, q33.2.2.2), rfl, hF.symm, by rw [ht]; exact hP, hD⟩, hS.F ht⟩) hS.2.2 dX0_storeSum_201
                      · refine xj_l_ge (tgt := 188) hx hb dX0_storeSum_180 dX0_storeSum_181 (by decide) (fun c30 => ?_) (fun c30 => ?_)
                        · replace ey31 := xj_t ey31 c30
                          refine lv_iconst (v := (0 : Int32)) hx hb dX0_storeSum_188 (by decide) ?_
                          subst ey31
                          exact K189 _ _ ⟨lv_sub hl [0, 1, 2, 3, 4, 5, 6, 7, 8, 9, 10, 11, 12, 13] rfl, rfl⟩
                        · replace ey31 := xj_f ey31 c30
                          refine lv_iconst (v := (1 : Int32)) hx hb dX0_storeSum_184 (by decide) ?_
                          refine lv_goto (tgt := 189) hx hb dX0_storeSum_185 (by decide) ?_
                          subst ey31
                          exact K189 _ _ ⟨lv_sub hl [0, 1, 2, 3, 4, 5, 6, 7, 8, 9, 10, 11, 12, 13] rfl, rfl⟩
                    · refine lv_if_eq (tgt := 167) hx hb dX0_storeSum_156 (by decide) (fun c28 => ?_) (fun c28 => ?_)
                      · replace ey29 := xj_t ey29 c28
                        refine lv_lload hx hb dX0_storeSum_167 (lv_at hl 2 rfl) ?_
                        refine lv_lload hx hb dX0_storeSum_169 (lv_at hl 1 rfl) ?_
                        refine lv_lsub hx hb dX0_storeSum_171 ?_
                        subst ey29
                        exact K172 _ _ ⟨lv_sub hl [0, 1, 2, 3, 4, 5, 6, 7, 8, 9, 10, 11, 12] rfl, rfl⟩
                      · replace ey29 := xj_f ey29 c28
                        refine lv_lload hx hb dX0_storeSum_159 (lv_at hl 2 rfl) ?_
                        refine lv_lload hx hb dX0_storeSum_161 (lv_at hl 1 rfl) ?_
                        refine lv_ladd hx hb dX0_storeSum_163 ?_
                        refine lv_goto (tgt := 172) hx hb dX0_storeSum_164 (by decide) ?_
                        subst ey29
                        exact K172 _ _ ⟨lv_sub hl [0, 1, 2, 3, 4, 5, 6, 7, 8, 9, 10, 11, 12] rfl, rfl⟩
                  · refine lv_icmp_ne (tgt := 151) hx hb dX0_storeSum_144 (by decide) (fun c26 => ?_) (fun c26 => ?_)
                    · replace ey27 := xj_f ey27 c26
                      refine lv_iconst (v := (0 : Int32)) hx hb dX0_storeSum_151 (by decide) ?_
                      subst ey27
                      exact K152 _ _ ⟨lv_sub hl [0, 1, 2, 3, 4, 5, 6, 7, 8, 9, 10, 11] rfl, rfl⟩
                    · replace ey27 := xj_t ey27 c26
                      refine lv_iconst (v := (1 : Int32)) hx hb dX0_storeSum_147 (by decide) ?_
                      refine lv_goto (tgt := 152) hx hb dX0_storeSum_148 (by decide) ?_
                      subst ey27
                      exact K152 _ _ ⟨lv_sub hl [0, 1, 2, 3, 4, 5, 6, 7, 8, 9, 10, 11] rfl, rfl⟩
                · refine xj_l_ge (tgt := 143) hx hb dX0_storeSum_135 dX0_storeSum_136 (by decide) (fun c24 => ?_) (fun c24 => ?_)
                  · replace ey25 := xj_t ey25 c24
                    refine lv_iconst (v := (0 : Int32)) hx hb dX0_storeSum_143 (by decide) ?_
                    subst ey25
                    exact K144 _ _ ⟨lv_sub hl [0, 1, 2, 3, 4, 5, 6, 7, 8, 9, 10, 11] rfl, rfl⟩
                  · replace ey25 := xj_f ey25 c24
                    refine lv_iconst (v := (1 : Int32)) hx hb dX0_storeSum_139 (by decide) ?_
                    refine lv_goto (tgt := 144) hx hb dX0_storeSum_140 (by decide) ?_
                    subst ey25
                    exact K144 _ _ ⟨lv_sub hl [0, 1, 2, 3, 4, 5, 6, 7, 8, 9, 10, 11] rfl, rfl⟩
              · refine xj_l_ge (tgt := 131) hx hb dX0_storeSum_123 dX0_storeSum_124 (by decide) (fun c22 => ?_) (fun c22 => ?_)
                · replace ey23 := xj_t ey23 c22
                  refine lv_iconst (v := (0 : Int32)) hx hb dX0_storeSum_131 (by decide) ?_
                  subst ey23
                  exact K132 _ _ ⟨lv_sub hl [0, 1, 2, 3, 4, 5, 6, 7, 8, 9, 10, 11] rfl, rfl⟩
                · replace ey23 := xj_f ey23 c22
                  refine lv_iconst (v := (1 : Int32)) hx hb dX0_storeSum_127 (by decide) ?_
                  refine lv_goto (tgt := 132) hx hb dX0_storeSum_128 (by decide) ?_
                  subst ey23
                  exact K132 _ _ ⟨lv_sub hl [0, 1, 2, 3, 4, 5, 6, 7, 8, 9, 10, 11] rfl, rfl⟩
            · refine lv_if_eq (tgt := 75) hx hb dX0_storeSum_67 (by decide) (fun c13 => ?_) (fun c13 => ?_)
              · replace ey14 := xj_t ey14 c13
                refine lv_lload_n hx hb dX0_storeSum_75 rfl (lv_at hl 5 rfl) ?_
                subst ey14
                exact K76 _ _ ⟨lv_sub hl [0, 1, 2, 3, 4, 5, 6] rfl, rfl⟩
              · replace ey14 := xj_f ey14 c13
                refine lv_lload hx hb dX0_storeSum_70 (lv_at hl 6 rfl) ?_
                refine lv_goto (tgt := 76) hx hb dX0_storeSum_72 (by decide) ?_
                subst ey14
                exact K76 _ _ ⟨lv_sub hl [0, 1, 2, 3, 4, 5, 6] rfl, rfl⟩
          · refine lv_if_eq (tgt := 61) hx hb dX0_storeSum_54 (by decide) (fun c11 => ?_) (fun c11 => ?_)
            · replace ey12 := xj_t ey12 c11
              refine lv_lload hx hb dX0_storeSum_61 (lv_at hl 5 rfl) ?_
              subst ey12
              exact K63 _ _ ⟨lv_sub hl [0, 1, 2, 3, 4, 5] rfl, rfl⟩
            · replace ey12 := xj_f ey12 c11
              refine lv_lload_n hx hb dX0_storeSum_57 rfl (lv_at hl 4 rfl) ?_
              refine lv_goto (tgt := 63) hx hb dX0_storeSum_58 (by decide) ?_
              subst ey12
              exact K63 _ _ ⟨lv_sub hl [0, 1, 2, 3, 4, 5] rfl, rfl⟩
        · refine xj_l_lt (tgt := 49) hx hb dX0_storeSum_41 dX0_storeSum_42 (by decide) (fun c9 => ?_) (fun c9 => ?_)
          · replace ey10 := xj_t ey10 c9
            refine lv_iconst (v := (0 : Int32)) hx hb dX0_storeSum_49 (by decide) ?_
            subst ey10
            exact K50 _ _ ⟨lv_sub hl [0, 1, 2, 3, 4] rfl, rfl⟩
          · replace ey10 := xj_f ey10 c9
            refine lv_iconst (v := (1 : Int32)) hx hb dX0_storeSum_45 (by decide) ?_
            refine lv_goto (tgt := 50) hx hb dX0_storeSum_46 (by decide) ?_
            subst ey10
            exact K50 _ _ ⟨lv_sub hl [0, 1, 2, 3, 4] rfl, rfl⟩
      · replace hF := xj_t hF c6
        exact K13 _ _ _ _ ⟨hF, hP, hD, hS, lv_sub hl [0, 1, 2, 3, 4] rfl, rfl⟩
def mf_X0_wideProduct (p1 : Int64) (p2 : Int64) : Int64 := (xj_bnd (xj_ush p1 (28 : Int32)) (fun y1 => (xj_bnd (p1 &&& (268435455 : Int64)) (fun y2 => (xj_bnd (xj_ush p2 (28 : Int32)) (fun y3 => (xj_bnd (p2 &&& (268435455 : Int64)) (fun y4 => (xj_bnd ((y1 * y4) + (y2 * y3)) (fun y5 => (xj_bnd ((y2 * y4) + (xj_shl (y5 &&& (268435455 : Int64)) (28 : Int32))) (fun y6 => (xj_bnd (((y1 * y3) + (xj_ush y5 (28 : Int32))) + (xj_ush y6 (56 : Int32))) (fun y7 => (xj_bnd (y6 &&& (72057594037927935 : Int64)) (fun y8 => (xj_bnd ((xj_shl y7 (7 : Int32)) ||| (xj_ush y8 (49 : Int32))) (fun y9 => (if (y8 &&& ((xj_shl (1 : Int64) (49 : Int32)) - (1 : Int64))) = (0 : Int64) then y9 else (y9 ||| (1 : Int64)))))))))))))))))))))
set_option maxHeartbeats 4000000 in
set_option maxRecDepth 100000 in
theorem mc_X0_wideProduct (l : Launch) (p1 : Int64) (p2 : Int64) : xj_Pl l yX0_wideProduct wsX0_wideProduct ({ frames := 0, cells := 0, slots := 0, locals := 0 }) [.long p1, .long p2] (mf_X0_wideProduct p1 p2) := by
  intro sz
  refine Met.ofW (cc := cX0_wideProduct) (maxL := 23) (ret := (some .long)) (by decide) rfl ?_
  intro p e s m args below meth c s₁ B hml hv
  obtain ⟨rfl, hsz⟩ := hv
  have hx := B.exec
  have hb := B.bytes
  have hr := B.returns
  have hts := atoms_spec (ws := wsX0_wideProduct) B.pre
  have hown : s.vm.findClass RX0 = some m.cls := findClass_of_methodNamed B.named
  have hlocks := B.notSynchronized
  subst hsz
  generalize hAe : va_A [] s.heap.size = A
  have hA : ∀ q : Nat, s.heap.size ≤ q → A q := fun q h => by rw [← hAe]; exact Or.inr h
  have hS : va_S A s.heap s.heap [] := va_S.rf
  generalize hT : mf_X0_wideProduct p1 p2 = T
  have hF := hT.symm
  unfold mf_X0_wideProduct at hF
  have hl := lv_entry ([.long p1, .long p2]) (n := 23) (Nat.le_of_ble_eq_true rfl)
  rw [lg_entry_eq]
  generalize (lg_sl ([.long p1, .long p2]) ++ List.replicate (23 - (lg_sl ([.long p1, .long p2])).length) Slot.unset).toArray = ls at hl ⊢
  have hl : lv_has ls 23 [(0, .long p1), (2, .long p2)] := hl
  refine lv_lload_n hx hb dX0_wideProduct_0 rfl (lv_at hl 0 rfl) ?_
  refine lv_bipush (v := (28 : Int32)) hx hb dX0_wideProduct_1 (by decide) ?_
  refine lv_lushr (v := (xj_ush p1 (28 : Int32))) hx hb dX0_wideProduct_3 rfl ?_
  refine lv_topl (fun y1 ey1 => ?_)
  replace hF := xj_bz hF ey1
  refine lv_lstore (lv' := [(4, .long y1), (0, .long p1), (2, .long p2)]) hx hb dX0_wideProduct_4 hl (by decide) rfl (fun ls hl => ?_)
  refine lv_lload_n hx hb dX0_wideProduct_6 rfl (lv_at hl 1 rfl) ?_
  refine lv_ldc2 (own := RX0) (v := (268435455 : Int64)) hx hb hown (hts (.constantLong RX0 117 (268435455 : Int64)) (by decide +kernel)) dX0_wideProduct_7 ?_
  refine lv_land hx hb dX0_wideProduct_10 ?_
  refine lv_topl (fun y2 ey2 => ?_)
  replace hF := xj_bz hF ey2
  refine lv_lstore (lv' := [(6, .long y2), (4, .long y1), (0, .long p1), (2, .long p2)]) hx hb dX0_wideProduct_11 hl (by decide) rfl (fun ls hl => ?_)
  refine lv_lload_n hx hb dX0_wideProduct_13 rfl (lv_at hl 3 rfl) ?_
  refine lv_bipush (v := (28 : Int32)) hx hb dX0_wideProduct_14 (by decide) ?_
  refine lv_lushr (v := (xj_ush p2 (28 : Int32))) hx hb dX0_wideProduct_16 rfl ?_
  refine lv_topl (fun y3 ey3 => ?_)
  replace hF := xj_bz hF ey3
  refine lv_lstore (lv' := [(8, .long y3), (6, .long y2), (4, .long y1), (0, .long p1), (2, .long p2)]) hx hb dX0_wideProduct_17 hl (by decide) rfl (fun ls hl => ?_)
  refine lv_lload_n hx hb dX0_wideProduct_19 rfl (lv_at hl 4 rfl) ?_
  refine lv_ldc2 (own := RX0) (v := (268435455 : Int64)) hx hb hown (hts (.constantLong RX0 117 (268435455 : Int64)) (by decide +kernel)) dX0_wideProduct_20 ?_
  refine lv_land hx hb dX0_wideProduct_23 ?_
  refine lv_topl (fun y4 ey4 => ?_)
  replace hF := xj_bz hF ey4
  refine lv_lstore (lv' := [(10, .long y4), (8, .long y3), (6, .long y2), (4, .long y1), (0, .long p1), (2, .long p2)]) hx hb dX0_wideProduct_24 hl (by decide) rfl (fun ls hl => ?_)
  refine lv_lload hx hb dX0_wideProduct_26 (lv_at hl 3 rfl) ?_
  refine lv_lload hx hb dX0_wideProduct_28 (lv_at hl 0 rfl) ?_
  refine lv_lmul hx hb dX0_wideProduct_30 ?_
  refine lv_lload hx hb dX0_wideProduct_31 (lv_at hl 2 rfl) ?_
  refine lv_lload hx hb dX0_wideProduct_33 (lv_at hl 1 rfl) ?_
  refine lv_lmul hx hb dX0_wideProduct_35 ?_
  refine lv_ladd hx hb dX0_wideProduct_36 ?_
  refine lv_topl (fun y5 ey5 => ?_)
  replace hF := xj_bz hF ey5
  refine lv_lstore (lv' := [(12, .long y5), (10, .long y4), (8, .long y3), (6, .long y2), (4, .long y1), (0, .long p1), (2, .long p2)]) hx hb dX0_wideProduct_37 hl (by decide) rfl (fun ls hl => ?_)
  refine lv_lload hx hb dX0_wideProduct_39 (lv_at hl 3 rfl) ?_
  refine lv_lload hx hb dX0_wideProduct_41 (lv_at hl 1 rfl) ?_
  refine lv_lmul hx hb dX0_wideProduct_43 ?_
  refine lv_lload hx hb dX0_wideProduct_44 (lv_at hl 0 rfl) ?_
  refine lv_ldc2 (own := RX0) (v := (268435455 : Int64)) hx hb hown (hts (.constantLong RX0 117 (268435455 : Int64)) (by decide +kernel)) dX0_wideProduct_46 ?_
  refine lv_land hx hb dX0_wideProduct_49 ?_
  refine lv_bipush (v := (28 : Int32)) hx hb dX0_wideProduct_50 (by decide) ?_
  refine lv_lshl (v := (xj_shl (y5 &&& (268435455 : Int64)) (28 : Int32))) hx hb dX0_wideProduct_52 rfl ?_
  refine lv_ladd hx hb dX0_wideProduct_53 ?_
  refine lv_topl (fun y6 ey6 => ?_)
  replace hF := xj_bz hF ey6
  refine lv_lstore (lv' := [(14, .long y6), (12, .long y5), (10, .long y4), (8, .long y3), (6, .long y2), (4, .long y1), (0, .long p1), (2, .long p2)]) hx hb dX0_wideProduct_54 hl (by decide) rfl (fun ls hl => ?_)
  refine lv_lload hx hb dX0_wideProduct_56 (lv_at hl 5 rfl) ?_
  refine lv_lload hx hb dX0_wideProduct_58 (lv_at hl 3 rfl) ?_
  refine lv_lmul hx hb dX0_wideProduct_60 ?_
  refine lv_lload hx hb dX0_wideProduct_61 (lv_at hl 1 rfl) ?_
  refine lv_bipush (v := (28 : Int32)) hx hb dX0_wideProduct_63 (by decide) ?_
  refine lv_lushr (v := (xj_ush y5 (28 : Int32))) hx hb dX0_wideProduct_65 rfl ?_
  refine lv_ladd hx hb dX0_wideProduct_66 ?_
  refine lv_lload hx hb dX0_wideProduct_67 (lv_at hl 0 rfl) ?_
  refine lv_bipush (v := (56 : Int32)) hx hb dX0_wideProduct_69 (by decide) ?_
  refine lv_lushr (v := (xj_ush y6 (56 : Int32))) hx hb dX0_wideProduct_71 rfl ?_
  refine lv_ladd hx hb dX0_wideProduct_72 ?_
  refine lv_topl (fun y7 ey7 => ?_)
  replace hF := xj_bz hF ey7
  refine lv_lstore (lv' := [(16, .long y7), (14, .long y6), (12, .long y5), (10, .long y4), (8, .long y3), (6, .long y2), (4, .long y1), (0, .long p1), (2, .long p2)]) hx hb dX0_wideProduct_73 hl (by decide) rfl (fun ls hl => ?_)
  refine lv_lload hx hb dX0_wideProduct_75 (lv_at hl 1 rfl) ?_
  refine lv_ldc2 (own := RX0) (v := (72057594037927935 : Int64)) hx hb hown (hts (.constantLong RX0 119 (72057594037927935 : Int64)) (by decide +kernel)) dX0_wideProduct_77 ?_
  refine lv_land hx hb dX0_wideProduct_80 ?_
  refine lv_topl (fun y8 ey8 => ?_)
  replace hF := xj_bz hF ey8
  refine lv_lstore (lv' := [(18, .long y8), (16, .long y7), (14, .long y6), (12, .long y5), (10, .long y4), (8, .long y3), (6, .long y2), (4, .long y1), (0, .long p1), (2, .long p2)]) hx hb dX0_wideProduct_81 hl (by decide) rfl (fun ls hl => ?_)
  refine lv_bipush (v := (49 : Int32)) hx hb dX0_wideProduct_83 (by decide) ?_
  refine lv_istore (lv' := [(20, .int (49 : Int32)), (18, .long y8), (16, .long y7), (14, .long y6), (12, .long y5), (10, .long y4), (8, .long y3), (6, .long y2), (4, .long y1), (0, .long p1), (2, .long p2)]) hx hb dX0_wideProduct_85 hl (by decide) rfl (fun ls hl => ?_)
  refine lv_lload hx hb dX0_wideProduct_87 (lv_at hl 2 rfl) ?_
  refine lv_bipush (v := (7 : Int32)) hx hb dX0_wideProduct_89 (by decide) ?_
  refine lv_lshl (v := (xj_shl y7 (7 : Int32))) hx hb dX0_wideProduct_91 rfl ?_
  refine lv_lload hx hb dX0_wideProduct_92 (lv_at hl 1 rfl) ?_
  refine lv_iload hx hb dX0_wideProduct_94 (lv_at hl 0 rfl) ?_
  refine lv_lushr (v := (xj_ush y8 (49 : Int32))) hx hb dX0_wideProduct_96 rfl ?_
  refine lv_lor hx hb dX0_wideProduct_97 ?_
  refine lv_topl (fun y9 ey9 => ?_)
  replace hF := xj_bz hF ey9
  refine lv_lstore (lv' := [(21, .long y9), (20, .int (49 : Int32)), (18, .long y8), (16, .long y7), (14, .long y6), (12, .long y5), (10, .long y4), (8, .long y3), (6, .long y2), (4, .long y1), (0, .long p1), (2, .long p2)]) hx hb dX0_wideProduct_98 hl (by decide) rfl (fun ls hl => ?_)
  refine lv_lload hx hb dX0_wideProduct_100 (lv_at hl 2 rfl) ?_
  refine lv_lconst (v := (1 : Int64)) hx hb dX0_wideProduct_102 (by decide) ?_
  refine lv_iload hx hb dX0_wideProduct_103 (lv_at hl 1 rfl) ?_
  refine lv_lshl (v := (xj_shl (1 : Int64) (49 : Int32))) hx hb dX0_wideProduct_105 rfl ?_
  refine lv_lconst (v := (1 : Int64)) hx hb dX0_wideProduct_106 (by decide) ?_
  refine lv_lsub hx hb dX0_wideProduct_107 ?_
  refine lv_land hx hb dX0_wideProduct_108 ?_
  refine lv_lconst (v := (0 : Int64)) hx hb dX0_wideProduct_109 (by decide) ?_
  refine xj_l_eq (tgt := 121) hx hb dX0_wideProduct_110 dX0_wideProduct_111 (by decide) (fun c10 => ?_) (fun c10 => ?_)
  · replace hF := xj_t hF c10
    refine lv_lload hx hb dX0_wideProduct_121 (lv_at hl 0 rfl) ?_
    exact W.lret (v := y9) hx hb hr (fun t ht hW => ⟨⟨_, (), rfl, hF.symm, trivial⟩, hS.F ht⟩) hS.2.2 dX0_wideProduct_123
  · replace hF := xj_f hF c10
    refine lv_lload hx hb dX0_wideProduct_114 (lv_at hl 0 rfl) ?_
    refine lv_lconst (v := (1 : Int64)) hx hb dX0_wideProduct_116 (by decide) ?_
    refine lv_lor hx hb dX0_wideProduct_117 ?_
    refine lv_goto (tgt := 123) hx hb dX0_wideProduct_118 (by decide) ?_
    exact W.lret (v := (y9 ||| (1 : Int64))) hx hb hr (fun t ht hW => ⟨⟨_, (), rfl, hF.symm, trivial⟩, hS.F ht⟩) hS.2.2 dX0_wideProduct_123
def mf_X0_storeProduct (f : Nat → Int64) (u : Int32) (o : Int32) (p1 : Int32) (p2 : Int32) (p3 : Int64) (p4 : Int64) : Int32 × (Nat → Int64) × Int32 × Int32 := (if p3 = (0 : Int64) then (xj_bnd (mf_X0_storeZero f u o p2 (0 : Int32)) (fun q2 => (q2.1, (q2.2.1, q2.2.2.1, q2.2.2.2)))) else (if p4 = (0 : Int64) then (xj_bnd (mf_X0_storeZero f u o p2 (0 : Int32)) (fun q16 => (q16.1, (q16.2.1, q16.2.2.1, q16.2.2.2)))) else (xj_bnd (mf_X0_significandOf p3) (fun y4 => (xj_bnd (mf_X0_significandOf p4) (fun y5 => (xj_bnd (mf_X0_wideProduct y4 y5) (fun y6 => (xj_bnd (if (0 : Int64) ≤ p3 then (0 : Int32) else (1 : Int32)) (fun y8 => (xj_bnd (if (0 : Int64) ≤ p4 then (0 : Int32) else (1 : Int32)) (fun y10 => (xj_bnd (if y8 = y10 then (0 : Int32) else (1 : Int32)) (fun y12 => (xj_bnd (mf_X0_exponentOf p3) (fun y13 => (xj_bnd (mf_X0_exponentOf p4) (fun y14 => (xj_bnd (mf_X0_storeRounded f u o p1 p2 y12 ((y13 + y14) - (128 : Int32)) y6) (fun q15 => (q15.1, (q15.2.1, q15.2.2.1, q15.2.2.2))))))))))))))))))))))
set_option maxHeartbeats 4000000 in
set_option maxRecDepth 100000 in
theorem mc_X0_storeProduct (l : Launch) (dC : Nat → ClassId) (dI : Nat → Nat → Nat) (h0 h_f : Nat) (cA_f : ClassId) (f : Nat → Int64) (u : Int32) (o : Int32) (p1 : Int32) (p2 : Int32) (p3 : Int64) (p4 : Int64) (hin2 : vp_in p2 8) : xj_Oi l (dC, dI) vwCl [(cA_f, .long)] (mw_X0 h0 h_f cA_f) yX0_storeProduct wsX0_storeProduct ({ frames := 2, cells := 0, slots := 0, locals := 54 }) [.ref h0, .int p1, .int p2, .long p3, .long p4] (f, u, o) (mf_X0_storeProduct f u o p1 p2 p3 p4) := by
  intro sz
  refine Met.ofW (cc := cX0_storeProduct) (maxL := 9) (ret := (some .int)) (by decide) rfl ?_
  intro p e s m args below meth c s₁ B hml hv
  obtain ⟨rfl, hsz, hP, hK, hD0⟩ := hv
  have hx := B.exec
  have hb := B.bytes
  have hr := B.returns
  have hts := atoms_spec (ws := wsX0_storeProduct) B.pre
  have hown : s.vm.findClass RX0 = some m.cls := findClass_of_methodNamed B.named
  have hlocks := B.notSynchronized
  subst hsz
  have hD := hD0.self (sz := s.heap.size)
  generalize hAe : va_A (mw_X0 h0 h_f cA_f (f, u, o)) s.heap.size = A at hD ⊢
  have hA : ∀ q : Nat, s.heap.size ≤ q → A q := fun q h => by rw [← hAe]; exact Or.inr h
  have hS : va_S A s.heap s.heap [] := va_S.rf
  have hP : va_P (dC, dI) vwCl [(h0, .inr (0, [.ref h_f, .int u, .int o])), (h_f, .inl (cA_f, 8, .inr (.inl f)))] s.heap := hP
  have hD : va_D A [(h0, .inr (0, [.ref h_f, .int u, .int o])), (h_f, .inl (cA_f, 8, .inr (.inl f)))] := hD
  generalize hT : mf_X0_storeProduct f u o p1 p2 p3 p4 = T
  have hF := hT.symm
  unfold mf_X0_storeProduct at hF
  have hl := lv_entry ([.ref h0, .int p1, .int p2, .long p3, .long p4]) (n := 9) (Nat.le_of_ble_eq_true rfl)
  rw [lg_entry_eq]
  generalize (lg_sl ([.ref h0, .int p1, .int p2, .long p3, .long p4]) ++ List.replicate (9 - (lg_sl ([.ref h0, .int p1, .int p2, .long p3, .long p4])).length) Slot.unset).toArray = ls at hl ⊢
  have hl : lv_has ls 9 [(0, .ref h0), (1, .int p1), (2, .int p2), (3, .long p3), (5, .long p4)] := hl
  refine lv_lload_n hx hb dX0_storeProduct_0 rfl (lv_at hl 3 rfl) ?_
  refine lv_lconst (v := (0 : Int64)) hx hb dX0_storeProduct_1 (by decide) ?_
  refine xj_l_eq (tgt := 13) hx hb dX0_storeProduct_2 dX0_storeProduct_3 (by decide) (fun c1 => ?_) (fun c1 => ?_)
  · replace hF := xj_t hF c1
    refine lv_aload_n hx hb dX0_storeProduct_13 rfl (lv_at hl 0 rfl) ?_
    refine lv_iload_n hx hb dX0_storeProduct_14 rfl (lv_at hl 2 rfl) ?_
    refine lv_iconst (v := (0 : Int32)) hx hb dX0_storeProduct_15 (by decide) ?_
    obtain ⟨q2, eq2⟩ : ∃ z : Int32 × (Nat → Int64) × Int32 × Int32, z = (mf_X0_storeZero f u o p2 (0 : Int32)) := ⟨_, rfl⟩
    replace hF := xj_bz hF eq2
    refine xj_vi (r := q2) (As := [.int p2, .int (0 : Int32)]) (rest := []) (Wd := mw_X0 h0 h_f cA_f) (wr := []) ⟨hx, hb, hml, hown, hts⟩ (by rw [eq2]; exact mc_X0_storeZero l dC dI h0 h_f cA_f f u o p2 (0 : Int32) (hin2) (Or.inl rfl)) (cwV 2 hts gX0_storeProduct_X0_storeZero rfl rfl rfl (by decide +kernel) ⟨Nat.le_of_ble_eq_true rfl, Nat.le_of_ble_eq_true rfl⟩) hP hK hD hS hA [0, 1] [] [0] rfl (by decide) rfl (by decide) (by decide) rfl (va_recv hK hP (ci := 0) (q0 := 0) rfl rfl) rfl hl.1 rfl (Nat.le_of_ble_eq_true rfl) dX0_storeProduct_16 ⟨Nat.zero_le _, Nat.zero_le _⟩ (fun H9 locs9 hP hD hS => ?_)
    have hP : va_P (dC, dI) vwCl [(h0, .inr (0, [.ref h_f, .int q2.2.2.1, .int q2.2.2.2])), (h_f, .inl (cA_f, 8, .inr (.inl q2.2.1)))] _ := hP
    have hD : va_D A [(h0, .inr (0, [.ref h_f, .int q2.2.2.1, .int q2.2.2.2])), (h_f, .inl (cA_f, 8, .inr (.inl q2.2.1)))] := hD
    exact W.iret (v := q2.1) hx hb hr (fun t ht hW => ⟨⟨_, (q2.2.1, q2.2.2.1, q2.2.2.2), rfl, hF.symm, by rw [ht]; exact hP, hD⟩, hS.F ht⟩) hS.2.2 dX0_storeProduct_19
  · replace hF := xj_f hF c1
    refine lv_lload hx hb dX0_storeProduct_6 (lv_at hl 4 rfl) ?_
    refine lv_lconst (v := (0 : Int64)) hx hb dX0_storeProduct_8 (by decide) ?_
    refine xj_l_ne (tgt := 20) hx hb dX0_storeProduct_9 dX0_storeProduct_10 (by decide) (fun c3 => ?_) (fun c3 => ?_)
    · replace hF := xj_f hF c3
      refine lv_lload_n hx hb dX0_storeProduct_20 rfl (lv_at hl 3 rfl) ?_
      refine xj_sl (As := [.long p3]) (rest := []) ⟨hx, hb, hml, hown, hts⟩ (mc_X0_significandOf l p3) (va_cwS 1 hts gX0_storeProduct_X0_significandOf rfl rfl rfl (by decide +kernel) ⟨Nat.le_of_ble_eq_true rfl, Nat.le_of_ble_eq_true rfl⟩) hS hA rfl hl.1 rfl (Nat.le_of_ble_eq_true rfl) dX0_storeProduct_21 ⟨Nat.zero_le _, Nat.zero_le _⟩ (fun H9 locs9 hk9 hS => ?_)
      have hP := xj_kept hP hk9
      refine lv_topl (fun y4 ey4 => ?_)
      replace hF := xj_bz hF ey4
      refine lv_lload hx hb dX0_storeProduct_24 (lv_at hl 4 rfl) ?_
      refine xj_sl (As := [.long p4]) (rest := [.long y4]) ⟨hx, hb, hml, hown, hts⟩ (mc_X0_significandOf l p4) (va_cwS 1 hts gX0_storeProduct_X0_significandOf rfl rfl rfl (by decide +kernel) ⟨Nat.le_of_ble_eq_true rfl, Nat.le_of_ble_eq_true rfl⟩) hS hA rfl hl.1 rfl (Nat.le_of_ble_eq_true rfl) dX0_storeProduct_26 ⟨Nat.zero_le _, Nat.zero_le _⟩ (fun H9 locs9 hk9 hS => ?_)
      have hP := xj_kept hP hk9
      refine lv_topl (fun y5 ey5 => ?_)
      replace hF := xj_bz hF ey5
      refine xj_sl (As := [.long y4, .long y5]) (rest := []) ⟨hx, hb, hml, hown, hts⟩ (mc_X0_wideProduct l y4 y5) (va_cwS 2 hts gX0_storeProduct_X0_wideProduct rfl rfl rfl (by decide +kernel) ⟨Nat.le_of_ble_eq_true rfl, Nat.le_of_ble_eq_true rfl⟩) hS hA rfl hl.1 rfl (Nat.le_of_ble_eq_true rfl) dX0_storeProduct_29 ⟨Nat.zero_le _, Nat.zero_le _⟩ (fun H9 locs9 hk9 hS => ?_)
      have hP := xj_kept hP hk9
      refine lv_topl (fun y6 ey6 => ?_)
      replace hF := xj_bz hF ey6
      refine lv_lstore (lv' := [(7, .long y6), (0, .ref h0), (1, .int p1), (2, .int p2), (3, .long p3), (5, .long p4)]) hx hb dX0_storeProduct_32 hl (by decide) rfl (fun ls hl => ?_)
      refine lv_aload_n hx hb dX0_storeProduct_34 rfl (lv_at hl 1 rfl) ?_
      refine lv_iload_n hx hb dX0_storeProduct_35 rfl (lv_at hl 2 rfl) ?_
      refine lv_iload_n hx hb dX0_storeProduct_36 rfl (lv_at hl 3 rfl) ?_
      refine lv_lload_n hx hb dX0_storeProduct_37 rfl (lv_at hl 4 rfl) ?_
      refine lv_lconst (v := (0 : Int64)) hx hb dX0_storeProduct_38 (by decide) ?_
      obtain ⟨y8, ey8⟩ : ∃ z : Int32, z = (if (0 : Int64) ≤ p3 then (0 : Int32) else (1 : Int32)) := ⟨_, rfl⟩
      replace hF := xj_bz hF ey8
      refine xj_join 48 (fun ls' st' => lv_has ls' 9 [(7, .long y6), (0, .ref h0), (1, .int p1), (2, .int p2), (3, .long p3), (5, .long p4)] ∧ st' = [.int y8, .int p2, .int p1, .ref h0]) ?_ (fun K48 => ?_)
      · rintro ls st ⟨hl, rfl⟩
        refine lv_lload hx hb dX0_storeProduct_48 (lv_at hl 5 rfl) ?_
        refine lv_lconst (v := (0 : Int64)) hx hb dX0_storeProduct_50 (by decide) ?_
        obtain ⟨y10, ey10⟩ : ∃ z : Int32, z = (if (0 : Int64) ≤ p4 then (0 : Int32) else (1 : Int32)) := ⟨_, rfl⟩
        replace hF := xj_bz hF ey10
        refine xj_join 60 (fun ls' st' => lv_has ls' 9 [(7, .long y6), (0, .ref h0), (1, .int p1), (2, .int p2), (3, .long p3), (5, .long p4)] ∧ st' = [.int y10, .int y8, .int p2, .int p1, .ref h0]) ?_ (fun K60 => ?_)
        · rintro ls st ⟨hl, rfl⟩
          obtain ⟨y12, ey12⟩ : ∃ z : Int32, z = (if y8 = y10 then (0 : Int32) else (1 : Int32)) := ⟨_, rfl⟩
          replace hF := xj_bz hF ey12
          refine xj_join 68 (fun ls' st' => lv_has ls' 9 [(7, .long y6), (0, .ref h0), (1, .int p1), (2, .int p2), (3, .long p3), (5, .long p4)] ∧ st' = [.int y12, .int p2, .int p1, .ref h0]) ?_ (fun K68 => ?_)
          · rintro ls st ⟨hl, rfl⟩
            refine lv_lload_n hx hb dX0_storeProduct_68 rfl (lv_at hl 4 rfl) ?_
            refine xj_si (As := [.long p3]) (rest := [.int y12, .int p2, .int p1, .ref h0]) ⟨hx, hb, hml, hown, hts⟩ (mc_X0_exponentOf l p3) (va_cwS 1 hts gX0_storeProduct_X0_exponentOf rfl rfl rfl (by decide +kernel) ⟨Nat.le_of_ble_eq_true rfl, Nat.le_of_ble_eq_true rfl⟩) hS hA rfl hl.1 rfl (Nat.le_of_ble_eq_true rfl) dX0_storeProduct_69 ⟨Nat.zero_le _, Nat.zero_le _⟩ (fun H9 locs9 hk9 hS => ?_)
            have hP := xj_kept hP hk9
            refine lv_topi (fun y13 ey13 => ?_)
            replace hF := xj_bz hF ey13
            refine lv_lload hx hb dX0_storeProduct_72 (lv_at hl 5 rfl) ?_
            refine xj_si (As := [.long p4]) (rest := [.int y13, .int y12, .int p2, .int p1, .ref h0]) ⟨hx, hb, hml, hown, hts⟩ (mc_X0_exponentOf l p4) (va_cwS 1 hts gX0_storeProduct_X0_exponentOf rfl rfl rfl (by decide +kernel) ⟨Nat.le_of_ble_eq_true rfl, Nat.le_of_ble_eq_true rfl⟩) hS hA rfl hl.1 rfl (Nat.le_of_ble_eq_true rfl) dX0_storeProduct_74 ⟨Nat.zero_le _, Nat.zero_le _⟩ (fun H9 locs9 hk9 hS => ?_)
            have hP := xj_kept hP hk9
            refine lv_topi (fun y14 ey14 => ?_)
            replace hF := xj_bz hF ey14
            refine lv_iadd hx hb dX0_storeProduct_77 ?_
            refine lv_sipush (v := (128 : Int32)) hx hb dX0_storeProduct_78 (by decide) ?_
            refine lv_isub hx hb dX0_storeProduct_81 ?_
            refine lv_lload hx hb dX0_storeProduct_82 (lv_at hl 0 rfl) ?_
            obtain ⟨q15, eq15⟩ : ∃ z : Int32 × (Nat → Int64) × Int32 × Int32, z = (mf_X0_storeRounded f u o p1 p2 y12 ((y13 + y14) - (128 : Int32)) y6) := ⟨_, rfl⟩
            replace hF := xj_bz hF eq15
            refine xj_vi (r := q15) (As := [.int p1, .int p2, .int y12, .int ((y13 + y14) - (128 : Int32)), .long y6]) (rest := []) (Wd := mw_X0 h0 h_f cA_f) (wr := []) ⟨hx, hb, hml, hown, hts⟩ (by rw [eq15]; exact mc_X0_storeRounded l dC dI h0 h_f cA_f f u o p1 p2 y12 ((y13 + y14) - (128 : Int32)) y6 (hin2)) (cwV 5 hts gX0_storeProduct_X0_storeRounded rfl rfl rfl (by decide +kernel) ⟨Nat.le_of_ble_eq_true rfl, Nat.le_of_ble_eq_true rfl⟩) hP hK hD hS hA [0, 1] [] [0] rfl (by decide) rfl (by decide) (by decide) rfl (va_recv hK hP (ci := 0) (q0 := 0) rfl rfl) rfl hl.1 rfl (Nat.le_of_ble_eq_true rfl) dX0_storeProduct_84 ⟨Nat.zero_le _, Nat.zero_le _⟩ (fun H9 locs9 hP hD hS => ?_)
            have hP : va_P (dC, dI) vwCl [(h0, .inr (0, [.ref h_f, .int q15.2.2.1, .int q15.2.2.2])), (h_f, .inl (cA_f, 8, .inr (.inl q15.2.1)))] _ := hP
            have hD : va_D A [(h0, .inr (0, [.ref h_f, .int q15.2.2.1, .int q15.2.2.2])), (h_f, .inl (cA_f, 8, .inr (.inl q15.2.1)))] := hD
            exact W.iret (v := q15.1) hx hb hr (fun t ht hW => ⟨⟨_, (q15.2.1, q15.2.2.1, q15.2.2.2), rfl, hF.symm, by rw [ht]; exact hP, hD⟩, hS.F ht⟩) hS.2.2 dX0_storeProduct_87
          · refine lv_icmp_eq (tgt := 67) hx hb dX0_storeProduct_60 (by decide) (fun c11 => ?_) (fun c11 => ?_)
            · replace ey12 := xj_t ey12 c11
              refine lv_iconst (v := (0 : Int32)) hx hb dX0_storeProduct_67 (by decide) ?_
              subst ey12
              exact K68 _ _ ⟨lv_sub hl [0, 1, 2, 3, 4, 5] rfl, rfl⟩
            · replace ey12 := xj_f ey12 c11
              refine lv_iconst (v := (1 : Int32)) hx hb dX0_storeProduct_63 (by decide) ?_
              refine lv_goto (tgt := 68) hx hb dX0_storeProduct_64 (by decide) ?_
              subst ey12
              exact K68 _ _ ⟨lv_sub hl [0, 1, 2, 3, 4, 5] rfl, rfl⟩
        · refine xj_l_ge (tgt := 59) hx hb dX0_storeProduct_51 dX0_storeProduct_52 (by decide) (fun c9 => ?_) (fun c9 => ?_)
          · replace ey10 := xj_t ey10 c9
            refine lv_iconst (v := (0 : Int32)) hx hb dX0_storeProduct_59 (by decide) ?_
            subst ey10
            exact K60 _ _ ⟨lv_sub hl [0, 1, 2, 3, 4, 5] rfl, rfl⟩
          · replace ey10 := xj_f ey10 c9
            refine lv_iconst (v := (1 : Int32)) hx hb dX0_storeProduct_55 (by decide) ?_
            refine lv_goto (tgt := 60) hx hb dX0_storeProduct_56 (by decide) ?_
            subst ey10
            exact K60 _ _ ⟨lv_sub hl [0, 1, 2, 3, 4, 5] rfl, rfl⟩
      · refine xj_l_ge (tgt := 47) hx hb dX0_storeProduct_39 dX0_storeProduct_40 (by decide) (fun c7 => ?_) (fun c7 => ?_)
        · replace ey8 := xj_t ey8 c7
          refine lv_iconst (v := (0 : Int32)) hx hb dX0_storeProduct_47 (by decide) ?_
          subst ey8
          exact K48 _ _ ⟨lv_sub hl [0, 1, 2, 3, 4, 5] rfl, rfl⟩
        · replace ey8 := xj_f ey8 c7
          refine lv_iconst (v := (1 : Int32)) hx hb dX0_storeProduct_43 (by decide) ?_
          refine lv_goto (tgt := 48) hx hb dX0_storeProduct_44 (by decide) ?_
          subst ey8
          exact K48 _ _ ⟨lv_sub hl [0, 1, 2, 3, 4, 5] rfl, rfl⟩
    · replace hF := xj_t hF c3
      refine lv_aload_n hx hb dX0_storeProduct_13 rfl (lv_at hl 0 rfl) ?_
      refine lv_iload_n hx hb dX0_storeProduct_14 rfl (lv_at hl 2 rfl) ?_
      refine lv_iconst (v := (0 : Int32)) hx hb dX0_storeProduct_15 (by decide) ?_
      obtain ⟨q16, eq16⟩ : ∃ z : Int32 × (Nat → Int64) × Int32 × Int32, z = (mf_X0_storeZero f u o p2 (0 : Int32)) := ⟨_, rfl⟩
      replace hF := xj_bz hF eq16
      refine xj_vi (r := q16) (As := [.int p2, .int (0 : Int32)]) (rest := []) (Wd := mw_X0 h0 h_f cA_f) (wr := []) ⟨hx, hb, hml, hown, hts⟩ (by rw [eq16]; exact mc_X0_storeZero l dC dI h0 h_f cA_f f u o p2 (0 : Int32) (hin2) (Or.inl rfl)) (cwV 2 hts gX0_storeProduct_X0_storeZero rfl rfl rfl (by decide +kernel) ⟨Nat.le_of_ble_eq_true rfl, Nat.le_of_ble_eq_true rfl⟩) hP hK hD hS hA [0, 1] [] [0] rfl (by decide) rfl (by decide) (by decide) rfl (va_recv hK hP (ci := 0) (q0 := 0) rfl rfl) rfl hl.1 rfl (Nat.le_of_ble_eq_true rfl) dX0_storeProduct_16 ⟨Nat.zero_le _, Nat.zero_le _⟩ (fun H9 locs9 hP hD hS => ?_)
      have hP : va_P (dC, dI) vwCl [(h0, .inr (0, [.ref h_f, .int q16.2.2.1, .int q16.2.2.2])), (h_f, .inl (cA_f, 8, .inr (.inl q16.2.1)))] _ := hP
      have hD : va_D A [(h0, .inr (0, [.ref h_f, .int q16.2.2.1, .int q16.2.2.2])), (h_f, .inl (cA_f, 8, .inr (.inl q16.2.1)))] := hD
      exact W.iret (v := q16.1) hx hb hr (fun t ht hW => ⟨⟨_, (q16.2.1, q16.2.2.1, q16.2.2.2), rfl, hF.symm, by rw [ht]; exact hP, hD⟩, hS.F ht⟩) hS.2.2 dX0_storeProduct_19
