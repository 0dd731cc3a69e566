def mf_Y_added (g : Nat → Int64) (ak : Int32) (il : Int32) (mi : Int32) (xe : Int32) (bi : Int64) (fa : Int32) (cu : Int32) (p1 : Int32) (p2 : Int64) (p3 : Int64) : Int64 × (Nat → Int64) × Int32 × Int32 × Int32 × Int32 × Int64 × Int32 × Int32 := (xj_bnd (mf_Y_isZero p2) (fun y1 => (if y1 = 0 then (xj_bnd (mf_Y_isZero p3) (fun y3 => (if y3 = 0 then (xj_bnd (mf_Y_many p1) (fun y5 => (xj_bnd (mf_Y_take g ak il mi xe bi (0 : Int32) (0 : Int32) p1 p2) (fun q6 => (xj_bnd (xj_shr q6.2.2.2.2.2.1 ((56 : Int32) - y5)) (fun y7 => (xj_bnd (mf_Y_take q6.1 q6.2.1 q6.2.2.1 q6.2.2.2.1 q6.2.2.2.2.1 q6.2.2.2.2.2.1 q6.2.2.2.2.2.2.1 q6.2.2.2.2.2.2.2 p1 p3) (fun q8 => (xj_bnd (xj_shr q8.2.2.2.2.2.1 ((56 : Int32) - y5)) (fun y9 => (xj_bnd (if q6.2.2.2.2.1 < q8.2.2.2.2.1 then (1 : Int32) else (if q8.2.2.2.2.1 = q6.2.2.2.2.1 then (if y9 ≤ y7 then (0 : Int32) else (1 : Int32)) else (0 : Int32))) (fun y11 => (xj_bnd (if y11 = 0 then y7 else y9) (fun y13 => (xj_bnd (xj_shl y13 (6 : Int32)) (fun y14 => (xj_bnd (if y11 = 0 then y9 else y7) (fun y16 => (xj_bnd (xj_shl y16 (6 : Int32)) (fun y17 => (xj_bnd (if y11 = 0 then (q6.2.2.2.2.1 - q8.2.2.2.2.1) else (q8.2.2.2.2.1 - q6.2.2.2.2.1)) (fun y19 => (xj_bnd (if y19 ≤ (62 : Int32) then (xj_shr y17 y19) else (0 : Int64)) (fun y21 => (xj_bnd (if (62 : Int32) < y19 then (1 : Int32) else (if (xj_shl y21 y19) = y17 then (0 : Int32) else (1 : Int32))) (fun y23 => (xj_bnd (if q6.2.2.2.1 = q8.2.2.2.1 then (y14 + y21) else (xj_bnd (if y23 = 0 then (0 : Int64) else (1 : Int64)) (fun y26 => ((y14 - y21) - y26)))) (fun y25 => (xj_bnd (if y11 = 0 then q6.2.2.2.1 else q8.2.2.2.1) (fun y27 => (xj_bnd (if y11 = 0 then q6.2.2.2.2.1 else q8.2.2.2.2.1) (fun y29 => (xj_bnd (mf_Y_rounds q8.1 q8.2.1 q8.2.2.1 q8.2.2.2.1 q8.2.2.2.2.1 q8.2.2.2.2.2.1 q8.2.2.2.2.2.2.1 q8.2.2.2.2.2.2.2 p1 y27 y25 (((y29 - (128 : Int32)) - y5) - (6 : Int32)) y23) (fun q30 => (q30.1, (q30.2.1, q30.2.2.1, q30.2.2.2.1, q30.2.2.2.2.1, q30.2.2.2.2.2.1, q30.2.2.2.2.2.2.1, q30.2.2.2.2.2.2.2.1, q30.2.2.2.2.2.2.2.2)))))))))))))))))))))))))))))))))))) else (p2, (g, ak, il, mi, xe, bi, (0 : Int32), (0 : Int32)))))) else (xj_bnd (mf_Y_isZero p3) (fun y36 => (if y36 = 0 then (p3, (g, ak, il, mi, xe, bi, (0 : Int32), (0 : Int32))) else ((0 : Int64), (g, ak, il, mi, xe, bi, (0 : Int32), (0 : Int32)))))))))
set_option maxHeartbeats 4000000 in
set_option maxRecDepth 100000 in
theorem mc_Y_added (l : Launch) (dC : Nat → ClassId) (dI : Nat → Nat → Nat) (k0 k_g : Nat) (cB_g : ClassId) (g : Nat → Int64) (ak : Int32) (il : Int32) (mi : Int32) (xe : Int32) (bi : Int64) (fa : Int32) (cu : Int32) (p1 : Int32) (p2 : Int64) (p3 : Int64) : xj_Ol l (dC, dI) vwCl [(cB_g, .long)] (mw_Y k0 k_g cB_g) yY_added wsY_added ({ frames := 2, cells := 0, slots := 0, locals := 56 }) [.ref k0, .int p1, .long p2, .long p3] (g, ak, il, mi, xe, bi, fa, cu) (mf_Y_added g ak il mi xe bi fa cu p1 p2 p3) := by
  intro sz
  refine Met.ofW (cc := cY_added) (maxL := 26) (ret := (some .long)) (by decide) rfl ?_
  intro p e s m args below meth c s₁ B hml hv
  obtain ⟨rfl, hsz, hP, hK, hD0⟩ := hv
  have hx := B.exec
  have hb := B.bytes
  have hr := B.returns
  have hts := atoms_spec (ws := wsY_added) B.pre
  have hown : s.vm.findClass RX1 = some m.cls := findClass_of_methodNamed B.named
  have hlocks := B.notSynchronized
  subst hsz
  have hD := hD0.self (sz := s.heap.size)
  generalize hAe : va_A (mw_Y k0 k_g cB_g (g, ak, il, mi, xe, bi, fa, cu)) s.heap.size = A at hD ⊢
  have hA : ∀ q : Nat, s.heap.size ≤ q → A q := fun q h => by rw [← hAe]; exact Or.inr h
  have hS : va_S A s.heap s.heap [] := va_S.rf
  have hP : va_P (dC, dI) vwCl [(k0, .inr (1, [.ref k_g, .int ak, .int il, .int mi, .int xe, .long bi, .int fa, .int cu])), (k_g, .inl (cB_g, 8, .inr (.inl g)))] s.heap := hP
  have hD : va_D A [(k0, .inr (1, [.ref k_g, .int ak, .int il, .int mi, .int xe, .long bi, .int fa, .int cu])), (k_g, .inl (cB_g, 8, .inr (.inl g)))] := hD
  generalize hT : mf_Y_added g ak il mi xe bi fa cu p1 p2 p3 = T
  have hF := hT.symm
  unfold mf_Y_added at hF
  have hl := lv_entry ([.ref k0, .int p1, .long p2, .long p3]) (n := 26) (Nat.le_of_ble_eq_true rfl)
  rw [lg_entry_eq]
  generalize (lg_sl ([.ref k0, .int p1, .long p2, .long p3]) ++ List.replicate (26 - (lg_sl ([.ref k0, .int p1, .long p2, .long p3])).length) Slot.unset).toArray = ls at hl ⊢
  have hl : lv_has ls 26 [(0, .ref k0), (1, .int p1), (2, .long p2), (4, .long p3)] := hl
  refine lv_aload_n hx hb dY_added_0 rfl (lv_at hl 0 rfl) ?_
  refine lv_iconst (v := (0 : Int32)) hx hb dY_added_1 (by decide) ?_
  refine va_put (D := (dC, dI)) (ci := 1) (v := .int (0 : Int32)) (ty := .int) (C := RX1) (T := TX1) (N := 8) hx hb hts (fun w9 h9 => List.mem_cons_of_mem _ (inY w9 h9)) tyX1 tyX1_ok nmX1 hown hK hP hD hS 0 rfl rfl 6 (by decide) (hts (.fieldLink RX1 48 "ExactFloatsModel" "fault" "I") (List.mem_cons_of_mem _ mY_44)) (fun _ h9 => h9) rfl (by decide +kernel) rfl rfl (Nat.le_of_ble_eq_true rfl) dY_added_2 (fun H9 locs9 hP hD hS => ?_)
  have hP : va_P (dC, dI) vwCl [(k0, .inr (1, [.ref k_g, .int ak, .int il, .int mi, .int xe, .long bi, .int (0 : Int32), .int cu])), (k_g, .inl (cB_g, 8, .inr (.inl g)))] _ := hP
  have hD : va_D A [(k0, .inr (1, [.ref k_g, .int ak, .int il, .int mi, .int xe, .long bi, .int (0 : Int32), .int cu])), (k_g, .inl (cB_g, 8, .inr (.inl g)))] := hD
  refine lv_aload_n hx hb dY_added_5 rfl (lv_at hl 0 rfl) ?_
  refine lv_iconst (v := (0 : Int32)) hx hb dY_added_6 (by decide) ?_
  refine va_put (D := (dC, dI)) (ci := 1) (v := .int (0 : Int32)) (ty := .boolean) (C := RX1) (T := TX1) (N := 8) hx hb hts (fun w9 h9 => List.mem_cons_of_mem _ (inY w9 h9)) tyX1 tyX1_ok nmX1 hown hK hP hD hS 0 rfl rfl 7 (by decide) (hts (.fieldLink RX1 51 "ExactFloatsModel" "cut" "Z") (List.mem_cons_of_mem _ mY_45)) (fun _ h9 => h9) rfl (by decide +kernel) rfl rfl (Nat.le_of_ble_eq_true rfl) dY_added_7 (fun H9 locs9 hP hD hS => ?_)
  have hP : va_P (dC, dI) vwCl [(k0, .inr (1, [.ref k_g, .int ak, .int il, .int mi, .int xe, .long bi, .int (0 : Int32), .int (0 : Int32)])), (k_g, .inl (cB_g, 8, .inr (.inl g)))] _ := hP
  have hD : va_D A [(k0, .inr (1, [.ref k_g, .int ak, .int il, .int mi, .int xe, .long bi, .int (0 : Int32), .int (0 : Int32)])), (k_g, .inl (cB_g, 8, .inr (.inl g)))] := hD
  refine lv_lload_n hx hb dY_added_10 rfl (lv_at hl 2 rfl) ?_
  refine xj_si (As := [.long p2]) (rest := []) ⟨hx, hb, hml, hown, hts⟩ (mc_Y_isZero l p2) (va_cwS 1 hts (gY_isZero _) rfl rfl rfl (by decide +kernel) ⟨Nat.le_of_ble_eq_true rfl, Nat.le_of_ble_eq_true rfl⟩) hS hA rfl hl.1 rfl (Nat.le_of_ble_eq_true rfl) dY_added_11 ⟨Nat.zero_le _, Nat.zero_le _⟩ (fun H9 locs9 hk9 hS => ?_)
  have hP := xj_kept hP hk9
  refine lv_topi (fun y1 ey1 => ?_)
  replace hF := xj_bz hF ey1
  refine lv_if_eq (tgt := 32) hx hb dY_added_14 (by decide) (fun c2 => ?_) (fun c2 => ?_)
  · replace hF := xj_t hF c2
    refine lv_lload hx hb dY_added_32 (lv_at hl 3 rfl) ?_
    refine xj_si (As := [.long p3]) (rest := []) ⟨hx, hb, hml, hown, hts⟩ (mc_Y_isZero l p3) (va_cwS 1 hts (gY_isZero _) rfl rfl rfl (by decide +kernel) ⟨Nat.le_of_ble_eq_true rfl, Nat.le_of_ble_eq_true rfl⟩) hS hA rfl hl.1 rfl (Nat.le_of_ble_eq_true rfl) dY_added_34 ⟨Nat.zero_le _, Nat.zero_le _⟩ (fun H9 locs9 hk9 hS => ?_)
    have hP := xj_kept hP hk9
    refine lv_topi (fun y3 ey3 => ?_)
    replace hF := xj_bz hF ey3
    refine lv_if_eq (tgt := 42) hx hb dY_added_37 (by decide) (fun c4 => ?_) (fun c4 => ?_)
    · replace hF := xj_t hF c4
      refine lv_iload_n hx hb dY_added_42 rfl (lv_at hl 1 rfl) ?_
      refine xj_si (As := [.int p1]) (rest := []) ⟨hx, hb, hml, hown, hts⟩ (mc_Y_many l p1) (va_cwS 1 hts (gY_many _) rfl rfl rfl (by decide +kernel) ⟨Nat.le_of_ble_eq_true rfl, Nat.le_of_ble_eq_true rfl⟩) hS hA rfl hl.1 rfl (Nat.le_of_ble_eq_true rfl) dY_added_43 ⟨Nat.zero_le _, Nat.zero_le _⟩ (fun H9 locs9 hk9 hS => ?_)
      have hP := xj_kept hP hk9
      refine lv_topi (fun y5 ey5 => ?_)
      replace hF := xj_bz hF ey5
      refine lv_istore (lv' := [(6, .int y5), (0, .ref k0), (1, .int p1), (2, .long p2), (4, .long p3)]) hx hb dY_added_46 hl (by decide) rfl (fun ls hl => ?_)
      refine lv_aload_n hx hb dY_added_48 rfl (lv_at hl 1 rfl) ?_
      refine lv_iload_n hx hb dY_added_49 rfl (lv_at hl 2 rfl) ?_
      refine lv_lload_n hx hb dY_added_50 rfl (lv_at hl 3 rfl) ?_
      obtain ⟨q6, eq6⟩ : ∃ z : (Nat → Int64) × Int32 × Int32 × Int32 × Int32 × Int64 × Int32 × Int32, z = (mf_Y_take g ak il mi xe bi (0 : Int32) (0 : Int32) p1 p2) := ⟨_, rfl⟩
      replace hF := xj_bz hF eq6
      refine xj_vv (r := q6) (As := [.int p1, .long p2]) (rest := []) (Wd := mw_Y k0 k_g cB_g) (wr := []) ⟨hx, hb, hml, hown, hts⟩ (by rw [eq6]; exact mc_Y_take l dC dI k0 k_g cB_g g ak il mi xe bi (0 : Int32) (0 : Int32) p1 p2) (cwV 2 hts (gY_take _) rfl rfl rfl (by decide +kernel) ⟨Nat.le_of_ble_eq_true rfl, Nat.le_of_ble_eq_true rfl⟩) hP hK hD hS hA [0, 1] [] [0] rfl (by decide) rfl (by decide) (by decide) rfl (va_recv hK hP (ci := 1) (q0 := 0) rfl rfl) rfl hl.1 rfl (Nat.le_of_ble_eq_true rfl) dY_added_51 ⟨Nat.zero_le _, Nat.zero_le _⟩ (fun H9 locs9 hP hD hS => ?_)
      have hP : va_P (dC, dI) vwCl [(k0, .inr (1, [.ref k_g, .int q6.2.1, .int q6.2.2.1, .int q6.2.2.2.1, .int q6.2.2.2.2.1, .long q6.2.2.2.2.2.1, .int q6.2.2.2.2.2.2.1, .int q6.2.2.2.2.2.2.2])), (k_g, .inl (cB_g, 8, .inr (.inl q6.1)))] _ := hP
      have hD : va_D A [(k0, .inr (1, [.ref k_g, .int q6.2.1, .int q6.2.2.1, .int q6.2.2.2.1, .int q6.2.2.2.2.1, .long q6.2.2.2.2.2.1, .int q6.2.2.2.2.2.2.1, .int q6.2.2.2.2.2.2.2])), (k_g, .inl (cB_g, 8, .inr (.inl q6.1)))] := hD
      refine lv_aload_n hx hb dY_added_54 rfl (lv_at hl 1 rfl) ?_
      refine va_get (D := (dC, dI)) (ci := 1) (v := .int q6.2.2.2.1) (C := RX1) (T := TX1) (N := 8) hx hb hts (fun w9 h9 => List.mem_cons_of_mem _ (inY w9 h9)) hown hK hP 0 rfl rfl 3 (by decide) (hts (.fieldLink RX1 29 "ExactFloatsModel" "minus" "Z") (List.mem_cons_of_mem _ mY_37)) (fun _ h9 => h9) rfl dY_added_55 ?_
      refine lv_istore (lv' := [(7, .int q6.2.2.2.1), (6, .int y5), (0, .ref k0), (1, .int p1), (2, .long p2), (4, .long p3)]) hx hb dY_added_58 hl (by decide) rfl (fun ls hl => ?_)
      refine lv_aload_n hx hb dY_added_60 rfl (lv_at hl 2 rfl) ?_
      refine va_get (D := (dC, dI)) (ci := 1) (v := .int q6.2.2.2.2.1) (C := RX1) (T := TX1) (N := 8) hx hb hts (fun w9 h9 => List.mem_cons_of_mem _ (inY w9 h9)) hown hK hP 0 rfl rfl 4 (by decide) (hts (.fieldLink RX1 34 "ExactFloatsModel" "exponent" "I") (List.mem_cons_of_mem _ mY_39)) (fun _ h9 => h9) rfl dY_added_61 ?_
      refine lv_istore (lv' := [(8, .int q6.2.2.2.2.1), (7, .int q6.2.2.2.1), (6, .int y5), (0, .ref k0), (1, .int p1), (2, .long p2), (4, .long p3)]) hx hb dY_added_64 hl (by decide) rfl (fun ls hl => ?_)
      refine lv_aload_n hx hb dY_added_66 rfl (lv_at hl 3 rfl) ?_
      refine va_get (D := (dC, dI)) (ci := 1) (v := .long q6.2.2.2.2.2.1) (C := RX1) (T := TX1) (N := 8) hx hb hts (fun w9 h9 => List.mem_cons_of_mem _ (inY w9 h9)) hown hK hP 0 rfl rfl 5 (by decide) (hts (.fieldLink RX1 44 "ExactFloatsModel" "bits" "J") (List.mem_cons_of_mem _ mY_43)) (fun _ h9 => h9) rfl dY_added_67 ?_
      refine lv_bipush (v := (56 : Int32)) hx hb dY_added_70 (by decide) ?_
      refine lv_iload hx hb dY_added_72 (lv_at hl 2 rfl) ?_
      refine lv_isub hx hb dY_added_74 ?_
      refine lv_lshr (v := (xj_shr q6.2.2.2.2.2.1 ((56 : Int32) - y5))) hx hb dY_added_75 rfl ?_
      refine lv_topl (fun y7 ey7 => ?_)
      replace hF := xj_bz hF ey7
      refine lv_lstore (lv' := [(9, .long y7), (8, .int q6.2.2.2.2.1), (7, .int q6.2.2.2.1), (6, .int y5), (0, .ref k0), (1, .int p1), (2, .long p2), (4, .long p3)]) hx hb dY_added_76 hl (by decide) rfl (fun ls hl => ?_)
      refine lv_aload_n hx hb dY_added_78 rfl (lv_at hl 4 rfl) ?_
      refine lv_iload_n hx hb dY_added_79 rfl (lv_at hl 5 rfl) ?_
      refine lv_lload hx hb dY_added_80 (lv_at hl 7 rfl) ?_
      obtain ⟨q8, eq8⟩ : ∃ z : (Nat → Int64) × Int32 × Int32 × Int32 × Int32 × Int64 × Int32 × Int32, z = (mf_Y_take q6.1 q6.2.1 q6.2.2.1 q6.2.2.2.1 q6.2.2.2.2.1 q6.2.2.2.2.2.1 q6.2.2.2.2.2.2.1 q6.2.2.2.2.2.2.2 p1 p3) := ⟨_, rfl⟩
      replace hF := xj_bz hF eq8
      refine xj_vv (r := q8) (As := [.int p1, .long p3]) (rest := []) (Wd := mw_Y k0 k_g cB_g) (wr := []) ⟨hx, hb, hml, hown, hts⟩ (by rw [eq8]; exact mc_Y_take l dC dI k0 k_g cB_g q6.1 q6.2.1 q6.2.2.1 q6.2.2.2.1 q6.2.2.2.2.1 q6.2.2.2.2.2.1 q6.2.2.2.2.2.2.1 q6.2.2.2.2.2.2.2 p1 p3) (cwV 2 hts (gY_take _) rfl rfl rfl (by decide +kernel) ⟨Nat.le_of_ble_eq_true rfl, Nat.le_of_ble_eq_true rfl⟩) hP hK hD hS hA [0, 1] [] [0] rfl (by decide) rfl (by decide) (by decide) rfl (va_recv hK hP (ci := 1) (q0 := 0) rfl rfl) rfl hl.1 rfl (Nat.le_of_ble_eq_true rfl) dY_added_82 ⟨Nat.zero_le _, Nat.zero_le _⟩ (fun H9 locs9 hP hD hS => ?_)
      have hP : va_P (dC, dI) vwCl [(k0, .inr (1, [.ref k_g, .int q8.2.1, .int q8.2.2.1, .int q8.2.2.2.1, .int q8.2.2.2.2.1, .long q8.2.2.2.2.2.1, .int q8.2.2.2.2.2.2.1, .int q8.2.2.2.2.2.2.2])), (k_g, .inl (cB_g, 8, .inr (.inl q8.1)))] _ := hP
      have hD : va_D A [(k0, .inr (1, [.ref k_g, .int q8.2.1, .int q8.2.2.1, .int q8.2.2.2.1, .int q8.2.2.2.2.1, .long q8.2.2.2.2.2.1, .int q8.2.2.2.2.2.2.1, .int q8.2.2.2.2.2.2.2])), (k_g, .inl (cB_g, 8, .inr (.inl q8.1)))] := hD
      refine lv_aload_n hx hb dY_added_85 rfl (lv_at hl 4 rfl) ?_
      refine va_get (D := (dC, dI)) (ci := 1) (v := .int q8.2.2.2.1) (C := RX1) (T := TX1) (N := 8) hx hb hts (fun w9 h9 => List.mem_cons_of_mem _ (inY w9 h9)) hown hK hP 0 rfl rfl 3 (by decide) (hts (.fieldLink RX1 29 "ExactFloatsModel" "minus" "Z") (List.mem_cons_of_mem _ mY_37)) (fun _ h9 => h9) rfl dY_added_86 ?_
      refine lv_istore (lv' := [(11, .int q8.2.2.2.1), (9, .long y7), (8, .int q6.2.2.2.2.1), (7, .int q6.2.2.2.1), (6, .int y5), (0, .ref k0), (1, .int p1), (2, .long p2), (4, .long p3)]) hx hb dY_added_89 hl (by decide) rfl (fun ls hl => ?_)
      refine lv_aload_n hx hb dY_added_91 rfl (lv_at hl 5 rfl) ?_
      refine va_get (D := (dC, dI)) (ci := 1) (v := .int q8.2.2.2.2.1) (C := RX1) (T := TX1) (N := 8) hx hb hts (fun w9 h9 => List.mem_cons_of_mem _ (inY w9 h9)) hown hK hP 0 rfl rfl 4 (by decide) (hts (.fieldLink RX1 34 "ExactFloatsModel" "exponent" "I") (List.mem_cons_of_mem _ mY_39)) (fun _ h9 => h9) rfl dY_added_92 ?_
      refine lv_istore (lv' := [(12, .int q8.2.2.2.2.1), (11, .int q8.2.2.2.1), (9, .long y7), (8, .int q6.2.2.2.2.1), (7, .int q6.2.2.2.1), (6, .int y5), (0, .ref k0), (1, .int p1), (2, .long p2), (4, .long p3)]) hx hb dY_added_95 hl (by decide) rfl (fun ls hl => ?_)
      refine lv_aload_n hx hb dY_added_97 rfl (lv_at hl 6 rfl) ?_
      refine va_get (D := (dC, dI)) (ci := 1) (v := .long q8.2.2.2.2.2.1) (C := RX1) (T := TX1) (N := 8) hx hb hts (fun w9 h9 => List.mem_cons_of_mem _ (inY w9 h9)) hown hK hP 0 rfl rfl 5 (by decide) (hts (.fieldLink RX1 44 "ExactFloatsModel" "bits" "J") (List.mem_cons_of_mem _ mY_43)) (fun _ h9 => h9) rfl dY_added_98 ?_
      refine lv_bipush (v := (56 : Int32)) hx hb dY_added_101 (by decide) ?_
      refine lv_iload hx hb dY_added_103 (lv_at hl 5 rfl) ?_
      refine lv_isub hx hb dY_added_105 ?_
      refine lv_lshr (v := (xj_shr q8.2.2.2.2.2.1 ((56 : Int32) - y5))) hx hb dY_added_106 rfl ?_
      refine lv_topl (fun y9 ey9 => ?_)
      replace hF := xj_bz hF ey9
      refine lv_lstore (lv' := [(13, .long y9), (12, .int q8.2.2.2.2.1), (11, .int q8.2.2.2.1), (9, .long y7), (8, .int q6.2.2.2.2.1), (7, .int q6.2.2.2.1), (6, .int y5), (0, .ref k0), (1, .int p1), (2, .long p2), (4, .long p3)]) hx hb dY_added_107 hl (by decide) rfl (fun ls hl => ?_)
      refine lv_iload hx hb dY_added_109 (lv_at hl 1 rfl) ?_
      refine lv_iload hx hb dY_added_111 (lv_at hl 4 rfl) ?_
      obtain ⟨y11, ey11⟩ : ∃ z : Int32, z = (if q6.2.2.2.2.1 < q8.2.2.2.2.1 then (1 : Int32) else (if q8.2.2.2.2.1 = q6.2.2.2.2.1 then (if y9 ≤ y7 then (0 : Int32) else (1 : Int32)) else (0 : Int32))) := ⟨_, rfl⟩
      replace hF := xj_bz hF ey11
      refine xj_join 136 (fun ls' st' => lv_has ls' 26 [(13, .long y9), (12, .int q8.2.2.2.2.1), (11, .int q8.2.2.2.1), (9, .long y7), (8, .int q6.2.2.2.2.1), (7, .int q6.2.2.2.1), (6, .int y5), (0, .ref k0), (1, .int p1), (2, .long p2), (4, .long p3)] ∧ st' = [.int y11]) ?_ (fun K136 => ?_)
      · rintro ls st ⟨hl, rfl⟩
        refine lv_istore (lv' := [(15, .int y11), (13, .long y9), (12, .int q8.2.2.2.2.1), (11, .int q8.2.2.2.1), (9, .long y7), (8, .int q6.2.2.2.2.1), (7, .int q6.2.2.2.1), (6, .int y5), (0, .ref k0), (1, .int p1), (2, .long p2), (4, .long p3)]) hx hb dY_added_136 hl (by decide) rfl (fun ls hl => ?_)
        refine lv_iload hx hb dY_added_138 (lv_at hl 0 rfl) ?_
        obtain ⟨y13, ey13⟩ : ∃ z : Int64, z = (if y11 = 0 then y7 else y9) := ⟨_, rfl⟩
        replace hF := xj_bz hF ey13
        refine xj_join 150 (fun ls' st' => lv_has ls' 26 [(15, .int y11), (13, .long y9), (12, .int q8.2.2.2.2.1), (11, .int q8.2.2.2.1), (9, .long y7), (8, .int q6.2.2.2.2.1), (7, .int q6.2.2.2.1), (6, .int y5), (0, .ref k0), (1, .int p1), (2, .long p2), (4, .long p3)] ∧ st' = [.long y13]) ?_ (fun K150 => ?_)
        · rintro ls st ⟨hl, rfl⟩
          refine lv_bipush (v := (6 : Int32)) hx hb dY_added_150 (by decide) ?_
          refine lv_lshl (v := (xj_shl y13 (6 : Int32))) hx hb dY_added_152 rfl ?_
          refine lv_topl (fun y14 ey14 => ?_)
          replace hF := xj_bz hF ey14
          refine lv_lstore (lv' := [(16, .long y14), (15, .int y11), (13, .long y9), (12, .int q8.2.2.2.2.1), (11, .int q8.2.2.2.1), (9, .long y7), (8, .int q6.2.2.2.2.1), (7, .int q6.2.2.2.1), (6, .int y5), (0, .ref k0), (1, .int p1), (2, .long p2), (4, .long p3)]) hx hb dY_added_153 hl (by decide) rfl (fun ls hl => ?_)
          refine lv_iload hx hb dY_added_155 (lv_at hl 1 rfl) ?_
          obtain ⟨y16, ey16⟩ : ∃ z : Int64, z = (if y11 = 0 then y9 else y7) := ⟨_, rfl⟩
          replace hF := xj_bz hF ey16
          refine xj_join 167 (fun ls' st' => lv_has ls' 26 [(16, .long y14), (15, .int y11), (13, .long y9), (12, .int q8.2.2.2.2.1), (11, .int q8.2.2.2.1), (9, .long y7), (8, .int q6.2.2.2.2.1), (7, .int q6.2.2.2.1), (6, .int y5), (0, .ref k0), (1, .int p1), (2, .long p2), (4, .long p3)] ∧ st' = [.long y16]) ?_ (fun K167 => ?_)
          · rintro ls st ⟨hl, rfl⟩
            refine lv_bipush (v := (6 : Int32)) hx hb dY_added_167 (by decide) ?_
            refine lv_lshl (v := (xj_shl y16 (6 : Int32))) hx hb dY_added_169 rfl ?_
            refine lv_topl (fun y17 ey17 => ?_)
            replace hF := xj_bz hF ey17
            refine lv_lstore (lv' := [(18, .long y17), (16, .long y14), (15, .int y11), (13, .long y9), (12, .int q8.2.2.2.2.1), (11, .int q8.2.2.2.1), (9, .long y7), (8, .int q6.2.2.2.2.1), (7, .int q6.2.2.2.1), (6, .int y5), (0, .ref k0), (1, .int p1), (2, .long p2), (4, .long p3)]) hx hb dY_added_170 hl (by decide) rfl (fun ls hl => ?_)
            refine lv_iload hx hb dY_added_172 (lv_at hl 2 rfl) ?_
            obtain ⟨y19, ey19⟩ : ∃ z : Int32, z = (if y11 = 0 then (q6.2.2.2.2.1 - q8.2.2.2.2.1) else (q8.2.2.2.2.1 - q6.2.2.2.2.1)) := ⟨_, rfl⟩
            replace hF := xj_bz hF ey19
            refine xj_join 190 (fun ls' st' => lv_has ls' 26 [(18, .long y17), (16, .long y14), (15, .int y11), (13, .long y9), (12, .int q8.2.2.2.2.1), (11, .int q8.2.2.2.1), (9, .long y7), (8, .int q6.2.2.2.2.1), (7, .int q6.2.2.2.1), (6, .int y5), (0, .ref k0), (1, .int p1), (2, .long p2), (4, .long p3)] ∧ st' = [.int y19]) ?_ (fun K190 => ?_)
            · rintro ls st ⟨hl, rfl⟩
              refine lv_istore (lv' := [(20, .int y19), (18, .long y17), (16, .long y14), (15, .int y11), (13, .long y9), (12, .int q8.2.2.2.2.1), (11, .int q8.2.2.2.1), (9, .long y7), (8, .int q6.2.2.2.2.1), (7, .int q6.2.2.2.1), (6, .int y5), (0, .ref k0), (1, .int p1), (2, .long p2), (4, .long p3)]) hx hb dY_added_190 hl (by decide) rfl (fun ls hl => ?_)
              refine lv_iload hx hb dY_added_192 (lv_at hl 0 rfl) ?_
              refine lv_bipush (v := (62 : Int32)) hx hb dY_added_194 (by decide) ?_
              obtain ⟨y21, ey21⟩ : ∃ z : Int64, z = (if y19 ≤ (62 : Int32) then (xj_shr y17 y19) else (0 : Int64)) := ⟨_, rfl⟩
              replace hF := xj_bz hF ey21
              refine xj_join 208 (fun ls' st' => lv_has ls' 26 [(20, .int y19), (18, .long y17), (16, .long y14), (15, .int y11), (13, .long y9), (12, .int q8.2.2.2.2.1), (11, .int q8.2.2.2.1), (9, .long y7), (8, .int q6.2.2.2.2.1), (7, .int q6.2.2.2.1), (6, .int y5), (0, .ref k0), (1, .int p1), (2, .long p2), (4, .long p3)] ∧ st' = [.long y21]) ?_ (fun K208 => ?_)
              · rintro ls st ⟨hl, rfl⟩
                refine lv_lstore (lv' := [(21, .long y21), (20, .int y19), (18, .long y17), (16, .long y14), (15, .int y11), (13, .long y9), (12, .int q8.2.2.2.2.1), (11, .int q8.2.2.2.1), (9, .long y7), (8, .int q6.2.2.2.2.1), (7, .int q6.2.2.2.1), (6, .int y5), (0, .ref k0), (1, .int p1), (2, .long p2), (4, .long p3)]) hx hb dY_added_208 hl (by decide) rfl (fun ls hl => ?_)
                refine lv_iload hx hb dY_added_210 (lv_at hl 1 rfl) ?_
                refine lv_bipush (v := (62 : Int32)) hx hb dY_added_212 (by decide) ?_
                obtain ⟨y23, ey23⟩ : ∃ z : Int32, z = (if (62 : Int32) < y19 then (1 : Int32) else (if (xj_shl y21 y19) = y17 then (0 : Int32) else (1 : Int32))) := ⟨_, rfl⟩
                replace hF := xj_bz hF ey23
                refine xj_join 233 (fun ls' st' => lv_has ls' 26 [(21, .long y21), (20, .int y19), (18, .long y17), (16, .long y14), (15, .int y11), (13, .long y9), (12, .int q8.2.2.2.2.1), (11, .int q8.2.2.2.1), (9, .long y7), (8, .int q6.2.2.2.2.1), (7, .int q6.2.2.2.1), (6, .int y5), (0, .ref k0), (1, .int p1), (2, .long p2), (4, .long p3)] ∧ st' = [.int y23]) ?_ (fun K233 => ?_)
                · rintro ls st ⟨hl, rfl⟩
                  refine lv_istore (lv' := [(23, .int y23), (21, .long y21), (20, .int y19), (18, .long y17), (16, .long y14), (15, .int y11), (13, .long y9), (12, .int q8.2.2.2.2.1), (11, .int q8.2.2.2.1), (9, .long y7), (8, .int q6.2.2.2.2.1), (7, .int q6.2.2.2.1), (6, .int y5), (0, .ref k0), (1, .int p1), (2, .long p2), (4, .long p3)]) hx hb dY_added_233 hl (by decide) rfl (fun ls hl => ?_)
                  refine lv_iload hx hb dY_added_235 (lv_at hl 11 rfl) ?_
                  refine lv_iload hx hb dY_added_237 (lv_at hl 8 rfl) ?_
                  obtain ⟨y25, ey25⟩ : ∃ z : Int64, z = (if q6.2.2.2.1 = q8.2.2.2.1 then (y14 + y21) else (xj_bnd (if y23 = 0 then (0 : Int64) else (1 : Int64)) (fun y26 => ((y14 - y21) - y26)))) := ⟨_, rfl⟩
                  replace hF := xj_bz hF ey25
                  refine xj_join 266 (fun ls' st' => lv_has ls' 26 [(23, .int y23), (21, .long y21), (20, .int y19), (18, .long y17), (16, .long y14), (15, .int y11), (13, .long y9), (12, .int q8.2.2.2.2.1), (11, .int q8.2.2.2.1), (9, .long y7), (8, .int q6.2.2.2.2.1), (7, .int q6.2.2.2.1), (6, .int y5), (0, .ref k0), (1, .int p1), (2, .long p2), (4, .long p3)] ∧ st' = [.long y25]) ?_ (fun K266 => ?_)
                  · rintro ls st ⟨hl, rfl⟩
                    refine lv_lstore (lv' := [(24, .long y25), (23, .int y23), (21, .long y21), (20, .int y19), (18, .long y17), (16, .long y14), (15, .int y11), (13, .long y9), (12, .int q8.2.2.2.2.1), (11, .int q8.2.2.2.1), (9, .long y7), (8, .int q6.2.2.2.2.1), (7, .int q6.2.2.2.1), (6, .int y5), (0, .ref k0), (1, .int p1), (2, .long p2), (4, .long p3)]) hx hb dY_added_266 hl (by decide) rfl (fun ls hl => ?_)
                    refine lv_aload_n hx hb dY_added_268 rfl (lv_at hl 14 rfl) ?_
                    refine lv_iload_n hx hb dY_added_269 rfl (lv_at hl 15 rfl) ?_
                    refine lv_iload hx hb dY_added_270 (lv_at hl 6 rfl) ?_
                    obtain ⟨y27, ey27⟩ : ∃ z : Int32, z = (if y11 = 0 then q6.2.2.2.1 else q8.2.2.2.1) := ⟨_, rfl⟩
                    replace hF := xj_bz hF ey27
                    refine xj_join 282 (fun ls' st' => lv_has ls' 26 [(24, .long y25), (23, .int y23), (21, .long y21), (20, .int y19), (18, .long y17), (16, .long y14), (15, .int y11), (13, .long y9), (12, .int q8.2.2.2.2.1), (11, .int q8.2.2.2.1), (9, .long y7), (8, .int q6.2.2.2.2.1), (7, .int q6.2.2.2.1), (6, .int y5), (0, .ref k0), (1, .int p1), (2, .long p2), (4, .long p3)] ∧ st' = [.int y27, .int p1, .ref k0]) ?_ (fun K282 => ?_)
                    · rintro ls st ⟨hl, rfl⟩
                      refine lv_lload hx hb dY_added_282 (lv_at hl 0 rfl) ?_
                      refine lv_iload hx hb dY_added_284 (lv_at hl 6 rfl) ?_
                      obtain ⟨y29, ey29⟩ : ∃ z : Int32, z = (if y11 = 0 then q6.2.2.2.2.1 else q8.2.2.2.2.1) := ⟨_, rfl⟩
                      replace hF := xj_bz hF ey29
                      refine xj_join 296 (fun ls' st' => lv_has ls' 26 [(24, .long y25), (23, .int y23), (21, .long y21), (20, .int y19), (18, .long y17), (16, .long y14), (15, .int y11), (13, .long y9), (12, .int q8.2.2.2.2.1), (11, .int q8.2.2.2.1), (9, .long y7), (8, .int q6.2.2.2.2.1), (7, .int q6.2.2.2.1), (6, .int y5), (0, .ref k0), (1, .int p1), (2, .long p2), (4, .long p3)] ∧ st' = [.int y29, .long y25, .int y27, .int p1, .ref k0]) ?_ (fun K296 => ?_)
                      · rintro ls st ⟨hl, rfl⟩
                        refine lv_sipush (v := (128 : Int32)) hx hb dY_added_296 (by decide) ?_
                        refine lv_isub hx hb dY_added_299 ?_
                        refine lv_iload hx hb dY_added_300 (lv_at hl 13 rfl) ?_
                        refine lv_isub hx hb dY_added_302 ?_
                        refine lv_bipush (v := (6 : Int32)) hx hb dY_added_303 (by decide) ?_
                        refine lv_isub hx hb dY_added_305 ?_
                        refine lv_iload hx hb dY_added_306 (lv_at hl 1 rfl) ?_
                        obtain ⟨q30, eq30⟩ : ∃ z : Int64 × (Nat → Int64) × Int32 × Int32 × Int32 × Int32 × Int64 × Int32 × Int32, z = (mf_Y_rounds q8.1 q8.2.1 q8.2.2.1 q8.2.2.2.1 q8.2.2.2.2.1 q8.2.2.2.2.2.1 q8.2.2.2.2.2.2.1 q8.2.2.2.2.2.2.2 p1 y27 y25 (((y29 - (128 : Int32)) - y5) - (6 : Int32)) y23) := ⟨_, rfl⟩
                        replace hF := xj_bz hF eq30
                        refine xj_vl (r := q30) (As := [.int p1, .int y27, .long y25, .int (((y29 - (128 : Int32)) - y5) - (6 : Int32)), .int y23]) (rest := []) (Wd := mw_Y k0 k_g cB_g) (wr := []) ⟨hx, hb, hml, hown, hts⟩ (by rw [eq30]; exact mc_Y_rounds l dC dI k0 k_g cB_g q8.1 q8.2.1 q8.2.2.1 q8.2.2.2.1 q8.2.2.2.2.1 q8.2.2.2.2.2.1 q8.2.2.2.2.2.2.1 q8.2.2.2.2.2.2.2 p1 y27 y25 (((y29 - (128 : Int32)) - y5) - (6 : Int32)) y23 (by rw [ey23]; (repeat' split) <;> simp)) (cwV 5 hts (gY_rounds _) rfl rfl rfl (by decide +kernel) ⟨Nat.le_of_ble_eq_true rfl, Nat.le_of_ble_eq_true rfl⟩) hP hK hD hS hA [0, 1] [] [0] rfl (by decide) rfl (by decide) (by decide) rfl (va_recv hK hP (ci := 1) (q0 := 0) rfl rfl) rfl hl.1 rfl (Nat.le_of_ble_eq_true rfl) dY_added_308 ⟨Nat.zero_le _, Nat.zero_le _⟩ (fun H9 locs9 hP hD hS => ?_)
                        have hP : va_P (dC, dI) vwCl [(k0, .inr (1, [.ref k_g, .int q30.2.2.1, .int q30.2.2.2.1, .int q30.2.2.2.2.1, .int q30.2.2.2.2.2.1, .long q30.2.2.2.2.2.2.1, .int q30.2.2.2.2.2.2.2.1, .int q30.2.2.2.2.2.2.2.2])), (k_g, .inl (cB_g, 8, .inr (.inl q30.2.1)))] _ := hP
                        have hD : va_D A [(k0, .inr (1, [.ref k_g, .int q30.2.2.1, .int q30.2.2.2.1, .int q30.2.2.2.2.1, .int q30.2.2.2.2.2.1, .long q30.2.2.2.2.2.2.1, .int q30.2.2.2.2.2.2.2.1, .int q30.2.2.2.2.2.2.2.2])), (k_g, .inl (cB_g, 8, .inr (.inl q30.2.1)))] := hD
                        exact W.lret (v := q30.1) hx hb hr (fun t ht hW => ⟨⟨_, (q30.2.1, q30.2.2.1, q30.2.2.2.1, q30.2.2.2.2.1, q30.2.2.2.2.2.1, q30.2.2.2.2.2.2.1, q30.2.2.2.2.2.2.2.1, q30.2.2.2.2.2.2.2.2), rfl, hF.symm, by rw [ht]; exact hP, hD⟩, hS.F ht⟩) hS.2.2 dY_added_311
                      · refine lv_if_eq (tgt := 294) hx hb dY_added_286 (by decide) (fun c28 => ?_) (fun c28 => ?_)
                        · replace ey29 := xj_t ey29 c28
                          refine lv_iload hx hb dY_added_294 (lv_at hl 11 rfl) ?_
                          subst ey29
                          exact K296 _ _ ⟨lv_sub hl [0, 1, 2, 3, 4, 5, 6, 7, 8, 9, 10, 11, 12, 13, 14, 15, 16, 17] rfl, rfl⟩
                        · replace ey29 := xj_f ey29 c28
                          refine lv_iload hx hb dY_added_289 (lv_at hl 8 rfl) ?_
                          refine lv_goto (tgt := 296) hx hb dY_added_291 (by decide) ?_
                          subst ey29
                          exact K296 _ _ ⟨lv_sub hl [0, 1, 2, 3, 4, 5, 6, 7, 8, 9, 10, 11, 12, 13, 14, 15, 16, 17] rfl, rfl⟩
                    · refine lv_if_eq (tgt := 280) hx hb dY_added_272 (by decide) (fun c26 => ?_) (fun c26 => ?_)
                      · replace ey27 := xj_t ey27 c26
                        refine lv_iload hx hb dY_added_280 (lv_at hl 12 rfl) ?_
                        subst ey27
                        exact K282 _ _ ⟨lv_sub hl [0, 1, 2, 3, 4, 5, 6, 7, 8, 9, 10, 11, 12, 13, 14, 15, 16, 17] rfl, rfl⟩
                      · replace ey27 := xj_f ey27 c26
                        refine lv_iload hx hb dY_added_275 (lv_at hl 9 rfl) ?_
                        refine lv_goto (tgt := 282) hx hb dY_added_277 (by decide) ?_
                        subst ey27
                        exact K282 _ _ ⟨lv_sub hl [0, 1, 2, 3, 4, 5, 6, 7, 8, 9, 10, 11, 12, 13, 14, 15, 16, 17] rfl, rfl⟩
                  · refine lv_icmp_ne (tgt := 250) hx hb dY_added_239 (by decide) (fun c24 => ?_) (fun c24 => ?_)
                    · replace ey25 := xj_f ey25 c24
                      refine lv_lload hx hb dY_added_250 (lv_at hl 4 rfl) ?_
                      refine lv_lload hx hb dY_added_252 (lv_at hl 1 rfl) ?_
                      refine lv_lsub hx hb dY_added_254 ?_
                      refine lv_iload hx hb dY_added_255 (lv_at hl 0 rfl) ?_
                      obtain ⟨y32, ey32⟩ : ∃ z : Int64, z = (if y23 = 0 then (0 : Int64) else (1 : Int64)) := ⟨_, rfl⟩
                      replace ey25 := xj_bz ey25 ey32
                      refine xj_join 265 (fun ls' st' => lv_has ls' 26 [(23, .int y23), (21, .long y21), (20, .int y19), (18, .long y17), (16, .long y14), (15, .int y11), (13, .long y9), (12, .int q8.2.2.2.2.1), (11, .int q8.2.2.2.1), (9, .long y7), (8, .int q6.2.2.2.2.1), (7, .int q6.2.2.2.1), (6, .int y5), (0, .ref k0), (1, .int p1), (2, .long p2), (4, .long p3)] ∧ st' = [.long y32, .long (y14 - y21)]) ?_ (fun K265 => ?_)
                      · rintro ls st ⟨hl, rfl⟩
                        refine lv_lsub hx hb dY_added_265 ?_
                        subst ey25
                        exact K266 _ _ ⟨lv_sub hl [0, 1, 2, 3, 4, 5, 6, 7, 8, 9, 10, 11, 12, 13, 14, 15, 16] rfl, rfl⟩
                      · refine lv_if_eq (tgt := 264) hx hb dY_added_257 (by decide) (fun c31 => ?_) (fun c31 => ?_)
                        · replace ey32 := xj_t ey32 c31
                          refine lv_lconst (v := (0 : Int64)) hx hb dY_added_264 (by decide) ?_
                          subst ey32
                          exact K265 _ _ ⟨lv_sub hl [0, 1, 2, 3, 4, 5, 6, 7, 8, 9, 10, 11, 12, 13, 14, 15, 16] rfl, rfl⟩
                        · replace ey32 := xj_f ey32 c31
                          refine lv_lconst (v := (1 : Int64)) hx hb dY_added_260 (by decide) ?_
                          refine lv_goto (tgt := 265) hx hb dY_added_261 (by decide) ?_
                          subst ey32
                          exact K265 _ _ ⟨lv_sub hl [0, 1, 2, 3, 4, 5, 6, 7, 8, 9, 10, 11, 12, 13, 14, 15, 16] rfl, rfl⟩
                    · replace ey25 := xj_t ey25 c24
                      refine lv_lload hx hb dY_added_242 (lv_at hl 4 rfl) ?_
                      refine lv_lload hx hb dY_added_244 (lv_at hl 1 rfl) ?_
                      refine lv_ladd hx hb dY_added_246 ?_
                      refine lv_goto (tgt := 266) hx hb dY_added_247 (by decide) ?_
                      subst ey25
                      exact K266 _ _ ⟨lv_sub hl [0, 1, 2, 3, 4, 5, 6, 7, 8, 9, 10, 11, 12, 13, 14, 15, 16] rfl, rfl⟩
                · refine lv_icmp_gt (tgt := 228) hx hb dY_added_214 (by decide) (fun c22 => ?_) (fun c22 => ?_)
                  · replace ey23 := xj_t ey23 c22
                    refine lv_iconst (v := (1 : Int32)) hx hb dY_added_228 (by decide) ?_
                    refine lv_goto (tgt := 233) hx hb dY_added_229 (by decide) ?_
                    subst ey23
                    exact K233 _ _ ⟨lv_sub hl [0, 1, 2, 3, 4, 5, 6, 7, 8, 9, 10, 11, 12, 13, 14, 15] rfl, rfl⟩
                  · replace ey23 := xj_f ey23 c22
                    refine lv_lload hx hb dY_added_217 (lv_at hl 0 rfl) ?_
                    refine lv_iload hx hb dY_added_219 (lv_at hl 1 rfl) ?_
                    refine lv_lshl (v := (xj_shl y21 y19)) hx hb dY_added_221 rfl ?_
                    refine lv_lload hx hb dY_added_222 (lv_at hl 2 rfl) ?_
                    refine xj_l_eq (tgt := 232) hx hb dY_added_224 dY_added_225 (by decide) (fun c33 => ?_) (fun c33 => ?_)
                    · replace ey23 := xj_t ey23 c33
                      refine lv_iconst (v := (0 : Int32)) hx hb dY_added_232 (by decide) ?_
                      subst ey23
                      exact K233 _ _ ⟨lv_sub hl [0, 1, 2, 3, 4, 5, 6, 7, 8, 9, 10, 11, 12, 13, 14, 15] rfl, rfl⟩
                    · replace ey23 := xj_f ey23 c33
                      refine lv_iconst (v := (1 : Int32)) hx hb dY_added_228 (by decide) ?_
                      refine lv_goto (tgt := 233) hx hb dY_added_229 (by decide) ?_
                      subst ey23
                      exact K233 _ _ ⟨lv_sub hl [0, 1, 2, 3, 4, 5, 6, 7, 8, 9, 10, 11, 12, 13, 14, 15] rfl, rfl⟩
              · refine lv_icmp_le (tgt := 203) hx hb dY_added_196 (by decide) (fun c20 => ?_) (fun c20 => ?_)
                · replace ey21 := xj_t ey21 c20
                  refine lv_lload hx hb dY_added_203 (lv_at hl 1 rfl) ?_
                  refine lv_iload hx hb dY_added_205 (lv_at hl 0 rfl) ?_
                  refine lv_lshr (v := (xj_shr y17 y19)) hx hb dY_added_207 rfl ?_
                  subst ey21
                  exact K208 _ _ ⟨lv_sub hl [0, 1, 2, 3, 4, 5, 6, 7, 8, 9, 10, 11, 12, 13, 14] rfl, rfl⟩
                · replace ey21 := xj_f ey21 c20
                  refine lv_lconst (v := (0 : Int64)) hx hb dY_added_199 (by decide) ?_
                  refine lv_goto (tgt := 208) hx hb dY_added_200 (by decide) ?_
                  subst ey21
                  exact K208 _ _ ⟨lv_sub hl [0, 1, 2, 3, 4, 5, 6, 7, 8, 9, 10, 11, 12, 13, 14] rfl, rfl⟩
            · refine lv_if_eq (tgt := 185) hx hb dY_added_174 (by decide) (fun c18 => ?_) (fun c18 => ?_)
              · replace ey19 := xj_t ey19 c18
                refine lv_iload hx hb dY_added_185 (lv_at hl 7 rfl) ?_
                refine lv_iload hx hb dY_added_187 (lv_at hl 4 rfl) ?_
                refine lv_isub hx hb dY_added_189 ?_
                subst ey19
                exact K190 _ _ ⟨lv_sub hl [0, 1, 2, 3, 4, 5, 6, 7, 8, 9, 10, 11, 12, 13] rfl, rfl⟩
              · replace ey19 := xj_f ey19 c18
                refine lv_iload hx hb dY_added_177 (lv_at hl 4 rfl) ?_
                refine lv_iload hx hb dY_added_179 (lv_at hl 7 rfl) ?_
                refine lv_isub hx hb dY_added_181 ?_
                refine lv_goto (tgt := 190) hx hb dY_added_182 (by decide) ?_
                subst ey19
                exact K190 _ _ ⟨lv_sub hl [0, 1, 2, 3, 4, 5, 6, 7, 8, 9, 10, 11, 12, 13] rfl, rfl⟩
          · refine lv_if_eq (tgt := 165) hx hb dY_added_157 (by decide) (fun c15 => ?_) (fun c15 => ?_)
            · replace ey16 := xj_t ey16 c15
              refine lv_lload hx hb dY_added_165 (lv_at hl 2 rfl) ?_
              subst ey16
              exact K167 _ _ ⟨lv_sub hl [0, 1, 2, 3, 4, 5, 6, 7, 8, 9, 10, 11, 12] rfl, rfl⟩
            · replace ey16 := xj_f ey16 c15
              refine lv_lload hx hb dY_added_160 (lv_at hl 5 rfl) ?_
              refine lv_goto (tgt := 167) hx hb dY_added_162 (by decide) ?_
              subst ey16
              exact K167 _ _ ⟨lv_sub hl [0, 1, 2, 3, 4, 5, 6, 7, 8, 9, 10, 11, 12] rfl, rfl⟩
        · refine lv_if_eq (tgt := 148) hx hb dY_added_140 (by decide) (fun c12 => ?_) (fun c12 => ?_)
          · replace ey13 := xj_t ey13 c12
            refine lv_lload hx hb dY_added_148 (lv_at hl 4 rfl) ?_
            subst ey13
            exact K150 _ _ ⟨lv_sub hl [0, 1, 2, 3, 4, 5, 6, 7, 8, 9, 10, 11] rfl, rfl⟩
          · replace ey13 := xj_f ey13 c12
            refine lv_lload hx hb dY_added_143 (lv_at hl 1 rfl) ?_
            refine lv_goto (tgt := 150) hx hb dY_added_145 (by decide) ?_
            subst ey13
            exact K150 _ _ ⟨lv_sub hl [0, 1, 2, 3, 4, 5, 6, 7, 8, 9, 10, 11] rfl, rfl⟩
      · refine lv_icmp_gt (tgt := 131) hx hb dY_added_113 (by decide) (fun c10 => ?_) (fun c10 => ?_)
        · replace ey11 := xj_t ey11 c10
          refine lv_iconst (v := (1 : Int32)) hx hb dY_added_131 (by decide) ?_
          refine lv_goto (tgt := 136) hx hb dY_added_132 (by decide) ?_
          subst ey11
          exact K136 _ _ ⟨lv_sub hl [0, 1, 2, 3, 4, 5, 6, 7, 8, 9, 10] rfl, rfl⟩
        · replace ey11 := xj_f ey11 c10
          refine lv_iload hx hb dY_added_116 (lv_at hl 1 rfl) ?_
          refine lv_iload hx hb dY_added_118 (lv_at hl 4 rfl) ?_
          refine lv_icmp_ne (tgt := 135) hx hb dY_added_120 (by decide) (fun c34 => ?_) (fun c34 => ?_)
          · replace ey11 := xj_f ey11 c34
            refine lv_iconst (v := (0 : Int32)) hx hb dY_added_135 (by decide) ?_
            subst ey11
            exact K136 _ _ ⟨lv_sub hl [0, 1, 2, 3, 4, 5, 6, 7, 8, 9, 10] rfl, rfl⟩
          · replace ey11 := xj_t ey11 c34
            refine lv_lload hx hb dY_added_123 (lv_at hl 0 rfl) ?_
            refine lv_lload hx hb dY_added_125 (lv_at hl 3 rfl) ?_
            refine xj_l_le (tgt := 135) hx hb dY_added_127 dY_added_128 (by decide) (fun c35 => ?_) (fun c35 => ?_)
            · replace ey11 := xj_t ey11 c35
              refine lv_iconst (v := (0 : Int32)) hx hb dY_added_135 (by decide) ?_
              subst ey11
              exact K136 _ _ ⟨lv_sub hl [0, 1, 2, 3, 4, 5, 6, 7, 8, 9, 10] rfl, rfl⟩
            · replace ey11 := xj_f ey11 c35
              refine lv_iconst (v := (1 : Int32)) hx hb dY_added_131 (by decide) ?_
              refine lv_goto (tgt := 136) hx hb dY_added_132 (by decide) ?_
              subst ey11
              exact K136 _ _ ⟨lv_sub hl [0, 1, 2, 3, 4, 5, 6, 7, 8, 9, 10] rfl, rfl⟩
    · replace hF := xj_f hF c4
      refine lv_lload_n hx hb dY_added_40 rfl (lv_at hl 2 rfl) ?_
      exact W.lret (v := p2) hx hb hr (fun t ht hW => ⟨⟨_, (g, ak, il, mi, xe, bi, (0 : Int32), (0 : Int32)), rfl, hF.symm, by rw [ht]; exact hP, hD⟩, hS.F ht⟩) hS.2.2 dY_added_41
  · replace hF := xj_f hF c2
    refine lv_lload hx hb dY_added_17 (lv_at hl 3 rfl) ?_
    refine xj_si (As := [.long p3]) (rest := []) ⟨hx, hb, hml, hown, hts⟩ (mc_Y_isZero l p3) (va_cwS 1 hts (gY_isZero _) rfl rfl rfl (by decide +kernel) ⟨Nat.le_of_ble_eq_true rfl, Nat.le_of_ble_eq_true rfl⟩) hS hA rfl hl.1 rfl (Nat.le_of_ble_eq_true rfl) dY_added_19 ⟨Nat.zero_le _, Nat.zero_le _⟩ (fun H9 locs9 hk9 hS => ?_)
    have hP := xj_kept hP hk9
    refine lv_topi (fun y36 ey36 => ?_)
    replace hF := xj_bz hF ey36
    refine lv_if_eq (tgt := 29) hx hb dY_added_22 (by decide) (fun c37 => ?_) (fun c37 => ?_)
    · replace hF := xj_t hF c37
      refine lv_lload hx hb dY_added_29 (lv_at hl 3 rfl) ?_
      exact W.lret (v := p3) hx hb hr (fun t ht hW => ⟨⟨_, (g, ak, il, mi, xe, bi, (0 : Int32), (0 : Int32)), rfl, hF.symm, by rw [ht]; exact hP, hD⟩, hS.F ht⟩) hS.2.2 dY_added_31
    · replace hF := xj_f hF c37
      refine lv_lconst (v := (0 : Int64)) hx hb dY_added_25 (by decide) ?_
      refine lv_goto (tgt := 31) hx hb dY_added_26 (by decide) ?_
      exact W.lret (v := (0 : Int64)) hx hb hr (fun t ht hW => ⟨⟨_, (g, ak, il, mi, xe, bi, (0 : Int32), (0 : Int32)), rfl, hF.symm, by rw [ht]; exact hP, hD⟩, hS.F ht⟩) hS.2.2 dY_added_31
theorem ms_cut_added {g : Nat → Int64} {ak il mi xe : Int32} {bi : Int64} {fa cu p1 : Int32} {p2 p3 : Int64} : (mf_Y_added g ak il mi xe bi fa cu p1 p2 p3).2.2.2.2.2.2.2.2 = 0 ∨ (mf_Y_added g ak il mi xe bi fa cu p1 p2 p3).2.2.2.2.2.2.2.2 = 1 := by
  have key : ∀ c : Prop, [Decidable c] → ∀ d : Prop, [Decidable d] → (if c then (1 : Int32) else (if d then (0 : Int32) else (1 : Int32))) = 0 ∨ (if c then (1 : Int32) else (if d then (0 : Int32) else (1 : Int32))) = 1 := by
    intro c _ d _; (repeat' split) <;> simp
  obtain ⟨T, hT⟩ : ∃ T, T = mf_Y_added g ak il mi xe bi fa cu p1 p2 p3 := ⟨_, rfl⟩
  rw [← hT]
  unfold mf_Y_added at hT
  obtain ⟨y1, e1, hT⟩ := xj_b hT
  by_cases h1 : y1 = 0
  · replace hT := xj_t hT h1
    obtain ⟨y3, e3, hT⟩ := xj_b hT
    by_cases h2 : y3 = 0
    · replace hT := xj_t hT h2
      obtain ⟨y5, ey5, hT⟩ := xj_b hT
      obtain ⟨q6, eq6, hT⟩ := xj_b hT
      obtain ⟨y7, ey7, hT⟩ := xj_b hT
      obtain ⟨q8, eq8, hT⟩ := xj_b hT
      obtain ⟨y9, ey9, hT⟩ := xj_b hT
      obtain ⟨y11, ey11, hT⟩ := xj_b hT
      obtain ⟨y13, ey13, hT⟩ := xj_b hT
      obtain ⟨y14, ey14, hT⟩ := xj_b hT
      obtain ⟨y16, ey16, hT⟩ := xj_b hT
      obtain ⟨y17, ey17, hT⟩ := xj_b hT
      obtain ⟨y19, ey19, hT⟩ := xj_b hT
      obtain ⟨y21, ey21, hT⟩ := xj_b hT
      obtain ⟨y23, ey23, hT⟩ := xj_b hT
      obtain ⟨y25, ey25, hT⟩ := xj_b hT
      obtain ⟨y27, ey27, hT⟩ := xj_b hT
      obtain ⟨y29, ey29, hT⟩ := xj_b hT
      obtain ⟨q30, eq30, hT⟩ := xj_b hT
      rw [hT]
      show q30.2.2.2.2.2.2.2.2 = 0 ∨ q30.2.2.2.2.2.2.2.2 = 1
      rw [eq30]
      exact ms_cut_rounds (by rw [ey23]; exact key _ _)
    · replace hT := xj_f hT h2
      rw [hT]; simp
  · replace hT := xj_f hT h1
    obtain ⟨y3, e3, hT⟩ := xj_b hT
    by_cases h2 : y3 = 0
    · replace hT := xj_t hT h2
      rw [hT]; simp
    · replace hT := xj_f hT h2
      rw [hT]; simp

