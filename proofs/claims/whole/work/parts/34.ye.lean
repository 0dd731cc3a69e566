def mf_Y_product (g : Nat → Int64) (ak : Int32) (il : Int32) (mi : Int32) (xe : Int32) (bi : Int64) (fa : Int32) (cu : Int32) (p1 : Int32) (p2 : Int32) (p3 : Int32) (p4 : Int32) : Int32 × (Nat → Int64) × Int32 × Int32 × Int32 × Int32 × Int64 × Int32 × Int32 := (xj_bnd (mf_Y_two g ak il mi xe bi fa cu p1 p2 p3 p4) (fun y1 => (if 0 ≤ y1 then (xj_bnd (mf_Y_in g ak il mi xe bi fa cu p1 p2) (fun y3 => (xj_bnd (mf_Y_take g ak il mi xe bi fa cu p1 y3) (fun q4 => (xj_bnd (mf_Y_in q4.1 q4.2.1 q4.2.2.1 q4.2.2.2.1 q4.2.2.2.2.1 q4.2.2.2.2.2.1 q4.2.2.2.2.2.2.1 q4.2.2.2.2.2.2.2 p1 p3) (fun y5 => (xj_bnd (mf_Y_take q4.1 q4.2.1 q4.2.2.1 q4.2.2.2.1 q4.2.2.2.2.1 q4.2.2.2.2.2.1 q4.2.2.2.2.2.2.1 q4.2.2.2.2.2.2.2 p1 y5) (fun q6 => (if q4.2.2.2.2.2.1 = (0 : Int64) then (xj_bnd (mf_Y_gives q6.1 q6.2.1 q6.2.2.1 q6.2.2.2.1 q6.2.2.2.2.1 q6.2.2.2.2.2.1 (0 : Int32) (0 : Int32) (0 : Int64) p4) (fun q8 => (q8.1, (q8.2.1, q8.2.2.1, q8.2.2.2.1, q8.2.2.2.2.1, q8.2.2.2.2.2.1, q8.2.2.2.2.2.2.1, q8.2.2.2.2.2.2.2.1, q8.2.2.2.2.2.2.2.2)))) else (if q6.2.2.2.2.2.1 = (0 : Int64) then (xj_bnd (mf_Y_gives q6.1 q6.2.1 q6.2.2.1 q6.2.2.2.1 q6.2.2.2.2.1 q6.2.2.2.2.2.1 (0 : Int32) (0 : Int32) (0 : Int64) p4) (fun q24 => (q24.1, (q24.2.1, q24.2.2.1, q24.2.2.2.1, q24.2.2.2.2.1, q24.2.2.2.2.2.1, q24.2.2.2.2.2.2.1, q24.2.2.2.2.2.2.2.1, q24.2.2.2.2.2.2.2.2)))) else (xj_bnd (if q4.2.2.2.1 = q6.2.2.2.1 then (0 : Int32) else (1 : Int32)) (fun y11 => (xj_bnd ((q4.2.2.2.2.1 + q6.2.2.2.2.1) - (256 : Int32)) (fun y12 => (if p1 = (4 : Int32) then (xj_bnd (mf_Y_rounds q6.1 q6.2.1 q6.2.2.1 q6.2.2.2.1 q6.2.2.2.2.1 q6.2.2.2.2.2.1 (0 : Int32) (0 : Int32) (4 : Int32) y11 ((xj_shr q4.2.2.2.2.2.1 (32 : Int32)) * (xj_shr q6.2.2.2.2.2.1 (32 : Int32))) (y12 - (48 : Int32)) (0 : Int32)) (fun q22 => (xj_bnd (mf_Y_gives q22.2.1 q22.2.2.1 q22.2.2.2.1 q22.2.2.2.2.1 q22.2.2.2.2.2.1 q22.2.2.2.2.2.2.1 q22.2.2.2.2.2.2.2.1 q22.2.2.2.2.2.2.2.2 q22.1 p4) (fun q23 => (q23.1, (q23.2.1, q23.2.2.1, q23.2.2.2.1, q23.2.2.2.2.1, q23.2.2.2.2.2.1, q23.2.2.2.2.2.2.1, q23.2.2.2.2.2.2.2.1, q23.2.2.2.2.2.2.2.2)))))) else (xj_bnd ((q4.2.2.2.2.2.1 &&& (268435455 : Int64)) * (q6.2.2.2.2.2.1 &&& (268435455 : Int64))) (fun y14 => (xj_bnd ((((xj_shr q4.2.2.2.2.2.1 (28 : Int32)) * (q6.2.2.2.2.2.1 &&& (268435455 : Int64))) + ((q4.2.2.2.2.2.1 &&& (268435455 : Int64)) * (xj_shr q6.2.2.2.2.2.1 (28 : Int32)))) + (xj_shr y14 (28 : Int32))) (fun y15 => (xj_bnd ((xj_shr q4.2.2.2.2.2.1 (28 : Int32)) * (xj_shr q6.2.2.2.2.2.1 (28 : Int32))) (fun y16 => (xj_bnd (if (y14 &&& (268435455 : Int64)) = (0 : Int64) then (if (y15 &&& (4194303 : Int64)) = (0 : Int64) then (0 : Int32) else (1 : Int32)) else (1 : Int32)) (fun y18 => (xj_bnd (mf_Y_rounds q6.1 q6.2.1 q6.2.2.1 q6.2.2.2.1 q6.2.2.2.2.1 q6.2.2.2.2.2.1 (0 : Int32) (0 : Int32) (8 : Int32) y11 ((xj_shl y16 (6 : Int32)) + (xj_shr y15 (22 : Int32))) ((y12 - (112 : Int32)) + (50 : Int32)) y18) (fun q19 => (xj_bnd (mf_Y_gives q19.2.1 q19.2.2.1 q19.2.2.2.1 q19.2.2.2.2.1 q19.2.2.2.2.2.1 q19.2.2.2.2.2.2.1 q19.2.2.2.2.2.2.2.1 q19.2.2.2.2.2.2.2.2 q19.1 p4) (fun q20 => (q20.1, (q20.2.1, q20.2.2.1, q20.2.2.2.1, q20.2.2.2.2.1, q20.2.2.2.2.2.1, q20.2.2.2.2.2.2.1, q20.2.2.2.2.2.2.2.1, q20.2.2.2.2.2.2.2.2))))))))))))))))))))))))))))) else (y1, (g, ak, il, mi, xe, bi, fa, cu)))))
set_option maxHeartbeats 4000000 in
set_option maxRecDepth 100000 in
theorem mc_Y_product (l : Launch) (dC : Nat → ClassId) (dI : Nat → Nat → Nat) (k0 k_g : Nat) (cB_g : ClassId) (g : Nat → Int64) (ak : Int32) (il : Int32) (mi : Int32) (xe : Int32) (bi : Int64) (fa : Int32) (cu : Int32) (p1 : Int32) (p2 : Int32) (p3 : Int32) (p4 : Int32) : xj_Oi l (dC, dI) vwCl [(cB_g, .long)] (mw_Y k0 k_g cB_g) yY_product wsY_product ({ frames := 3, cells := 0, slots := 0, locals := 65 }) [.ref k0, .int p1, .int p2, .int p3, .int p4] (g, ak, il, mi, xe, bi, fa, cu) (mf_Y_product g ak il mi xe bi fa cu p1 p2 p3 p4) := by
  intro sz
  refine Met.ofW (cc := cY_product) (maxL := 20) (ret := (some .int)) (by decide) rfl ?_
  intro p e s m args below meth c s₁ B hml hv
  obtain ⟨rfl, hsz, hP, hK, hD0⟩ := hv
  have hx := B.exec
  have hb := B.bytes
  have hr := B.returns
  have hts := atoms_spec (ws := wsY_product) B.pre
  have hown : s.vm.findClass RX1 = some m.cls := findClass_of_methodNamed B.named
  have hlocks := B.notSynchronized
  subst hsz
  have hD := hD0.self (sz := s.heap.size)
  generalize hAe : va_A (mw_Y k0 k_g cB_g (g, ak, il, mi, xe, bi, fa, cu)) s.heap.size = A at hD ⊢
  have hA : ∀ q : Nat, s.heap.size ≤ q → A q := fun q h => by rw [← hAe]; exact Or.inr h
  have hS : va_S A s.heap s.heap [] := va_S.rf
  have hP : va_P (dC, dI) vwCl [(k0, .inr (1, [.ref k_g, .int ak, .int il, .int mi, .int xe, .long bi, .int fa, .int cu])), (k_g, .inl (cB_g, 8, .inr (.inl g)))] s.heap := hP
  have hD : va_D A [(k0, .inr (1, [.ref k_g, .int ak, .int il, .int mi, .int xe, .long bi, .int fa, .int cu])), (k_g, .inl (cB_g, 8, .inr (.inl g)))] := hD
  generalize hT : mf_Y_product g ak il mi xe bi fa cu p1 p2 p3 p4 = T
  have hF := hT.symm
  unfold mf_Y_product at hF
  have hl := lv_entry ([.ref k0, .int p1, .int p2, .int p3, .int p4]) (n := 20) (Nat.le_of_ble_eq_true rfl)
  rw [lg_entry_eq]
  generalize (lg_sl ([.ref k0, .int p1, .int p2, .int p3, .int p4]) ++ List.replicate (20 - (lg_sl ([.ref k0, .int p1, .int p2, .int p3, .int p4])).length) Slot.unset).toArray = ls at hl ⊢
  have hl : lv_has ls 20 [(0, .ref k0), (1, .int p1), (2, .int p2), (3, .int p3), (4, .int p4)] := hl
  refine lv_aload_n hx hb dY_product_0 rfl (lv_at hl 0 rfl) ?_
  refine lv_iload_n hx hb dY_product_1 rfl (lv_at hl 1 rfl) ?_
  refine lv_iload_n hx hb dY_product_2 rfl (lv_at hl 2 rfl) ?_
  refine lv_iload_n hx hb dY_product_3 rfl (lv_at hl 3 rfl) ?_
  refine lv_iload hx hb dY_product_4 (lv_at hl 4 rfl) ?_
  refine xj_vi (As := [.int p1, .int p2, .int p3, .int p4]) (rest := []) (Wd := mw_Y k0 k_g cB_g) (wr := []) ⟨hx, hb, hml, hown, hts⟩ (mc_Y_two l dC dI k0 k_g cB_g g ak il mi xe bi fa cu p1 p2 p3 p4) (cwV 4 hts (gY_two _) rfl rfl rfl (by decide +kernel) ⟨Nat.le_of_ble_eq_true rfl, Nat.le_of_ble_eq_true rfl⟩) hP hK hD hS hA [0, 1] [] [0] rfl (by decide) rfl (by decide) (by decide) rfl (va_recv hK hP (ci := 1) (q0 := 0) rfl rfl) rfl hl.1 rfl (Nat.le_of_ble_eq_true rfl) dY_product_6 ⟨Nat.zero_le _, Nat.zero_le _⟩ (fun H9 locs9 hP hD hS => ?_)
  have hP : va_P (dC, dI) vwCl [(k0, .inr (1, [.ref k_g, .int ak, .int il, .int mi, .int xe, .long bi, .int fa, .int cu])), (k_g, .inl (cB_g, 8, .inr (.inl g)))] _ := hP
  have hD : va_D A [(k0, .inr (1, [.ref k_g, .int ak, .int il, .int mi, .int xe, .long bi, .int fa, .int cu])), (k_g, .inl (cB_g, 8, .inr (.inl g)))] := hD
  refine lv_topi (fun y1 ey1 => ?_)
  replace hF := xj_bz hF ey1
  refine lv_istore (lv' := [(5, .int y1), (0, .ref k0), (1, .int p1), (2, .int p2), (3, .int p3), (4, .int p4)]) hx hb dY_product_9 hl (by decide) rfl (fun ls hl => ?_)
  refine lv_iload hx hb dY_product_11 (lv_at hl 0 rfl) ?_
  refine lv_if_ge (tgt := 19) hx hb dY_product_13 (by decide) (fun c2 => ?_) (fun c2 => ?_)
  · replace hF := xj_t hF c2
    refine lv_aload_n hx hb dY_product_19 rfl (lv_at hl 1 rfl) ?_
    refine lv_iload_n hx hb dY_product_20 rfl (lv_at hl 2 rfl) ?_
    refine lv_aload_n hx hb dY_product_21 rfl (lv_at hl 1 rfl) ?_
    refine lv_iload_n hx hb dY_product_22 rfl (lv_at hl 2 rfl) ?_
    refine lv_iload_n hx hb dY_product_23 rfl (lv_at hl 3 rfl) ?_
    refine xj_vl (As := [.int p1, .int p2]) (rest := [.int p1, .ref k0]) (Wd := mw_Y k0 k_g cB_g) (wr := []) ⟨hx, hb, hml, hown, hts⟩ (mc_Y_in l dC dI k0 k_g cB_g g ak il mi xe bi fa cu p1 p2 ((ms_two (xj_ge ey1 c2)).1)) (cwV 2 hts (gY_in _) rfl rfl rfl (by decide +kernel) ⟨Nat.le_of_ble_eq_true rfl, Nat.le_of_ble_eq_true rfl⟩) hP hK hD hS hA [0, 1] [] [0] rfl (by decide) rfl (by decide) (by decide) rfl (va_recv hK hP (ci := 1) (q0 := 0) rfl rfl) rfl hl.1 rfl (Nat.le_of_ble_eq_true rfl) dY_product_24 ⟨Nat.zero_le _, Nat.zero_le _⟩ (fun H9 locs9 hP hD hS => ?_)
    have hP : va_P (dC, dI) vwCl [(k0, .inr (1, [.ref k_g, .int ak, .int il, .int mi, .int xe, .long bi, .int fa, .int cu])), (k_g, .inl (cB_g, 8, .inr (.inl g)))] _ := hP
    have hD : va_D A [(k0, .inr (1, [.ref k_g, .int ak, .int il, .int mi, .int xe, .long bi, .int fa, .int cu])), (k_g, .inl (cB_g, 8, .inr (.inl g)))] := hD
    refine lv_topl (fun y3 ey3 => ?_)
    replace hF := xj_bz hF ey3
    obtain ⟨q4, eq4⟩ : ∃ z : (Nat → Int64) × Int32 × Int32 × Int32 × Int32 × Int64 × Int32 × Int32, z = (mf_Y_take g ak il mi xe bi fa cu p1 y3) := ⟨_, rfl⟩
    replace hF := xj_bz hF eq4
    refine xj_vv (r := q4) (As := [.int p1, .long y3]) (rest := []) (Wd := mw_Y k0 k_g cB_g) (wr := []) ⟨hx, hb, hml, hown, hts⟩ (by rw [eq4]; exact mc_Y_take l dC dI k0 k_g cB_g g ak il mi xe bi fa cu p1 y3) (cwV 2 hts (gY_take _) rfl rfl rfl (by decide +kernel) ⟨Nat.le_of_ble_eq_true rfl, Nat.le_of_ble_eq_true rfl⟩) hP hK hD hS hA [0, 1] [] [0] rfl (by decide) rfl (by decide) (by decide) rfl (va_recv hK hP (ci := 1) (q0 := 0) rfl rfl) rfl hl.1 rfl (Nat.le_of_ble_eq_true rfl) dY_product_27 ⟨Nat.zero_le _, Nat.zero_le _⟩ (fun H9 locs9 hP hD hS => ?_)
    have hP : va_P (dC, dI) vwCl [(k0, .inr (1, [.ref k_g, .int q4.2.1, .int q4.2.2.1, .int q4.2.2.2.1, .int q4.2.2.2.2.1, .long q4.2.2.2.2.2.1, .int q4.2.2.2.2.2.2.1, .int q4.2.2.2.2.2.2.2])), (k_g, .inl (cB_g, 8, .inr (.inl q4.1)))] _ := hP
    have hD : va_D A [(k0, .inr (1, [.ref k_g, .int q4.2.1, .int q4.2.2.1, .int q4.2.2.2.1, .int q4.2.2.2.2.1, .long q4.2.2.2.2.2.1, .int q4.2.2.2.2.2.2.1, .int q4.2.2.2.2.2.2.2])), (k_g, .inl (cB_g, 8, .inr (.inl q4.1)))] := hD
    refine lv_aload_n hx hb dY_product_30 rfl (lv_at hl 1 rfl) ?_
    refine va_get (D := (dC, dI)) (ci := 1) (v := .long q4.2.2.2.2.2.1) (C := RX1) (T := TX1) (N := 8) hx hb hts (fun w9 h9 => List.mem_cons_of_mem _ (inY w9 h9)) hown hK hP 0 rfl rfl 5 (by decide) (hts (.fieldLink RX1 44 "ExactFloatsModel" "bits" "J") (List.mem_cons_of_mem _ mY_43)) (fun _ h9 => h9) rfl dY_product_31 ?_
    refine lv_lstore (lv' := [(6, .long q4.2.2.2.2.2.1), (5, .int y1), (0, .ref k0), (1, .int p1), (2, .int p2), (3, .int p3), (4, .int p4)]) hx hb dY_product_34 hl (by decide) rfl (fun ls hl => ?_)
    refine lv_aload_n hx hb dY_product_36 rfl (lv_at hl 2 rfl) ?_
    refine va_get (D := (dC, dI)) (ci := 1) (v := .int q4.2.2.2.2.1) (C := RX1) (T := TX1) (N := 8) hx hb hts (fun w9 h9 => List.mem_cons_of_mem _ (inY w9 h9)) hown hK hP 0 rfl rfl 4 (by decide) (hts (.fieldLink RX1 34 "ExactFloatsModel" "exponent" "I") (List.mem_cons_of_mem _ mY_39)) (fun _ h9 => h9) rfl dY_product_37 ?_
    refine lv_istore (lv' := [(8, .int q4.2.2.2.2.1), (6, .long q4.2.2.2.2.2.1), (5, .int y1), (0, .ref k0), (1, .int p1), (2, .int p2), (3, .int p3), (4, .int p4)]) hx hb dY_product_40 hl (by decide) rfl (fun ls hl => ?_)
    refine lv_aload_n hx hb dY_product_42 rfl (lv_at hl 3 rfl) ?_
    refine va_get (D := (dC, dI)) (ci := 1) (v := .int q4.2.2.2.1) (C := RX1) (T := TX1) (N := 8) hx hb hts (fun w9 h9 => List.mem_cons_of_mem _ (inY w9 h9)) hown hK hP 0 rfl rfl 3 (by decide) (hts (.fieldLink RX1 29 "ExactFloatsModel" "minus" "Z") (List.mem_cons_of_mem _ mY_37)) (fun _ h9 => h9) rfl dY_product_43 ?_
    refine lv_istore (lv' := [(9, .int q4.2.2.2.1), (8, .int q4.2.2.2.2.1), (6, .long q4.2.2.2.2.2.1), (5, .int y1), (0, .ref k0), (1, .int p1), (2, .int p2), (3, .int p3), (4, .int p4)]) hx hb dY_product_46 hl (by decide) rfl (fun ls hl => ?_)
    refine lv_aload_n hx hb dY_product_48 rfl (lv_at hl 4 rfl) ?_
    refine lv_iload_n hx hb dY_product_49 rfl (lv_at hl 5 rfl) ?_
    refine lv_aload_n hx hb dY_product_50 rfl (lv_at hl 4 rfl) ?_
    refine lv_iload_n hx hb dY_product_51 rfl (lv_at hl 5 rfl) ?_
    refine lv_iload_n hx hb dY_product_52 rfl (lv_at hl 7 rfl) ?_
    refine xj_vl (As := [.int p1, .int p3]) (rest := [.int p1, .ref k0]) (Wd := mw_Y k0 k_g cB_g) (wr := []) ⟨hx, hb, hml, hown, hts⟩ (mc_Y_in l dC dI k0 k_g cB_g q4.1 q4.2.1 q4.2.2.1 q4.2.2.2.1 q4.2.2.2.2.1 q4.2.2.2.2.2.1 q4.2.2.2.2.2.2.1 q4.2.2.2.2.2.2.2 p1 p3 ((ms_two (xj_ge ey1 c2)).2.1)) (cwV 2 hts (gY_in _) rfl rfl rfl (by decide +kernel) ⟨Nat.le_of_ble_eq_true rfl, Nat.le_of_ble_eq_true rfl⟩) hP hK hD hS hA [0, 1] [] [0] rfl (by decide) rfl (by decide) (by decide) rfl (va_recv hK hP (ci := 1) (q0 := 0) rfl rfl) rfl hl.1 rfl (Nat.le_of_ble_eq_true rfl) dY_product_53 ⟨Nat.zero_le _, Nat.zero_le _⟩ (fun H9 locs9 hP hD hS => ?_)
    have hP : va_P (dC, dI) vwCl [(k0, .inr (1, [.ref k_g, .int q4.2.1, .int q4.2.2.1, .int q4.2.2.2.1, .int q4.2.2.2.2.1, .long q4.2.2.2.2.2.1, .int q4.2.2.2.2.2.2.1, .int q4.2.2.2.2.2.2.2])), (k_g, .inl (cB_g, 8, .inr (.inl q4.1)))] _ := hP
    have hD : va_D A [(k0, .inr (1, [.ref k_g, .int q4.2.1, .int q4.2.2.1, .int q4.2.2.2.1, .int q4.2.2.2.2.1, .long q4.2.2.2.2.2.1, .int q4.2.2.2.2.2.2.1, .int q4.2.2.2.2.2.2.2])), (k_g, .inl (cB_g, 8, .inr (.inl q4.1)))] := hD
    refine lv_topl (fun y5 ey5 => ?_)
    replace hF := xj_bz hF ey5
    obtain ⟨q6, eq6⟩ : ∃ z : (Nat → Int64) × Int32 × Int32 × Int32 × Int32 × Int64 × Int32 × Int32, z = (mf_Y_take q4.1 q4.2.1 q4.2.2.1 q4.2.2.2.1 q4.2.2.2.2.1 q4.2.2.2.2.2.1 q4.2.2.2.2.2.2.1 q4.2.2.2.2.2.2.2 p1 y5) := ⟨_, rfl⟩
    replace hF := xj_bz hF eq6
    refine xj_vv (r := q6) (As := [.int p1, .long y5]) (rest := []) (Wd := mw_Y k0 k_g cB_g) (wr := []) ⟨hx, hb, hml, hown, hts⟩ (by rw [eq6]; exact mc_Y_take l dC dI k0 k_g cB_g q4.1 q4.2.1 q4.2.2.1 q4.2.2.2.1 q4.2.2.2.2.1 q4.2.2.2.2.2.1 q4.2.2.2.2.2.2.1 q4.2.2.2.2.2.2.2 p1 y5) (cwV 2 hts (gY_take _) rfl rfl rfl (by decide +kernel) ⟨Nat.le_of_ble_eq_true rfl, Nat.le_of_ble_eq_true rfl⟩) hP hK hD hS hA [0, 1] [] [0] rfl (by decide) rfl (by decide) (by decide) rfl (va_recv hK hP (ci := 1) (q0 := 0) rfl rfl) rfl hl.1 rfl (Nat.le_of_ble_eq_true rfl) dY_product_56 ⟨Nat.zero_le _, Nat.zero_le _⟩ (fun H9 locs9 hP hD hS => ?_)
    have hP : va_P (dC, dI) vwCl [(k0, .inr (1, [.ref k_g, .int q6.2.1, .int q6.2.2.1, .int q6.2.2.2.1, .int q6.2.2.2.2.1, .long q6.2.2.2.2.2.1, .int q6.2.2.2.2.2.2.1, .int q6.2.2.2.2.2.2.2])), (k_g, .inl (cB_g, 8, .inr (.inl q6.1)))] _ := hP
    have hD : va_D A [(k0, .inr (1, [.ref k_g, .int q6.2.1, .int q6.2.2.1, .int q6.2.2.2.1, .int q6.2.2.2.2.1, .long q6.2.2.2.2.2.1, .int q6.2.2.2.2.2.2.1, .int q6.2.2.2.2.2.2.2])), (k_g, .inl (cB_g, 8, .inr (.inl q6.1)))] := hD
    refine lv_aload_n hx hb dY_product_59 rfl (lv_at hl 4 rfl) ?_
    refine lv_iconst (v := (0 : Int32)) hx hb dY_product_60 (by decide) ?_
    refine va_put (D := (dC, dI)) (ci := 1) (v := .int (0 : Int32)) (ty := .int) (C := RX1) (T := TX1) (N := 8) hx hb hts (fun w9 h9 => List.mem_cons_of_mem _ (inY w9 h9)) tyX1 tyX1_ok nmX1 hown hK hP hD hS 0 rfl rfl 6 (by decide) (hts (.fieldLink RX1 48 "ExactFloatsModel" "fault" "I") (List.mem_cons_of_mem _ mY_44)) (fun _ h9 => h9) rfl (by decide +kernel) rfl rfl (Nat.le_of_ble_eq_true rfl) dY_product_61 (fun H9 locs9 hP hD hS => ?_)
    have hP : va_P (dC, dI) vwCl [(k0, .inr (1, [.ref k_g, .int q6.2.1, .int q6.2.2.1, .int q6.2.2.2.1, .int q6.2.2.2.2.1, .long q6.2.2.2.2.2.1, .int (0 : Int32), .int q6.2.2.2.2.2.2.2])), (k_g, .inl (cB_g, 8, .inr (.inl q6.1)))] _ := hP
    have hD : va_D A [(k0, .inr (1, [.ref k_g, .int q6.2.1, .int q6.2.2.1, .int q6.2.2.2.1, .int q6.2.2.2.2.1, .long q6.2.2.2.2.2.1, .int (0 : Int32), .int q6.2.2.2.2.2.2.2])), (k_g, .inl (cB_g, 8, .inr (.inl q6.1)))] := hD
    refine lv_aload_n hx hb dY_product_64 rfl (lv_at hl 4 rfl) ?_
    refine lv_iconst (v := (0 : Int32)) hx hb dY_product_65 (by decide) ?_
    refine va_put (D := (dC, dI)) (ci := 1) (v := .int (0 : Int32)) (ty := .boolean) (C := RX1) (T := TX1) (N := 8) hx hb hts (fun w9 h9 => List.mem_cons_of_mem _ (inY w9 h9)) tyX1 tyX1_ok nmX1 hown hK hP hD hS 0 rfl rfl 7 (by decide) (hts (.fieldLink RX1 51 "ExactFloatsModel" "cut" "Z") (List.mem_cons_of_mem _ mY_45)) (fun _ h9 => h9) rfl (by decide +kernel) rfl rfl (Nat.le_of_ble_eq_true rfl) dY_product_66 (fun H9 locs9 hP hD hS => ?_)
    have hP : va_P (dC, dI) vwCl [(k0, .inr (1, [.ref k_g, .int q6.2.1, .int q6.2.2.1, .int q6.2.2.2.1, .int q6.2.2.2.2.1, .long q6.2.2.2.2.2.1, .int (0 : Int32), .int (0 : Int32)])), (k_g, .inl (cB_g, 8, .inr (.inl q6.1)))] _ := hP
    have hD : va_D A [(k0, .inr (1, [.ref k_g, .int q6.2.1, .int q6.2.2.1, .int q6.2.2.2.1, .int q6.2.2.2.2.1, .long q6.2.2.2.2.2.1, .int (0 : Int32), .int (0 : Int32)])), (k_g, .inl (cB_g, 8, .inr (.inl q6.1)))] := hD
    refine lv_lload hx hb dY_product_69 (lv_at hl 2 rfl) ?_
    refine lv_lconst (v := (0 : Int64)) hx hb dY_product_71 (by decide) ?_
    refine xj_l_eq (tgt := 85) hx hb dY_product_72 dY_product_73 (by decide) (fun c7 => ?_) (fun c7 => ?_)
    · replace hF := xj_t hF c7
      refine lv_aload_n hx hb dY_product_85 rfl (lv_at hl 4 rfl) ?_
      refine lv_lconst (v := (0 : Int64)) hx hb dY_product_86 (by decide) ?_
      refine lv_iload hx hb dY_product_87 (lv_at hl 8 rfl) ?_
      obtain ⟨q8, eq8⟩ : ∃ z : Int32 × (Nat → Int64) × Int32 × Int32 × Int32 × Int32 × Int64 × Int32 × Int32, z = (mf_Y_gives q6.1 q6.2.1 q6.2.2.1 q6.2.2.2.1 q6.2.2.2.2.1 q6.2.2.2.2.2.1 (0 : Int32) (0 : Int32) (0 : Int64) p4) := ⟨_, rfl⟩
      replace hF := xj_bz hF eq8
      refine xj_vi (r := q8) (As := [.long (0 : Int64), .int p4]) (rest := []) (Wd := mw_Y k0 k_g cB_g) (wr := []) ⟨hx, hb, hml, hown, hts⟩ (by rw [eq8]; exact mc_Y_gives l dC dI k0 k_g cB_g q6.1 q6.2.1 q6.2.2.1 q6.2.2.2.1 q6.2.2.2.2.1 q6.2.2.2.2.2.1 (0 : Int32) (0 : Int32) (0 : Int64) p4 ((ms_two (xj_ge ey1 c2)).2.2) (Or.inl rfl)) (cwV 2 hts (gY_gives _) rfl rfl rfl (by decide +kernel) ⟨Nat.le_of_ble_eq_true rfl, Nat.le_of_ble_eq_true rfl⟩) hP hK hD hS hA [0, 1] [] [0] rfl (by decide) rfl (by decide) (by decide) rfl (va_recv hK hP (ci := 1) (q0 := 0) rfl rfl) rfl hl.1 rfl (Nat.le_of_ble_eq_true rfl) dY_product_89 ⟨Nat.zero_le _, Nat.zero_le _⟩ (fun H9 locs9 hP hD hS => ?_)
      have hP : va_P (dC, dI) vwCl [(k0, .inr (1, [.ref k_g, .int q8.2.2.1, .int q8.2.2.2.1, .int q8.2.2.2.2.1, .int q8.2.2.2.2.2.1, .long q8.2.2.2.2.2.2.1, .int q8.2.2.2.2.2.2.2.1, .int q8.2.2.2.2.2.2.2.2])), (k_g, .inl (cB_g, 8, .inr (.inl q8.2.1)))] _ := hP
      have hD : va_D A [(k0, .inr (1, [.ref k_g, .int q8.2.2.1, .int q8.2.2.2.1, .int q8.2.2.2.2.1, .int q8.2.2.2.2.2.1, .long q8.2.2.2.2.2.2.1, .int q8.2.2.2.2.2.2.2.1, .int q8.2.2.2.2.2.2.2.2])), (k_g, .inl (cB_g, 8, .inr (.inl q8.2.1)))] := hD
      exact W.iret (v := q8.1) hx hb hr (fun t ht hW => ⟨⟨_, (q8.2.1, q8.2.2.1, q8.2.2.2.1, q8.2.2.2.2.1, q8.2.2.2.2.2.1, q8.2.2.2.2.2.2.1, q8.2.2.2.2.2.2.2.1, q8.2.2.2.2.2.2.2.2), rfl, hF.symm, by rw [ht]; exact hP, hD⟩, hS.F ht⟩) hS.2.2 dY_product_92
    · replace hF := xj_f hF c7
      refine lv_aload_n hx hb dY_product_76 rfl (lv_at hl 4 rfl) ?_
      refine va_get (D := (dC, dI)) (ci := 1) (v := .long q6.2.2.2.2.2.1) (C := RX1) (T := TX1) (N := 8) hx hb hts (fun w9 h9 => List.mem_cons_of_mem _ (inY w9 h9)) hown hK hP 0 rfl rfl 5 (by decide) (hts (.fieldLink RX1 44 "ExactFloatsModel" "bits" "J") (List.mem_cons_of_mem _ mY_43)) (fun _ h9 => h9) rfl dY_product_77 ?_
      refine lv_lconst (v := (0 : Int64)) hx hb dY_product_80 (by decide) ?_
      refine xj_l_ne (tgt := 93) hx hb dY_product_81 dY_product_82 (by decide) (fun c9 => ?_) (fun c9 => ?_)
      · replace hF := xj_f hF c9
        refine lv_iload hx hb dY_product_93 (lv_at hl 0 rfl) ?_
        refine lv_aload_n hx hb dY_product_95 rfl (lv_at hl 4 rfl) ?_
        refine va_get (D := (dC, dI)) (ci := 1) (v := .int q6.2.2.2.1) (C := RX1) (T := TX1) (N := 8) hx hb hts (fun w9 h9 => List.mem_cons_of_mem _ (inY w9 h9)) hown hK hP 0 rfl rfl 3 (by decide) (hts (.fieldLink RX1 29 "ExactFloatsModel" "minus" "Z") (List.mem_cons_of_mem _ mY_37)) (fun _ h9 => h9) rfl dY_product_96 ?_
        obtain ⟨y11, ey11⟩ : ∃ z : Int32, z = (if q4.2.2.2.1 = q6.2.2.2.1 then (0 : Int32) else (1 : Int32)) := ⟨_, rfl⟩
        replace hF := xj_bz hF ey11
        refine xj_join 107 (fun ls' st' => lv_has ls' 20 [(9, .int q4.2.2.2.1), (8, .int q4.2.2.2.2.1), (6, .long q4.2.2.2.2.2.1), (5, .int y1), (0, .ref k0), (1, .int p1), (2, .int p2), (3, .int p3), (4, .int p4)] ∧ st' = [.int y11]) ?_ (fun K107 => ?_)
        · rintro ls st ⟨hl, rfl⟩
          refine lv_istore (lv' := [(10, .int y11), (9, .int q4.2.2.2.1), (8, .int q4.2.2.2.2.1), (6, .long q4.2.2.2.2.2.1), (5, .int y1), (0, .ref k0), (1, .int p1), (2, .int p2), (3, .int p3), (4, .int p4)]) hx hb dY_product_107 hl (by decide) rfl (fun ls hl => ?_)
          refine lv_iload hx hb dY_product_109 (lv_at hl 2 rfl) ?_
          refine lv_aload_n hx hb dY_product_111 rfl (lv_at hl 5 rfl) ?_
          refine va_get (D := (dC, dI)) (ci := 1) (v := .int q6.2.2.2.2.1) (C := RX1) (T := TX1) (N := 8) hx hb hts (fun w9 h9 => List.mem_cons_of_mem _ (inY w9 h9)) hown hK hP 0 rfl rfl 4 (by decide) (hts (.fieldLink RX1 34 "ExactFloatsModel" "exponent" "I") (List.mem_cons_of_mem _ mY_39)) (fun _ h9 => h9) rfl dY_product_112 ?_
          refine lv_iadd hx hb dY_product_115 ?_
          refine lv_sipush (v := (256 : Int32)) hx hb dY_product_116 (by decide) ?_
          refine lv_isub hx hb dY_product_119 ?_
          refine lv_topi (fun y12 ey12 => ?_)
          replace hF := xj_bz hF ey12
          refine lv_istore (lv' := [(8, .int y12), (10, .int y11), (9, .int q4.2.2.2.1), (6, .long q4.2.2.2.2.2.1), (5, .int y1), (0, .ref k0), (1, .int p1), (2, .int p2), (3, .int p3), (4, .int p4)]) hx hb dY_product_120 hl (by decide) rfl (fun ls hl => ?_)
          refine lv_iload_n hx hb dY_product_122 rfl (lv_at hl 6 rfl) ?_
          refine lv_iconst (v := (4 : Int32)) hx hb dY_product_123 (by decide) ?_
          refine lv_icmp_ne (tgt := 160) hx hb dY_product_124 (by decide) (fun c13 => ?_) (fun c13 => ?_)
          · replace hF := xj_f hF c13
            refine lv_ldc2 (own := RX1) (v := (268435455 : Int64)) hx hb hown (hts (.constantLong RX1 108 (268435455 : Int64)) (List.mem_cons_of_mem _ mY_80)) dY_product_160 ?_
            refine lv_lstore (lv' := [(11, .long (268435455 : Int64)), (8, .int y12), (10, .int y11), (9, .int q4.2.2.2.1), (6, .long q4.2.2.2.2.2.1), (5, .int y1), (0, .ref k0), (1, .int p1), (2, .int p2), (3, .int p3), (4, .int p4)]) hx hb dY_product_163 hl (by decide) rfl (fun ls hl => ?_)
            refine lv_lload hx hb dY_product_165 (lv_at hl 4 rfl) ?_
            refine lv_lload hx hb dY_product_167 (lv_at hl 0 rfl) ?_
            refine lv_land hx hb dY_product_169 ?_
            refine lv_aload_n hx hb dY_product_170 rfl (lv_at hl 6 rfl) ?_
            refine va_get (D := (dC, dI)) (ci := 1) (v := .long q6.2.2.2.2.2.1) (C := RX1) (T := TX1) (N := 8) hx hb hts (fun w9 h9 => List.mem_cons_of_mem _ (inY w9 h9)) hown hK hP 0 rfl rfl 5 (by decide) (hts (.fieldLink RX1 44 "ExactFloatsModel" "bits" "J") (List.mem_cons_of_mem _ mY_43)) (fun _ h9 => h9) rfl dY_product_171 ?_
            refine lv_lload hx hb dY_product_174 (lv_at hl 0 rfl) ?_
            refine lv_land hx hb dY_product_176 ?_
            refine lv_lmul hx hb dY_product_177 ?_
            refine lv_topl (fun y14 ey14 => ?_)
            replace hF := xj_bz hF ey14
            refine lv_lstore (lv' := [(13, .long y14), (11, .long (268435455 : Int64)), (8, .int y12), (10, .int y11), (9, .int q4.2.2.2.1), (6, .long q4.2.2.2.2.2.1), (5, .int y1), (0, .ref k0), (1, .int p1), (2, .int p2), (3, .int p3), (4, .int p4)]) hx hb dY_product_178 hl (by decide) rfl (fun ls hl => ?_)
            refine lv_lload hx hb dY_product_180 (lv_at hl 5 rfl) ?_
            refine lv_bipush (v := (28 : Int32)) hx hb dY_product_182 (by decide) ?_
            refine lv_lshr (v := (xj_shr q4.2.2.2.2.2.1 (28 : Int32))) hx hb dY_product_184 rfl ?_
            refine lv_aload_n hx hb dY_product_185 rfl (lv_at hl 7 rfl) ?_
            refine va_get (D := (dC, dI)) (ci := 1) (v := .long q6.2.2.2.2.2.1) (C := RX1) (T := TX1) (N := 8) hx hb hts (fun w9 h9 => List.mem_cons_of_mem _ (inY w9 h9)) hown hK hP 0 rfl rfl 5 (by decide) (hts (.fieldLink RX1 44 "ExactFloatsModel" "bits" "J") (List.mem_cons_of_mem _ mY_43)) (fun _ h9 => h9) rfl dY_product_186 ?_
            refine lv_lload hx hb dY_product_189 (lv_at hl 1 rfl) ?_
            refine lv_land hx hb dY_product_191 ?_
            refine lv_lmul hx hb dY_product_192 ?_
            refine lv_lload hx hb dY_product_193 (lv_at hl 5 rfl) ?_
            refine lv_lload hx hb dY_product_195 (lv_at hl 1 rfl) ?_
            refine lv_land hx hb dY_product_197 ?_
            refine lv_aload_n hx hb dY_product_198 rfl (lv_at hl 7 rfl) ?_
            refine va_get (D := (dC, dI)) (ci := 1) (v := .long q6.2.2.2.2.2.1) (C := RX1) (T := TX1) (N := 8) hx hb hts (fun w9 h9 => List.mem_cons_of_mem _ (inY w9 h9)) hown hK hP 0 rfl rfl 5 (by decide) (hts (.fieldLink RX1 44 "ExactFloatsModel" "bits" "J") (List.mem_cons_of_mem _ mY_43)) (fun _ h9 => h9) rfl dY_product_199 ?_
            refine lv_bipush (v := (28 : Int32)) hx hb dY_product_202 (by decide) ?_
            refine lv_lshr (v := (xj_shr q6.2.2.2.2.2.1 (28 : Int32))) hx hb dY_product_204 rfl ?_
            refine lv_lmul hx hb dY_product_205 ?_
            refine lv_ladd hx hb dY_product_206 ?_
            refine lv_lload hx hb dY_product_207 (lv_at hl 0 rfl) ?_
            refine lv_bipush (v := (28 : Int32)) hx hb dY_product_209 (by decide) ?_
            refine lv_lshr (v := (xj_shr y14 (28 : Int32))) hx hb dY_product_211 rfl ?_
            refine lv_ladd hx hb dY_product_212 ?_
            refine lv_topl (fun y15 ey15 => ?_)
            replace hF := xj_bz hF ey15
            refine lv_lstore (lv' := [(15, .long y15), (13, .long y14), (11, .long (268435455 : Int64)), (8, .int y12), (10, .int y11), (9, .int q4.2.2.2.1), (6, .long q4.2.2.2.2.2.1), (5, .int y1), (0, .ref k0), (1, .int p1), (2, .int p2), (3, .int p3), (4, .int p4)]) hx hb dY_product_213 hl (by decide) rfl (fun ls hl => ?_)
            refine lv_lload hx hb dY_product_215 (lv_at hl 6 rfl) ?_
            refine lv_bipush (v := (28 : Int32)) hx hb dY_product_217 (by decide) ?_
            refine lv_lshr (v := (xj_shr q4.2.2.2.2.2.1 (28 : Int32))) hx hb dY_product_219 rfl ?_
            refine lv_aload_n hx hb dY_product_220 rfl (lv_at hl 8 rfl) ?_
            refine va_get (D := (dC, dI)) (ci := 1) (v := .long q6.2.2.2.2.2.1) (C := RX1) (T := TX1) (N := 8) hx hb hts (fun w9 h9 => List.mem_cons_of_mem _ (inY w9 h9)) hown hK hP 0 rfl rfl 5 (by decide) (hts (.fieldLink RX1 44 "ExactFloatsModel" "bits" "J") (List.mem_cons_of_mem _ mY_43)) (fun _ h9 => h9) rfl dY_product_221 ?_
            refine lv_bipush (v := (28 : Int32)) hx hb dY_product_224 (by decide) ?_
            refine lv_lshr (v := (xj_shr q6.2.2.2.2.2.1 (28 : Int32))) hx hb dY_product_226 rfl ?_
            refine lv_lmul hx hb dY_product_227 ?_
            refine lv_topl (fun y16 ey16 => ?_)
            replace hF := xj_bz hF ey16
            refine lv_lstore (lv' := [(17, .long y16), (15, .long y15), (13, .long y14), (11, .long (268435455 : Int64)), (8, .int y12), (10, .int y11), (9, .int q4.2.2.2.1), (6, .long q4.2.2.2.2.2.1), (5, .int y1), (0, .ref k0), (1, .int p1), (2, .int p2), (3, .int p3), (4, .int p4)]) hx hb dY_product_228 hl (by decide) rfl (fun ls hl => ?_)
            refine lv_lload hx hb dY_product_230 (lv_at hl 2 rfl) ?_
            refine lv_lload hx hb dY_product_232 (lv_at hl 3 rfl) ?_
            refine lv_land hx hb dY_product_234 ?_
            refine lv_lconst (v := (0 : Int64)) hx hb dY_product_235 (by decide) ?_
            obtain ⟨y18, ey18⟩ : ∃ z : Int32, z = (if (y14 &&& (268435455 : Int64)) = (0 : Int64) then (if (y15 &&& (4194303 : Int64)) = (0 : Int64) then (0 : Int32) else (1 : Int32)) else (1 : Int32)) := ⟨_, rfl⟩
            replace hF := xj_bz hF ey18
            refine xj_join 256 (fun ls' st' => lv_has ls' 20 [(17, .long y16), (15, .long y15), (13, .long y14), (11, .long (268435455 : Int64)), (8, .int y12), (10, .int y11), (9, .int q4.2.2.2.1), (6, .long q4.2.2.2.2.2.1), (5, .int y1), (0, .ref k0), (1, .int p1), (2, .int p2), (3, .int p3), (4, .int p4)] ∧ st' = [.int y18]) ?_ (fun K256 => ?_)
            · rintro ls st ⟨hl, rfl⟩
              refine lv_istore (lv' := [(19, .int y18), (17, .long y16), (15, .long y15), (13, .long y14), (11, .long (268435455 : Int64)), (8, .int y12), (10, .int y11), (9, .int q4.2.2.2.1), (6, .long q4.2.2.2.2.2.1), (5, .int y1), (0, .ref k0), (1, .int p1), (2, .int p2), (3, .int p3), (4, .int p4)]) hx hb dY_product_256 hl (by decide) rfl (fun ls hl => ?_)
              refine lv_aload_n hx hb dY_product_258 rfl (lv_at hl 10 rfl) ?_
              refine lv_aload_n hx hb dY_product_259 rfl (lv_at hl 10 rfl) ?_
              refine lv_bipush (v := (8 : Int32)) hx hb dY_product_260 (by decide) ?_
              refine lv_iload hx hb dY_product_262 (lv_at hl 6 rfl) ?_
              refine lv_lload hx hb dY_product_264 (lv_at hl 1 rfl) ?_
              refine lv_bipush (v := (6 : Int32)) hx hb dY_product_266 (by decide) ?_
              refine lv_lshl (v := (xj_shl y16 (6 : Int32))) hx hb dY_product_268 rfl ?_
              refine lv_lload hx hb dY_product_269 (lv_at hl 2 rfl) ?_
              refine lv_bipush (v := (22 : Int32)) hx hb dY_product_271 (by decide) ?_
              refine lv_lshr (v := (xj_shr y15 (22 : Int32))) hx hb dY_product_273 rfl ?_
              refine lv_ladd hx hb dY_product_274 ?_
              refine lv_iload hx hb dY_product_275 (lv_at hl 5 rfl) ?_
              refine lv_bipush (v := (112 : Int32)) hx hb dY_product_277 (by decide) ?_
              refine lv_isub hx hb dY_product_279 ?_
              refine lv_bipush (v := (50 : Int32)) hx hb dY_product_280 (by decide) ?_
              refine lv_iadd hx hb dY_product_282 ?_
              refine lv_iload hx hb dY_product_283 (lv_at hl 0 rfl) ?_
              obtain ⟨q19, eq19⟩ : ∃ z : Int64 × (Nat → Int64) × Int32 × Int32 × Int32 × Int32 × Int64 × Int32 × Int32, z = (mf_Y_rounds q6.1 q6.2.1 q6.2.2.1 q6.2.2.2.1 q6.2.2.2.2.1 q6.2.2.2.2.2.1 (0 : Int32) (0 : Int32) (8 : Int32) y11 ((xj_shl y16 (6 : Int32)) + (xj_shr y15 (22 : Int32))) ((y12 - (112 : Int32)) + (50 : Int32)) y18) := ⟨_, rfl⟩
              replace hF := xj_bz hF eq19
              refine xj_vl (r := q19) (As := [.int (8 : Int32), .int y11, .long ((xj_shl y16 (6 : Int32)) + (xj_shr y15 (22 : Int32))), .int ((y12 - (112 : Int32)) + (50 : Int32)), .int y18]) (rest := [.ref k0]) (Wd := mw_Y k0 k_g cB_g) (wr := []) ⟨hx, hb, hml, hown, hts⟩ (by rw [eq19]; exact mc_Y_rounds l dC dI k0 k_g cB_g q6.1 q6.2.1 q6.2.2.1 q6.2.2.2.1 q6.2.2.2.2.1 q6.2.2.2.2.2.1 (0 : Int32) (0 : Int32) (8 : Int32) y11 ((xj_shl y16 (6 : Int32)) + (xj_shr y15 (22 : Int32))) ((y12 - (112 : Int32)) + (50 : Int32)) y18 (by rw [ey18]; (repeat' split) <;> simp)) (cwV 5 hts (gY_rounds _) rfl rfl rfl (by decide +kernel) ⟨Nat.le_of_ble_eq_true rfl, Nat.le_of_ble_eq_true rfl⟩) hP hK hD hS hA [0, 1] [] [0] rfl (by decide) rfl (by decide) (by decide) rfl (va_recv hK hP (ci := 1) (q0 := 0) rfl rfl) rfl hl.1 rfl (Nat.le_of_ble_eq_true rfl) dY_product_285 ⟨Nat.zero_le _, Nat.zero_le _⟩ (fun H9 locs9 hP hD hS => ?_)
              have hP : va_P (dC, dI) vwCl [(k0, .inr (1, [.ref k_g, .int q19.2.2.1, .int q19.2.2.2.1, .int q19.2.2.2.2.1, .int q19.2.2.2.2.2.1, .long q19.2.2.2.2.2.2.1, .int q19.2.2.2.2.2.2.2.1, .int q19.2.2.2.2.2.2.2.2])), (k_g, .inl (cB_g, 8, .inr (.inl q19.2.1)))] _ := hP
              have hD : va_D A [(k0, .inr (1, [.ref k_g, .int q19.2.2.1, .int q19.2.2.2.1, .int q19.2.2.2.2.1, .int q19.2.2.2.2.2.1, .long q19.2.2.2.2.2.2.1, .int q19.2.2.2.2.2.2.2.1, .int q19.2.2.2.2.2.2.2.2])), (k_g, .inl (cB_g, 8, .inr (.inl q19.2.1)))] := hD
              refine lv_iload hx hb dY_product_288 (lv_at hl 14 rfl) ?_
              obtain ⟨q20, eq20⟩ : ∃ z : Int32 × (Nat → Int64) × Int32 × Int32 × Int32 × Int32 × Int64 × Int32 × Int32, z = (mf_Y_gives q19.2.1 q19.2.2.1 q19.2.2.2.1 q19.2.2.2.2.1 q19.2.2.2.2.2.1 q19.2.2.2.2.2.2.1 q19.2.2.2.2.2.2.2.1 q19.2.2.2.2.2.2.2.2 q19.1 p4) := ⟨_, rfl⟩
              replace hF := xj_bz hF eq20
              refine xj_vi (r := q20) (As := [.long q19.1, .int p4]) (rest := []) (Wd := mw_Y k0 k_g cB_g) (wr := []) ⟨hx, hb, hml, hown, hts⟩ (by rw [eq20]; exact mc_Y_gives l dC dI k0 k_g cB_g q19.2.1 q19.2.2.1 q19.2.2.2.1 q19.2.2.2.2.1 q19.2.2.2.2.2.1 q19.2.2.2.2.2.2.1 q19.2.2.2.2.2.2.2.1 q19.2.2.2.2.2.2.2.2 q19.1 p4 ((ms_two (xj_ge ey1 c2)).2.2) (by rw [eq19]; exact ms_cut_rounds (by rw [ey18]; (repeat' split) <;> simp))) (cwV 2 hts (gY_gives _) rfl rfl rfl (by decide +kernel) ⟨Nat.le_of_ble_eq_true rfl, Nat.le_of_ble_eq_true rfl⟩) hP hK hD hS hA [0, 1] [] [0] rfl (by decide) rfl (by decide) (by decide) rfl (va_recv hK hP (ci := 1) (q0 := 0) rfl rfl) rfl hl.1 rfl (Nat.le_of_ble_eq_true rfl) dY_product_290 ⟨Nat.zero_le _, Nat.zero_le _⟩ (fun H9 locs9 hP hD hS => ?_)
              have hP : va_P (dC, dI) vwCl [(k0, .inr (1, [.ref k_g, .int q20.2.2.1, .int q20.2.2.2.1, .int q20.2.2.2.2.1, .int q20.2.2.2.2.2.1, .long q20.2.2.2.2.2.2.1, .int q20.2.2.2.2.2.2.2.1, .int q20.2.2.2.2.2.2.2.2])), (k_g, .inl (cB_g, 8, .inr (.inl q20.2.1)))] _ := hP
              have hD : va_D A [(k0, .inr (1, [.ref k_g, .int q20.2.2.1, .int q20.2.2.2.1, .int q20.2.2.2.2.1, .int q20.2.2.2.2.2.1, .long q20.2.2.2.2.2.2.1, .int q20.2.2.2.2.2.2.2.1, .int q20.2.2.2.2.2.2.2.2])), (k_g, .inl (cB_g, 8, .inr (.inl q20.2.1)))] := hD
              exact W.iret (v := q20.1) hx hb hr (fun t ht hW => ⟨⟨_, (q20.2.1, q20.2.2.1, q20.2.2.2.1, q20.2.2.2.2.1, q20.2.2.2.2.2.1, q20.2.2.2.2.2.2.1, q20.2.2.2.2.2.2.2.1, q20.2.2.2.2.2.2.2.2), rfl, hF.symm, by rw [ht]; exact hP, hD⟩, hS.F ht⟩) hS.2.2 dY_product_293
            · refine xj_l_ne (tgt := 251) hx hb dY_product_236 dY_product_237 (by decide) (fun c17 => ?_) (fun c17 => ?_)
              · replace ey18 := xj_f ey18 c17
                refine lv_iconst (v := (1 : Int32)) hx hb dY_product_251 (by decide) ?_
                refine lv_goto (tgt := 256) hx hb dY_product_252 (by decide) ?_
                subst ey18
                exact K256 _ _ ⟨lv_sub hl [0, 1, 2, 3, 4, 5, 6, 7, 8, 9, 10, 11, 12, 13] rfl, rfl⟩
              · replace ey18 := xj_t ey18 c17
                refine lv_lload hx hb dY_product_240 (lv_at hl 1 rfl) ?_
                refine lv_ldc2 (own := RX1) (v := (4194303 : Int64)) hx hb hown (hts (.constantLong RX1 110 (4194303 : Int64)) (List.mem_cons_of_mem _ mY_81)) dY_product_242 ?_
                refine lv_land hx hb dY_product_245 ?_
                refine lv_lconst (v := (0 : Int64)) hx hb dY_product_246 (by decide) ?_
                refine xj_l_eq (tgt := 255) hx hb dY_product_247 dY_product_248 (by decide) (fun c21 => ?_) (fun c21 => ?_)
                · replace ey18 := xj_t ey18 c21
                  refine lv_iconst (v := (0 : Int32)) hx hb dY_product_255 (by decide) ?_
                  subst ey18
                  exact K256 _ _ ⟨lv_sub hl [0, 1, 2, 3, 4, 5, 6, 7, 8, 9, 10, 11, 12, 13] rfl, rfl⟩
                · replace ey18 := xj_f ey18 c21
                  refine lv_iconst (v := (1 : Int32)) hx hb dY_product_251 (by decide) ?_
                  refine lv_goto (tgt := 256) hx hb dY_product_252 (by decide) ?_
                  subst ey18
                  exact K256 _ _ ⟨lv_sub hl [0, 1, 2, 3, 4, 5, 6, 7, 8, 9, 10, 11, 12, 13] rfl, rfl⟩
          · replace hF := xj_t hF c13
            refine lv_aload_n hx hb dY_product_127 rfl (lv_at hl 5 rfl) ?_
            refine lv_aload_n hx hb dY_product_128 rfl (lv_at hl 5 rfl) ?_
            refine lv_iconst (v := (4 : Int32)) hx hb dY_product_129 (by decide) ?_
            refine lv_iload hx hb dY_product_130 (lv_at hl 1 rfl) ?_
            refine lv_lload hx hb dY_product_132 (lv_at hl 3 rfl) ?_
            refine lv_bipush (v := (32 : Int32)) hx hb dY_product_134 (by decide) ?_
            refine lv_lshr (v := (xj_shr q4.2.2.2.2.2.1 (32 : Int32))) hx hb dY_product_136 rfl ?_
            refine lv_aload_n hx hb dY_product_137 rfl (lv_at hl 5 rfl) ?_
            refine va_get (D := (dC, dI)) (ci := 1) (v := .long q6.2.2.2.2.2.1) (C := RX1) (T := TX1) (N := 8) hx hb hts (fun w9 h9 => List.mem_cons_of_mem _ (inY w9 h9)) hown hK hP 0 rfl rfl 5 (by decide) (hts (.fieldLink RX1 44 "ExactFloatsModel" "bits" "J") (List.mem_cons_of_mem _ mY_43)) (fun _ h9 => h9) rfl dY_product_138 ?_
            refine lv_bipush (v := (32 : Int32)) hx hb dY_product_141 (by decide) ?_
            refine lv_lshr (v := (xj_shr q6.2.2.2.2.2.1 (32 : Int32))) hx hb dY_product_143 rfl ?_
            refine lv_lmul hx hb dY_product_144 ?_
            refine lv_iload hx hb dY_product_145 (lv_at hl 0 rfl) ?_
            refine lv_bipush (v := (48 : Int32)) hx hb dY_product_147 (by decide) ?_
            refine lv_isub hx hb dY_product_149 ?_
            refine lv_iconst (v := (0 : Int32)) hx hb dY_product_150 (by decide) ?_
            obtain ⟨q22, eq22⟩ : ∃ z : Int64 × (Nat → Int64) × Int32 × Int32 × Int32 × Int32 × Int64 × Int32 × Int32, z = (mf_Y_rounds q6.1 q6.2.1 q6.2.2.1 q6.2.2.2.1 q6.2.2.2.2.1 q6.2.2.2.2.2.1 (0 : Int32) (0 : Int32) (4 : Int32) y11 ((xj_shr q4.2.2.2.2.2.1 (32 : Int32)) * (xj_shr q6.2.2.2.2.2.1 (32 : Int32))) (y12 - (48 : Int32)) (0 : Int32)) := ⟨_, rfl⟩
            replace hF := xj_bz hF eq22
            refine xj_vl (r := q22) (As := [.int (4 : Int32), .int y11, .long ((xj_shr q4.2.2.2.2.2.1 (32 : Int32)) * (xj_shr q6.2.2.2.2.2.1 (32 : Int32))), .int (y12 - (48 : Int32)), .int (0 : Int32)]) (rest := [.ref k0]) (Wd := mw_Y k0 k_g cB_g) (wr := []) ⟨hx, hb, hml, hown, hts⟩ (by rw [eq22]; exact mc_Y_rounds l dC dI k0 k_g cB_g q6.1 q6.2.1 q6.2.2.1 q6.2.2.2.1 q6.2.2.2.2.1 q6.2.2.2.2.2.1 (0 : Int32) (0 : Int32) (4 : Int32) y11 ((xj_shr q4.2.2.2.2.2.1 (32 : Int32)) * (xj_shr q6.2.2.2.2.2.1 (32 : Int32))) (y12 - (48 : Int32)) (0 : Int32) (Or.inl rfl)) (cwV 5 hts (gY_rounds _) rfl rfl rfl (by decide +kernel) ⟨Nat.le_of_ble_eq_true rfl, Nat.le_of_ble_eq_true rfl⟩) hP hK hD hS hA [0, 1] [] [0] rfl (by decide) rfl (by decide) (by decide) rfl (va_recv hK hP (ci := 1) (q0 := 0) rfl rfl) rfl hl.1 rfl (Nat.le_of_ble_eq_true rfl) dY_product_151 ⟨Nat.zero_le _, Nat.zero_le _⟩ (fun H9 locs9 hP hD hS => ?_)
            have hP : va_P (dC, dI) vwCl [(k0, .inr (1, [.ref k_g, .int q22.2.2.1, .int q22.2.2.2.1, .int q22.2.2.2.2.1, .int q22.2.2.2.2.2.1, .long q22.2.2.2.2.2.2.1, .int q22.2.2.2.2.2.2.2.1, .int q22.2.2.2.2.2.2.2.2])), (k_g, .inl (cB_g, 8, .inr (.inl q22.2.1)))] _ := hP
            have hD : va_D A [(k0, .inr (1, [.ref k_g, .int q22.2.2.1, .int q22.2.2.2.1, .int q22.2.2.2.2.1, .int q22.2.2.2.2.2.1, .long q22.2.2.2.2.2.2.1, .int q22.2.2.2.2.2.2.2.1, .int q22.2.2.2.2.2.2.2.2])), (k_g, .inl (cB_g, 8, .inr (.inl q22.2.1)))] := hD
            refine lv_iload hx hb dY_product_154 (lv_at hl 9 rfl) ?_
            obtain ⟨q23, eq23⟩ : ∃ z : Int32 × (Nat → Int64) × Int32 × Int32 × Int32 × Int32 × Int64 × Int32 × Int32, z = (mf_Y_gives q22.2.1 q22.2.2.1 q22.2.2.2.1 q22.2.2.2.2.1 q22.2.2.2.2.2.1 q22.2.2.2.2.2.2.1 q22.2.2.2.2.2.2.2.1 q22.2.2.2.2.2.2.2.2 q22.1 p4) := ⟨_, rfl⟩
            replace hF := xj_bz hF eq23
            refine xj_vi (r := q23) (As := [.long q22.1, .int p4]) (rest := []) (Wd := mw_Y k0 k_g cB_g) (wr := []) ⟨hx, hb, hml, hown, hts⟩ (by rw [eq23]; exact mc_Y_gives l dC dI k0 k_g cB_g q22.2.1 q22.2.2.1 q22.2.2.2.1 q22.2.2.2.2.1 q22.2.2.2.2.2.1 q22.2.2.2.2.2.2.1 q22.2.2.2.2.2.2.2.1 q22.2.2.2.2.2.2.2.2 q22.1 p4 ((ms_two (xj_ge ey1 c2)).2.2) (by rw [eq22]; exact ms_cut_rounds (Or.inl rfl))) (cwV 2 hts (gY_gives _) rfl rfl rfl (by decide +kernel) ⟨Nat.le_of_ble_eq_true rfl, Nat.le_of_ble_eq_true rfl⟩) hP hK hD hS hA [0, 1] [] [0] rfl (by decide) rfl (by decide) (by decide) rfl (va_recv hK hP (ci := 1) (q0 := 0) rfl rfl) rfl hl.1 rfl (Nat.le_of_ble_eq_true rfl) dY_product_156 ⟨Nat.zero_le _, Nat.zero_le _⟩ (fun H9 locs9 hP hD hS => ?_)
            have hP : va_P (dC, dI) vwCl [(k0, .inr (1, [.ref k_g, .int q23.2.2.1, .int q23.2.2.2.1, .int q23.2.2.2.2.1, .int q23.2.2.2.2.2.1, .long q23.2.2.2.2.2.2.1, .int q23.2.2.2.2.2.2.2.1, .int q23.2.2.2.2.2.2.2.2])), (k_g, .inl (cB_g, 8, .inr (.inl q23.2.1)))] _ := hP
            have hD : va_D A [(k0, .inr (1, [.ref k_g, .int q23.2.2.1, .int q23.2.2.2.1, .int q23.2.2.2.2.1, .int q23.2.2.2.2.2.1, .long q23.2.2.2.2.2.2.1, .int q23.2.2.2.2.2.2.2.1, .int q23.2.2.2.2.2.2.2.2])), (k_g, .inl (cB_g, 8, .inr (.inl q23.2.1)))] := hD
            exact W.iret (v := q23.1) hx hb hr (fun t ht hW => ⟨⟨_, (q23.2.1, q23.2.2.1, q23.2.2.2.1, q23.2.2.2.2.1, q23.2.2.2.2.2.1, q23.2.2.2.2.2.2.1, q23.2.2.2.2.2.2.2.1, q23.2.2.2.2.2.2.2.2), rfl, hF.symm, by rw [ht]; exact hP, hD⟩, hS.F ht⟩) hS.2.2 dY_product_159
        · refine lv_icmp_eq (tgt := 106) hx hb dY_product_99 (by decide) (fun c10 => ?_) (fun c10 => ?_)
          · replace ey11 := xj_t ey11 c10
            refine lv_iconst (v := (0 : Int32)) hx hb dY_product_106 (by decide) ?_
            subst ey11
            exact K107 _ _ ⟨lv_sub hl [0, 1, 2, 3, 4, 5, 6, 7, 8] rfl, rfl⟩
          · replace ey11 := xj_f ey11 c10
            refine lv_iconst (v := (1 : Int32)) hx hb dY_product_102 (by decide) ?_
            refine lv_goto (tgt := 107) hx hb dY_product_103 (by decide) ?_
            subst ey11
            exact K107 _ _ ⟨lv_sub hl [0, 1, 2, 3, 4, 5, 6, 7, 8] rfl, rfl⟩
      · replace hF := xj_t hF c9
        refine lv_aload_n hx hb dY_product_85 rfl (lv_at hl 4 rfl) ?_
        refine lv_lconst (v := (0 : Int64)) hx hb dY_product_86 (by decide) ?_
        refine lv_iload hx hb dY_product_87 (lv_at hl 8 rfl) ?_
        obtain ⟨q24, eq24⟩ : ∃ z : Int32 × (Nat → Int64) × Int32 × Int32 × Int32 × Int32 × Int64 × Int32 × Int32, z = (mf_Y_gives q6.1 q6.2.1 q6.2.2.1 q6.2.2.2.1 q6.2.2.2.2.1 q6.2.2.2.2.2.1 (0 : Int32) (0 : Int32) (0 : Int64) p4) := ⟨_, rfl⟩
        replace hF := xj_bz hF eq24
        refine xj_vi (r := q24) (As := [.long (0 : Int64), .int p4]) (rest := []) (Wd := mw_Y k0 k_g cB_g) (wr := []) ⟨hx, hb, hml, hown, hts⟩ (by rw [eq24]; exact mc_Y_gives l dC dI k0 k_g cB_g q6.1 q6.2.1 q6.2.2.1 q6.2.2.2.1 q6.2.2.2.2.1 q6.2.2.2.2.2.1 (0 : Int32) (0 : Int32) (0 : Int64) p4 ((ms_two (xj_ge ey1 c2)).2.2) (Or.inl rfl)) (cwV 2 hts (gY_gives _) rfl rfl rfl (by decide +kernel) ⟨Nat.le_of_ble_eq_true rfl, Nat.le_of_ble_eq_true rfl⟩) hP hK hD hS hA [0, 1] [] [0] rfl (by decide) rfl (by decide) (by decide) rfl (va_recv hK hP (ci := 1) (q0 := 0) rfl rfl) rfl hl.1 rfl (Nat.le_of_ble_eq_true rfl) dY_product_89 ⟨Nat.zero_le _, Nat.zero_le _⟩ (fun H9 locs9 hP hD hS => ?_)
        have hP : va_P (dC, dI) vwCl [(k0, .inr (1, [.ref k_g, .int q24.2.2.1, .int q24.2.2.2.1, .int q24.2.2.2.2.1, .int q24.2.2.2.2.2.1, .long q24.2.2.2.2.2.2.1, .int q24.2.2.2.2.2.2.2.1, .int q24.2.2.2.2.2.2.2.2])), (k_g, .inl (cB_g, 8, .inr (.inl q24.2.1)))] _ := hP
        have hD : va_D A [(k0, .inr (1, [.ref k_g, .int q24.2.2.1, .int q24.2.2.2.1, .int q24.2.2.2.2.1, .int q24.2.2.2.2.2.1, .long q24.2.2.2.2.2.2.1, .int q24.2.2.2.2.2.2.2.1, .int q24.2.2.2.2.2.2.2.2])), (k_g, .inl (cB_g, 8, .inr (.inl q24.2.1)))] := hD
        exact W.iret (v := q24.1) hx hb hr (fun t ht hW => ⟨⟨_, (q24.2.1, q24.2.2.1, q24.2.2.2.1, q24.2.2.2.2.1, q24.2.2.2.2.2.1, q24.2.2.2.2.2.2.1, q24.2.2.2.2.2.2.2.1, q24.2.2.2.2.2.2.2.2), rfl, hF.symm, by rw [ht]; exact hP, hD⟩, hS.F ht⟩) hS.2.2 dY_product_92
  · replace hF := xj_f hF c2
    refine lv_iload hx hb dY_product_16 (lv_at hl 0 rfl) ?_
    exact W.iret (v := y1) hx hb hr (fun t ht hW => ⟨⟨_, (g, ak, il, mi, xe, bi, fa, cu), rfl, hF.symm, by rw [ht]; exact hP, hD⟩, hS.F ht⟩) hS.2.2 dY_product_18
def mf_Y_compare (g : Nat → Int64) (ak : Int32) (il : Int32) (mi : Int32) (xe : Int32) (bi : Int64) (fa : Int32) (cu : Int32) (p1 : Int32) (p2 : Int32) (p3 : Int32) : Int32 × (Nat → Int64) × Int32 × Int32 × Int32 × Int32 × Int64 × Int32 × Int32 := (xj_bnd (mf_Y_two g ak il mi xe bi fa cu p1 p2 p3 (0 : Int32)) (fun y1 => (if 0 ≤ y1 then (xj_bnd (mf_Y_in g ak il mi xe bi fa cu p1 p2) (fun y3 => (xj_bnd (mf_Y_in g ak il mi xe bi fa cu p1 p3) (fun y4 => (xj_bnd (mf_Y_isZero y3) (fun y5 => (xj_bnd (if y5 = 0 then (xj_bnd (mf_Y_isBelow y3) (fun y7 => (if y7 = 0 then (1 : Int32) else (-1 : Int32)))) else (0 : Int32)) (fun y7 => (xj_bnd (mf_Y_isZero y4) (fun y8 => (xj_bnd (if y8 = 0 then (xj_bnd (mf_Y_isBelow y4) (fun y10 => (if y10 = 0 then (1 : Int32) else (-1 : Int32)))) else (0 : Int32)) (fun y10 => (if y7 = y10 then (if y7 = 0 then ((4 : Int32), (g, ak, il, mi, xe, bi, fa, cu)) else (xj_bnd (mf_Y_take g ak il mi xe bi fa cu p1 y3) (fun q13 => (xj_bnd (mf_Y_take q13.1 q13.2.1 q13.2.2.1 q13.2.2.2.1 q13.2.2.2.2.1 q13.2.2.2.2.2.1 q13.2.2.2.2.2.2.1 q13.2.2.2.2.2.2.2 p1 y4) (fun q14 => (xj_bnd (xj_bnd (if q13.2.2.2.2.1 < q14.2.2.2.2.1 then (1 : Int32) else (if q13.2.2.2.2.1 = q14.2.2.2.2.1 then (if q14.2.2.2.2.2.1 ≤ q13.2.2.2.2.2.1 then (0 : Int32) else (1 : Int32)) else (0 : Int32))) (fun y18 => (xj_bnd (if y7 ≤ 0 then (0 : Int32) else (1 : Int32)) (fun y20 => (if y18 = y20 then ((8 : Int32), (q14.1, q14.2.1, q14.2.2.1, q14.2.2.2.1, q14.2.2.2.2.1, q14.2.2.2.2.2.1, q14.2.2.2.2.2.2.1, q14.2.2.2.2.2.2.2)) else ((0 : Int32), (q14.1, q14.2.1, q14.2.2.1, q14.2.2.2.1, q14.2.2.2.2.1, q14.2.2.2.2.2.1, q14.2.2.2.2.2.2.1, q14.2.2.2.2.2.2.2))))))) (fun k16 => (if q13.2.2.2.2.1 = q14.2.2.2.2.1 then (if q13.2.2.2.2.2.1 = q14.2.2.2.2.2.1 then ((4 : Int32), (q14.1, q14.2.1, q14.2.2.1, q14.2.2.2.1, q14.2.2.2.2.1, q14.2.2.2.2.2.1, q14.2.2.2.2.2.2.1, q14.2.2.2.2.2.2.2)) else k16) else k16)))))))) else (if y10 ≤ y7 then ((0 : Int32), (g, ak, il, mi, xe, bi, fa, cu)) else ((8 : Int32), (g, ak, il, mi, xe, bi, fa, cu)))))))))))))))) else (y1, (g, ak, il, mi, xe, bi, fa, cu)))))
set_option maxHeartbeats 4000000 in
set_option maxRecDepth 100000 in
theorem mc_Y_compare (l : Launch) (dC : Nat → ClassId) (dI : Nat → Nat → Nat) (k0 k_g : Nat) (cB_g : ClassId) (g : Nat → Int64) (ak : Int32) (il : Int32) (mi : Int32) (xe : Int32) (bi : Int64) (fa : Int32) (cu : Int32) (p1 : Int32) (p2 : Int32) (p3 : Int32) : xj_Oi l (dC, dI) vwCl [(cB_g, .long)] (mw_Y k0 k_g cB_g) yY_compare wsY_compare ({ frames := 2, cells := 0, slots := 0, locals := 46 }) [.ref k0, .int p1, .int p2, .int p3] (g, ak, il, mi, xe, bi, fa, cu) (mf_Y_compare g ak il mi xe bi fa cu p1 p2 p3) := by
  intro sz
  refine Met.ofW (cc := cY_compare) (maxL := 15) (ret := (some .int)) (by decide) rfl ?_
  intro p e s m args below meth c s₁ B hml hv
  obtain ⟨rfl, hsz, hP, hK, hD0⟩ := hv
  have hx := B.exec
  have hb := B.bytes
  have hr := B.returns
  have hts := atoms_spec (ws := wsY_compare) B.pre
  have hown : s.vm.findClass RX1 = some m.cls := findClass_of_methodNamed B.named
  have hlocks := B.notSynchronized
  subst hsz
  have hD := hD0.self (sz := s.heap.size)
  generalize hAe : va_A (mw_Y k0 k_g cB_g (g, ak, il, mi, xe, bi, fa, cu)) s.heap.size = A at hD ⊢
  have hA : ∀ q : Nat, s.heap.size ≤ q → A q := fun q h => by rw [← hAe]; exact Or.inr h
  have hS : va_S A s.heap s.heap [] := va_S.rf
  have hP : va_P (dC, dI) vwCl [(k0, .inr (1, [.ref k_g, .int ak, .int il, .int mi, .int xe, .long bi, .int fa, .int cu])), (k_g, .inl (cB_g, 8, .inr (.inl g)))] s.heap := hP
  have hD : va_D A [(k0, .inr (1, [.ref k_g, .int ak, .int il, .int mi, .int xe, .long bi, .int fa, .int cu])), (k_g, .inl (cB_g, 8, .inr (.inl g)))] := hD
  generalize hT : mf_Y_compare g ak il mi xe bi fa cu p1 p2 p3 = T
  have hF := hT.symm
  unfold mf_Y_compare at hF
  have hl := lv_entry ([.ref k0, .int p1, .int p2, .int p3]) (n := 15) (Nat.le_of_ble_eq_true rfl)
  rw [lg_entry_eq]
  generalize (lg_sl ([.ref k0, .int p1, .int p2, .int p3]) ++ List.replicate (15 - (lg_sl ([.ref k0, .int p1, .int p2, .int p3])).length) Slot.unset).toArray = ls at hl ⊢
  have hl : lv_has ls 15 [(0, .ref k0), (1, .int p1), (2, .int p2), (3, .int p3)] := hl
  refine lv_aload_n hx hb dY_compare_0 rfl (lv_at hl 0 rfl) ?_
  refine lv_iload_n hx hb dY_compare_1 rfl (lv_at hl 1 rfl) ?_
  refine lv_iload_n hx hb dY_compare_2 rfl (lv_at hl 2 rfl) ?_
  refine lv_iload_n hx hb dY_compare_3 rfl (lv_at hl 3 rfl) ?_
  refine lv_iconst (v := (0 : Int32)) hx hb dY_compare_4 (by decide) ?_
  refine xj_vi (As := [.int p1, .int p2, .int p3, .int (0 : Int32)]) (rest := []) (Wd := mw_Y k0 k_g cB_g) (wr := []) ⟨hx, hb, hml, hown, hts⟩ (mc_Y_two l dC dI k0 k_g cB_g g ak il mi xe bi fa cu p1 p2 p3 (0 : Int32)) (cwV 4 hts (gY_two _) rfl rfl rfl (by decide +kernel) ⟨Nat.le_of_ble_eq_true rfl, Nat.le_of_ble_eq_true rfl⟩) hP hK hD hS hA [0, 1] [] [0] rfl (by decide) rfl (by decide) (by decide) rfl (va_recv hK hP (ci := 1) (q0 := 0) rfl rfl) rfl hl.1 rfl (Nat.le_of_ble_eq_true rfl) dY_compare_5 ⟨Nat.zero_le _, Nat.zero_le _⟩ (fun H9 locs9 hP hD hS => ?_)
  have hP : va_P (dC, dI) vwCl [(k0, .inr (1, [.ref k_g, .int ak, .int il, .int mi, .int xe, .long bi, .int fa, .int cu])), (k_g, .inl (cB_g, 8, .inr (.inl g)))] _ := hP
  have hD : va_D A [(k0, .inr (1, [.ref k_g, .int ak, .int il, .int mi, .int xe, .long bi, .int fa, .int cu])), (k_g, .inl (cB_g, 8, .inr (.inl g)))] := hD
  refine lv_topi (fun y1 ey1 => ?_)
  replace hF := xj_bz hF ey1
  refine lv_istore (lv' := [(4, .int y1), (0, .ref k0), (1, .int p1), (2, .int p2), (3, .int p3)]) hx hb dY_compare_8 hl (by decide) rfl (fun ls hl => ?_)
  refine lv_iload hx hb dY_compare_10 (lv_at hl 0 rfl) ?_
  refine lv_if_ge (tgt := 18) hx hb dY_compare_12 (by decide) (fun c2 => ?_) (fun c2 => ?_)
  · replace hF := xj_t hF c2
    refine lv_aload_n hx hb dY_compare_18 rfl (lv_at hl 1 rfl) ?_
    refine lv_iload_n hx hb dY_compare_19 rfl (lv_at hl 2 rfl) ?_
    refine lv_iload_n hx hb dY_compare_20 rfl (lv_at hl 3 rfl) ?_
    refine xj_vl (As := [.int p1, .int p2]) (rest := []) (Wd := mw_Y k0 k_g cB_g) (wr := []) ⟨hx, hb, hml, hown, hts⟩ (mc_Y_in l dC dI k0 k_g cB_g g ak il mi xe bi fa cu p1 p2 ((ms_two (xj_ge ey1 c2)).1)) (cwV 2 hts (gY_in _) rfl rfl rfl (by decide +kernel) ⟨Nat.le_of_ble_eq_true rfl, Nat.le_of_ble_eq_true rfl⟩) hP hK hD hS hA [0, 1] [] [0] rfl (by decide) rfl (by decide) (by decide) rfl (va_recv hK hP (ci := 1) (q0 := 0) rfl rfl) rfl hl.1 rfl (Nat.le_of_ble_eq_true rfl) dY_compare_21 ⟨Nat.zero_le _, Nat.zero_le _⟩ (fun H9 locs9 hP hD hS => ?_)
    have hP : va_P (dC, dI) vwCl [(k0, .inr (1, [.ref k_g, .int ak, .int il, .int mi, .int xe, .long bi, .int fa, .int cu])), (k_g, .inl (cB_g, 8, .inr (.inl g)))] _ := hP
    have hD : va_D A [(k0, .inr (1, [.ref k_g, .int ak, .int il, .int mi, .int xe, .long bi, .int fa, .int cu])), (k_g, .inl (cB_g, 8, .inr (.inl g)))] := hD
    refine lv_topl (fun y3 ey3 => ?_)
    replace hF := xj_bz hF ey3
    refine lv_lstore (lv' := [(5, .long y3), (4, .int y1), (0, .ref k0), (1, .int p1), (2, .int p2), (3, .int p3)]) hx hb dY_compare_24 hl (by decide) rfl (fun ls hl => ?_)
    refine lv_aload_n hx hb dY_compare_26 rfl (lv_at hl 2 rfl) ?_
    refine lv_iload_n hx hb dY_compare_27 rfl (lv_at hl 3 rfl) ?_
    refine lv_iload_n hx hb dY_compare_28 rfl (lv_at hl 5 rfl) ?_
    refine xj_vl (As := [.int p1, .int p3]) (rest := []) (Wd := mw_Y k0 k_g cB_g) (wr := []) ⟨hx, hb, hml, hown, hts⟩ (mc_Y_in l dC dI k0 k_g cB_g g ak il mi xe bi fa cu p1 p3 ((ms_two (xj_ge ey1 c2)).2.1)) (cwV 2 hts (gY_in _) rfl rfl rfl (by decide +kernel) ⟨Nat.le_of_ble_eq_true rfl, Nat.le_of_ble_eq_true rfl⟩) hP hK hD hS hA [0, 1] [] [0] rfl (by decide) rfl (by decide) (by decide) rfl (va_recv hK hP (ci := 1) (q0 := 0) rfl rfl) rfl hl.1 rfl (Nat.le_of_ble_eq_true rfl) dY_compare_29 ⟨Nat.zero_le _, Nat.zero_le _⟩ (fun H9 locs9 hP hD hS => ?_)
    have hP : va_P (dC, dI) vwCl [(k0, .inr (1, [.ref k_g, .int ak, .int il, .int mi, .int xe, .long bi, .int fa, .int cu])), (k_g, .inl (cB_g, 8, .inr (.inl g)))] _ := hP
    have hD : va_D A [(k0, .inr (1, [.ref k_g, .int ak, .int il, .int mi, .int xe, .long bi, .int fa, .int cu])), (k_g, .inl (cB_g, 8, .inr (.inl g)))] := hD
    refine lv_topl (fun y4 ey4 => ?_)
    replace hF := xj_bz hF ey4
    refine lv_lstore (lv' := [(7, .long y4), (5, .long y3), (4, .int y1), (0, .ref k0), (1, .int p1), (2, .int p2), (3, .int p3)]) hx hb dY_compare_32 hl (by decide) rfl (fun ls hl => ?_)
    refine lv_lload hx hb dY_compare_34 (lv_at hl 1 rfl) ?_
    refine xj_si (As := [.long y3]) (rest := []) ⟨hx, hb, hml, hown, hts⟩ (mc_Y_isZero l y3) (va_cwS 1 hts (gY_isZero _) rfl rfl rfl (by decide +kernel) ⟨Nat.le_of_ble_eq_true rfl, Nat.le_of_ble_eq_true rfl⟩) hS hA rfl hl.1 rfl (Nat.le_of_ble_eq_true rfl) dY_compare_36 ⟨Nat.zero_le _, Nat.zero_le _⟩ (fun H9 locs9 hk9 hS => ?_)
    have hP := xj_kept hP hk9
    refine lv_topi (fun y5 ey5 => ?_)
    replace hF := xj_bz hF ey5
    obtain ⟨y7, ey7⟩ : ∃ z : Int32, z = (if y5 = 0 then (xj_bnd (mf_Y_isBelow y3) (fun y7 => (if y7 = 0 then (1 : Int32) else (-1 : Int32)))) else (0 : Int32)) := ⟨_, rfl⟩
    replace hF := xj_bz hF ey7
    refine xj_joinH 59 (fun H' locs' ls' st' => va_P (dC, dI) vwCl [(k0, .inr (1, [.ref k_g, .int ak, .int il, .int mi, .int xe, .long bi, .int fa, .int cu])), (k_g, .inl (cB_g, 8, .inr (.inl g)))] H' ∧ va_D A [(k0, .inr (1, [.ref k_g, .int ak, .int il, .int mi, .int xe, .long bi, .int fa, .int cu])), (k_g, .inl (cB_g, 8, .inr (.inl g)))] ∧ va_S A s.heap H' locs' ∧ lv_has ls' 15 [(7, .long y4), (5, .long y3), (4, .int y1), (0, .ref k0), (1, .int p1), (2, .int p2), (3, .int p3)] ∧ st' = [.int y7]) ?_ (fun K59 => ?_)
    · rintro H9 locs9 ls st ⟨hP, hD, hS, hl, rfl⟩
      refine lv_istore (lv' := [(9, .int y7), (7, .long y4), (5, .long y3), (4, .int y1), (0, .ref k0), (1, .int p1), (2, .int p2), (3, .int p3)]) hx hb dY_compare_59 hl (by decide) rfl (fun ls hl => ?_)
      refine lv_lload hx hb dY_compare_61 (lv_at hl 1 rfl) ?_
      refine xj_si (As := [.long y4]) (rest := []) ⟨hx, hb, hml, hown, hts⟩ (mc_Y_isZero l y4) (va_cwS 1 hts (gY_isZero _) rfl rfl rfl (by decide +kernel) ⟨Nat.le_of_ble_eq_true rfl, Nat.le_of_ble_eq_true rfl⟩) hS hA rfl hl.1 rfl (Nat.le_of_ble_eq_true rfl) dY_compare_63 ⟨Nat.zero_le _, Nat.zero_le _⟩ (fun H9 locs9 hk9 hS => ?_)
      have hP := xj_kept hP hk9
      refine lv_topi (fun y8 ey8 => ?_)
      replace hF := xj_bz hF ey8
      obtain ⟨y10, ey10⟩ : ∃ z : Int32, z = (if y8 = 0 then (xj_bnd (mf_Y_isBelow y4) (fun y10 => (if y10 = 0 then (1 : Int32) else (-1 : Int32)))) else (0 : Int32)) := ⟨_, rfl⟩
      replace hF := xj_bz hF ey10
      refine xj_joinH 86 (fun H' locs' ls' st' => va_P (dC, dI) vwCl [(k0, .inr (1, [.ref k_g, .int ak, .int il, .int mi, .int xe, .long bi, .int fa, .int cu])), (k_g, .inl (cB_g, 8, .inr (.inl g)))] H' ∧ va_D A [(k0, .inr (1, [.ref k_g, .int ak, .int il, .int mi, .int xe, .long bi, .int fa, .int cu])), (k_g, .inl (cB_g, 8, .inr (.inl g)))] ∧ va_S A s.heap H' locs' ∧ lv_has ls' 15 [(9, .int y7), (7, .long y4), (5, .long y3), (4, .int y1), (0, .ref k0), (1, .int p1), (2, .int p2), (3, .int p3)] ∧ st' = [.int y10]) ?_ (fun K86 => ?_)
      · rintro H9 locs9 ls st ⟨hP, hD, hS, hl, rfl⟩
        refine lv_istore (lv' := [(10, .int y10), (9, .int y7), (7, .long y4), (5, .long y3), (4, .int y1), (0, .ref k0), (1, .int p1), (2, .int p2), (3, .int p3)]) hx hb dY_compare_86 hl (by decide) rfl (fun ls hl => ?_)
        refine lv_iload hx hb dY_compare_88 (lv_at hl 1 rfl) ?_
        refine lv_iload hx hb dY_compare_90 (lv_at hl 0 rfl) ?_
        refine lv_icmp_eq (tgt := 109) hx hb dY_compare_92 (by decide) (fun c11 => ?_) (fun c11 => ?_)
        · replace hF := xj_t hF c11
          refine lv_iload hx hb dY_compare_109 (lv_at hl 1 rfl) ?_
          refine lv_if_ne (tgt := 116) hx hb dY_compare_111 (by decide) (fun c12 => ?_) (fun c12 => ?_)
          · replace hF := xj_f hF c12
            refine lv_aload_n hx hb dY_compare_116 rfl (lv_at hl 5 rfl) ?_
            refine lv_iload_n hx hb dY_compare_117 rfl (lv_at hl 6 rfl) ?_
            refine lv_lload hx hb dY_compare_118 (lv_at hl 3 rfl) ?_
            obtain ⟨q13, eq13⟩ : ∃ z : (Nat → Int64) × Int32 × Int32 × Int32 × Int32 × Int64 × Int32 × Int32, z = (mf_Y_take g ak il mi xe bi fa cu p1 y3) := ⟨_, rfl⟩
            replace hF := xj_bz hF eq13
            refine xj_vv (r := q13) (As := [.int p1, .long y3]) (rest := []) (Wd := mw_Y k0 k_g cB_g) (wr := []) ⟨hx, hb, hml, hown, hts⟩ (by rw [eq13]; exact mc_Y_take l dC dI k0 k_g cB_g g ak il mi xe bi fa cu p1 y3) (cwV 2 hts (gY_take _) rfl rfl rfl (by decide +kernel) ⟨Nat.le_of_ble_eq_true rfl, Nat.le_of_ble_eq_true rfl⟩) hP hK hD hS hA [0, 1] [] [0] rfl (by decide) rfl (by decide) (by decide) rfl (va_recv hK hP (ci := 1) (q0 := 0) rfl rfl) rfl hl.1 rfl (Nat.le_of_ble_eq_true rfl) dY_compare_120 ⟨Nat.zero_le _, Nat.zero_le _⟩ (fun H9 locs9 hP hD hS => ?_)
            have hP : va_P (dC, dI) vwCl [(k0, .inr (1, [.ref k_g, .int q13.2.1, .int q13.2.2.1, .int q13.2.2.2.1, .int q13.2.2.2.2.1, .long q13.2.2.2.2.2.1, .int q13.2.2.2.2.2.2.1, .int q13.2.2.2.2.2.2.2])), (k_g, .inl (cB_g, 8, .inr (.inl q13.1)))] _ := hP
            have hD : va_D A [(k0, .inr (1, [.ref k_g, .int q13.2.1, .int q13.2.2.1, .int q13.2.2.2.1, .int q13.2.2.2.2.1, .long q13.2.2.2.2.2.1, .int q13.2.2.2.2.2.2.1, .int q13.2.2.2.2.2.2.2])), (k_g, .inl (cB_g, 8, .inr (.inl q13.1)))] := hD
            refine lv_aload_n hx hb dY_compare_123 rfl (lv_at hl 5 rfl) ?_
            refine va_get (D := (dC, dI)) (ci := 1) (v := .int q13.2.2.2.2.1) (C := RX1) (T := TX1) (N := 8) hx hb hts (fun w9 h9 => List.mem_cons_of_mem _ (inY w9 h9)) hown hK hP 0 rfl rfl 4 (by decide) (hts (.fieldLink RX1 34 "ExactFloatsModel" "exponent" "I") (List.mem_cons_of_mem _ mY_39)) (fun _ h9 => h9) rfl dY_compare_124 ?_
            refine lv_istore (lv' := [(11, .int q13.2.2.2.2.1), (10, .int y10), (9, .int y7), (7, .long y4), (5, .long y3), (4, .int y1), (0, .ref k0), (1, .int p1), (2, .int p2), (3, .int p3)]) hx hb dY_compare_127 hl (by decide) rfl (fun ls hl => ?_)
            refine lv_aload_n hx hb dY_compare_129 rfl (lv_at hl 6 rfl) ?_
            refine va_get (D := (dC, dI)) (ci := 1) (v := .long q13.2.2.2.2.2.1) (C := RX1) (T := TX1) (N := 8) hx hb hts (fun w9 h9 => List.mem_cons_of_mem _ (inY w9 h9)) hown hK hP 0 rfl rfl 5 (by decide) (hts (.fieldLink RX1 44 "ExactFloatsModel" "bits" "J") (List.mem_cons_of_mem _ mY_43)) (fun _ h9 => h9) rfl dY_compare_130 ?_
            refine lv_lstore (lv' := [(12, .long q13.2.2.2.2.2.1), (11, .int q13.2.2.2.2.1), (10, .int y10), (9, .int y7), (7, .long y4), (5, .long y3), (4, .int y1), (0, .ref k0), (1, .int p1), (2, .int p2), (3, .int p3)]) hx hb dY_compare_133 hl (by decide) rfl (fun ls hl => ?_)
            refine lv_aload_n hx hb dY_compare_135 rfl (lv_at hl 7 rfl) ?_
            refine lv_iload_n hx hb dY_compare_136 rfl (lv_at hl 8 rfl) ?_
            refine lv_lload hx hb dY_compare_137 (lv_at hl 4 rfl) ?_
            obtain ⟨q14, eq14⟩ : ∃ z : (Nat → Int64) × Int32 × Int32 × Int32 × Int32 × Int64 × Int32 × Int32, z = (mf_Y_take q13.1 q13.2.1 q13.2.2.1 q13.2.2.2.1 q13.2.2.2.2.1 q13.2.2.2.2.2.1 q13.2.2.2.2.2.2.1 q13.2.2.2.2.2.2.2 p1 y4) := ⟨_, rfl⟩
            replace hF := xj_bz hF eq14
            refine xj_vv (r := q14) (As := [.int p1, .long y4]) (rest := []) (Wd := mw_Y k0 k_g cB_g) (wr := []) ⟨hx, hb, hml, hown, hts⟩ (by rw [eq14]; exact mc_Y_take l dC dI k0 k_g cB_g q13.1 q13.2.1 q13.2.2.1 q13.2.2.2.1 q13.2.2.2.2.1 q13.2.2.2.2.2.1 q13.2.2.2.2.2.2.1 q13.2.2.2.2.2.2.2 p1 y4) (cwV 2 hts (gY_take _) rfl rfl rfl (by decide +kernel) ⟨Nat.le_of_ble_eq_true rfl, Nat.le_of_ble_eq_true rfl⟩) hP hK hD hS hA [0, 1] [] [0] rfl (by decide) rfl (by decide) (by decide) rfl (va_recv hK hP (ci := 1) (q0 := 0) rfl rfl) rfl hl.1 rfl (Nat.le_of_ble_eq_true rfl) dY_compare_139 ⟨Nat.zero_le _, Nat.zero_le _⟩ (fun H9 locs9 hP hD hS => ?_)
            have hP : va_P (dC, dI) vwCl [(k0, .inr (1, [.ref k_g, .int q14.2.1, .int q14.2.2.1, .int q14.2.2.2.1, .int q14.2.2.2.2.1, .long q14.2.2.2.2.2.1, .int q14.2.2.2.2.2.2.1, .int q14.2.2.2.2.2.2.2])), (k_g, .inl (cB_g, 8, .inr (.inl q14.1)))] _ := hP
            have hD : va_D A [(k0, .inr (1, [.ref k_g, .int q14.2.1, .int q14.2.2.1, .int q14.2.2.2.1, .int q14.2.2.2.2.1, .long q14.2.2.2.2.2.1, .int q14.2.2.2.2.2.2.1, .int q14.2.2.2.2.2.2.2])), (k_g, .inl (cB_g, 8, .inr (.inl q14.1)))] := hD
            refine lv_iload hx hb dY_compare_142 (lv_at hl 1 rfl) ?_
            refine lv_aload_n hx hb dY_compare_144 rfl (lv_at hl 7 rfl) ?_
            refine va_get (D := (dC, dI)) (ci := 1) (v := .int q14.2.2.2.2.1) (C := RX1) (T := TX1) (N := 8) hx hb hts (fun w9 h9 => List.mem_cons_of_mem _ (inY w9 h9)) hown hK hP 0 rfl rfl 4 (by decide) (hts (.fieldLink RX1 34 "ExactFloatsModel" "exponent" "I") (List.mem_cons_of_mem _ mY_39)) (fun _ h9 => h9) rfl dY_compare_145 ?_
            obtain ⟨k16, ek16, hF⟩ := xj_b hF
            refine xj_join 163 (fun ls' st' => T = k16 ∧ lv_has ls' 15 [(12, .long q13.2.2.2.2.2.1), (11, .int q13.2.2.2.2.1), (10, .int y10), (9, .int y7), (7, .long y4), (5, .long y3), (4, .int y1), (0, .ref k0), (1, .int p1), (2, .int p2), (3, .int p3)] ∧ st' = []) ?_ (fun K163 => ?_)
            · rintro ls st ⟨hF, hl, rfl⟩
              have hF := hF.trans ek16
              refine lv_iload hx hb dY_compare_163 (lv_at hl 1 rfl) ?_
              refine lv_aload_n hx hb dY_compare_165 rfl (lv_at hl 7 rfl) ?_
              refine va_get (D := (dC, dI)) (ci := 1) (v := .int q14.2.2.2.2.1) (C := RX1) (T := TX1) (N := 8) hx hb hts (fun w9 h9 => List.mem_cons_of_mem _ (inY w9 h9)) hown hK hP 0 rfl rfl 4 (by decide) (hts (.fieldLink RX1 34 "ExactFloatsModel" "exponent" "I") (List.mem_cons_of_mem _ mY_39)) (fun _ h9 => h9) rfl dY_compare_166 ?_
              obtain ⟨y18, ey18⟩ : ∃ z : Int32, z = (if q13.2.2.2.2.1 < q14.2.2.2.2.1 then (1 : Int32) else (if q13.2.2.2.2.1 = q14.2.2.2.2.1 then (if q14.2.2.2.2.2.1 ≤ q13.2.2.2.2.2.1 then (0 : Int32) else (1 : Int32)) else (0 : Int32))) := ⟨_, rfl⟩
              replace hF := xj_bz hF ey18
              refine xj_join 196 (fun ls' st' => lv_has ls' 15 [(12, .long q13.2.2.2.2.2.1), (11, .int q13.2.2.2.2.1), (10, .int y10), (9, .int y7), (7, .long y4), (5, .long y3), (4, .int y1), (0, .ref k0), (1, .int p1), (2, .int p2), (3, .int p3)] ∧ st' = [.int y18]) ?_ (fun K196 => ?_)
              · rintro ls st ⟨hl, rfl⟩
                refine lv_istore (lv' := [(14, .int y18), (12, .long q13.2.2.2.2.2.1), (11, .int q13.2.2.2.2.1), (10, .int y10), (9, .int y7), (7, .long y4), (5, .long y3), (4, .int y1), (0, .ref k0), (1, .int p1), (2, .int p2), (3, .int p3)]) hx hb dY_compare_196 hl (by decide) rfl (fun ls hl => ?_)
                refine lv_iload hx hb dY_compare_198 (lv_at hl 0 rfl) ?_
                refine lv_iload hx hb dY_compare_200 (lv_at hl 4 rfl) ?_
                obtain ⟨y20, ey20⟩ : ∃ z : Int32, z = (if y7 ≤ 0 then (0 : Int32) else (1 : Int32)) := ⟨_, rfl⟩
                replace hF := xj_bz hF ey20
                refine xj_join 210 (fun ls' st' => lv_has ls' 15 [(14, .int y18), (12, .long q13.2.2.2.2.2.1), (11, .int q13.2.2.2.2.1), (10, .int y10), (9, .int y7), (7, .long y4), (5, .long y3), (4, .int y1), (0, .ref k0), (1, .int p1), (2, .int p2), (3, .int p3)] ∧ st' = [.int y20, .int y18]) ?_ (fun K210 => ?_)
                · rintro ls st ⟨hl, rfl⟩
                  refine lv_icmp_ne (tgt := 218) hx hb dY_compare_210 (by decide) (fun c21 => ?_) (fun c21 => ?_)
                  · replace hF := xj_f hF c21
                    refine lv_iconst (v := (0 : Int32)) hx hb dY_compare_218 (by decide) ?_
                    exact W.iret (v := (0 : Int32)) hx hb hr (fun t ht hW => ⟨⟨_, (q14.1, q14.2.1, q14.2.2.1, q14.2.2.2.1, q14.2.2.2.2.1, q14.2.2.2.2.2.1, q14.2.2.2.2.2.2.1, q14.2.2.2.2.2.2.2), rfl, hF.symm, by rw [ht]; exact hP, hD⟩, hS.F ht⟩) hS.2.2 dY_compare_219
                  · replace hF := xj_t hF c21
                    refine lv_bipush (v := (8 : Int32)) hx hb dY_compare_213 (by decide) ?_
                    refine lv_goto (tgt := 219) hx hb dY_compare_215 (by decide) ?_
                    exact W.iret (v := (8 : Int32)) hx hb hr (fun t ht hW => ⟨⟨_, (q14.1, q14.2.1, q14.2.2.1, q14.2.2.2.1, q14.2.2.2.2.1, q14.2.2.2.2.2.1, q14.2.2.2.2.2.2.1, q14.2.2.2.2.2.2.2), rfl, hF.symm, by rw [ht]; exact hP, hD⟩, hS.F ht⟩) hS.2.2 dY_compare_219
                · refine lv_if_le (tgt := 209) hx hb dY_compare_202 (by decide) (fun c19 => ?_) (fun c19 => ?_)
                  · replace ey20 := xj_t ey20 c19
                    refine lv_iconst (v := (0 : Int32)) hx hb dY_compare_209 (by decide) ?_
                    subst ey20
                    exact K210 _ _ ⟨lv_sub hl [0, 1, 2, 3, 4, 5, 6, 7, 8, 9, 10, 11] rfl, rfl⟩
                  · replace ey20 := xj_f ey20 c19
                    refine lv_iconst (v := (1 : Int32)) hx hb dY_compare_205 (by decide) ?_
                    refine lv_goto (tgt := 210) hx hb dY_compare_206 (by decide) ?_
                    subst ey20
                    exact K210 _ _ ⟨lv_sub hl [0, 1, 2, 3, 4, 5, 6, 7, 8, 9, 10, 11] rfl, rfl⟩
              · refine lv_icmp_lt (tgt := 191) hx hb dY_compare_169 (by decide) (fun c17 => ?_) (fun c17 => ?_)
                · replace ey18 := xj_t ey18 c17
                  refine lv_iconst (v := (1 : Int32)) hx hb dY_compare_191 (by decide) ?_
                  refine lv_goto (tgt := 196) hx hb dY_compare_192 (by decide) ?_
                  subst ey18
                  exact K196 _ _ ⟨lv_sub hl [0, 1, 2, 3, 4, 5, 6, 7, 8, 9, 10] rfl, rfl⟩
                · replace ey18 := xj_f ey18 c17
                  refine lv_iload hx hb dY_compare_172 (lv_at hl 1 rfl) ?_
                  refine lv_aload_n hx hb dY_compare_174 rfl (lv_at hl 7 rfl) ?_
                  refine va_get (D := (dC, dI)) (ci := 1) (v := .int q14.2.2.2.2.1) (C := RX1) (T := TX1) (N := 8) hx hb hts (fun w9 h9 => List.mem_cons_of_mem _ (inY w9 h9)) hown hK hP 0 rfl rfl 4 (by decide) (hts (.fieldLink RX1 34 "ExactFloatsModel" "exponent" "I") (List.mem_cons_of_mem _ mY_39)) (fun _ h9 => h9) rfl dY_compare_175 ?_
                  refine lv_icmp_ne (tgt := 195) hx hb dY_compare_178 (by decide) (fun c22 => ?_) (fun c22 => ?_)
                  · replace ey18 := xj_f ey18 c22
                    refine lv_iconst (v := (0 : Int32)) hx hb dY_compare_195 (by decide) ?_
                    subst ey18
                    exact K196 _ _ ⟨lv_sub hl [0, 1, 2, 3, 4, 5, 6, 7, 8, 9, 10] rfl, rfl⟩
                  · replace ey18 := xj_t ey18 c22
                    refine lv_lload hx hb dY_compare_181 (lv_at hl 0 rfl) ?_
                    refine lv_aload_n hx hb dY_compare_183 rfl (lv_at hl 7 rfl) ?_
                    refine va_get (D := (dC, dI)) (ci := 1) (v := .long q14.2.2.2.2.2.1) (C := RX1) (T := TX1) (N := 8) hx hb hts (fun w9 h9 => List.mem_cons_of_mem _ (inY w9 h9)) hown hK hP 0 rfl rfl 5 (by decide) (hts (.fieldLink RX1 44 "ExactFloatsModel" "bits" "J") (List.mem_cons_of_mem _ mY_43)) (fun _ h9 => h9) rfl dY_compare_184 ?_
                    refine xj_l_ge (tgt := 195) hx hb dY_compare_187 dY_compare_188 (by decide) (fun c23 => ?_) (fun c23 => ?_)
                    · replace ey18 := xj_t ey18 c23
                      refine lv_iconst (v := (0 : Int32)) hx hb dY_compare_195 (by decide) ?_
                      subst ey18
                      exact K196 _ _ ⟨lv_sub hl [0, 1, 2, 3, 4, 5, 6, 7, 8, 9, 10] rfl, rfl⟩
                    · replace ey18 := xj_f ey18 c23
                      refine lv_iconst (v := (1 : Int32)) hx hb dY_compare_191 (by decide) ?_
                      refine lv_goto (tgt := 196) hx hb dY_compare_192 (by decide) ?_
                      subst ey18
                      exact K196 _ _ ⟨lv_sub hl [0, 1, 2, 3, 4, 5, 6, 7, 8, 9, 10] rfl, rfl⟩
            · refine lv_icmp_ne (tgt := 163) hx hb dY_compare_148 (by decide) (fun c15 => ?_) (fun c15 => ?_)
              · replace hF := xj_f hF c15
                exact K163 _ _ ⟨hF, lv_sub hl [0, 1, 2, 3, 4, 5, 6, 7, 8, 9, 10] rfl, rfl⟩
              · replace hF := xj_t hF c15
                refine lv_lload hx hb dY_compare_151 (lv_at hl 0 rfl) ?_
                refine lv_aload_n hx hb dY_compare_153 rfl (lv_at hl 7 rfl) ?_
                refine va_get (D := (dC, dI)) (ci := 1) (v := .long q14.2.2.2.2.2.1) (C := RX1) (T := TX1) (N := 8) hx hb hts (fun w9 h9 => List.mem_cons_of_mem _ (inY w9 h9)) hown hK hP 0 rfl rfl 5 (by decide) (hts (.fieldLink RX1 44 "ExactFloatsModel" "bits" "J") (List.mem_cons_of_mem _ mY_43)) (fun _ h9 => h9) rfl dY_compare_154 ?_
                refine xj_l_ne (tgt := 163) hx hb dY_compare_157 dY_compare_158 (by decide) (fun c24 => ?_) (fun c24 => ?_)
                · replace hF := xj_f hF c24
                  exact K163 _ _ ⟨hF, lv_sub hl [0, 1, 2, 3, 4, 5, 6, 7, 8, 9, 10] rfl, rfl⟩
                · replace hF := xj_t hF c24
                  refine lv_iconst (v := (4 : Int32)) hx hb dY_compare_161 (by decide) ?_
                  exact W.iret (v := (4 : Int32)) hx hb hr (fun t ht hW => ⟨⟨_, (q14.1, q14.2.1, q14.2.2.1, q14.2.2.2.1, q14.2.2.2.2.1, q14.2.2.2.2.2.1, q14.2.2.2.2.2.2.1, q14.2.2.2.2.2.2.2), rfl, hF.symm, by rw [ht]; exact hP, hD⟩, hS.F ht⟩) hS.2.2 dY_compare_162
          · replace hF := xj_t hF c12
            refine lv_iconst (v := (4 : Int32)) hx hb dY_compare_114 (by decide) ?_
            exact W.iret (v := (4 : Int32)) hx hb hr (fun t ht hW => ⟨⟨_, (g, ak, il, mi, xe, bi, fa, cu), rfl, hF.symm, by rw [ht]; exact hP, hD⟩, hS.F ht⟩) hS.2.2 dY_compare_115
        · replace hF := xj_f hF c11
          refine lv_iload hx hb dY_compare_95 (lv_at hl 1 rfl) ?_
          refine lv_iload hx hb dY_compare_97 (lv_at hl 0 rfl) ?_
          refine lv_icmp_ge (tgt := 107) hx hb dY_compare_99 (by decide) (fun c25 => ?_) (fun c25 => ?_)
          · replace hF := xj_t hF c25
            refine lv_iconst (v := (0 : Int32)) hx hb dY_compare_107 (by decide) ?_
            exact W.iret (v := (0 : Int32)) hx hb hr (fun t ht hW => ⟨⟨_, (g, ak, il, mi, xe, bi, fa, cu), rfl, hF.symm, by rw [ht]; exact hP, hD⟩, hS.F ht⟩) hS.2.2 dY_compare_108
          · replace hF := xj_f hF c25
            refine lv_bipush (v := (8 : Int32)) hx hb dY_compare_102 (by decide) ?_
            refine lv_goto (tgt := 108) hx hb dY_compare_104 (by decide) ?_
            exact W.iret (v := (8 : Int32)) hx hb hr (fun t ht hW => ⟨⟨_, (g, ak, il, mi, xe, bi, fa, cu), rfl, hF.symm, by rw [ht]; exact hP, hD⟩, hS.F ht⟩) hS.2.2 dY_compare_108
      · refine lv_if_eq (tgt := 73) hx hb dY_compare_66 (by decide) (fun c9 => ?_) (fun c9 => ?_)
        · replace ey10 := xj_t ey10 c9
          refine lv_lload hx hb dY_compare_73 (lv_at hl 1 rfl) ?_
          refine xj_si (As := [.long y4]) (rest := []) ⟨hx, hb, hml, hown, hts⟩ (mc_Y_isBelow l y4) (va_cwS 1 hts (gY_isBelow _) rfl rfl rfl (by decide +kernel) ⟨Nat.le_of_ble_eq_true rfl, Nat.le_of_ble_eq_true rfl⟩) hS hA rfl hl.1 rfl (Nat.le_of_ble_eq_true rfl) dY_compare_75 ⟨Nat.zero_le _, Nat.zero_le _⟩ (fun H9 locs9 hk9 hS => ?_)
          have hP := xj_kept hP hk9
          refine lv_topi (fun y26 ey26 => ?_)
          replace ey10 := xj_bz ey10 ey26
          refine lv_if_eq (tgt := 85) hx hb dY_compare_78 (by decide) (fun c27 => ?_) (fun c27 => ?_)
          · replace ey10 := xj_t ey10 c27
            refine lv_iconst (v := (1 : Int32)) hx hb dY_compare_85 (by decide) ?_
            subst ey10
            exact K86 _ _ _ _ ⟨hP, hD, hS, lv_sub hl [0, 1, 2, 3, 4, 5, 6, 7] rfl, rfl⟩
          · replace ey10 := xj_f ey10 c27
            refine lv_iconst (v := (-1 : Int32)) hx hb dY_compare_81 (by decide) ?_
            refine lv_goto (tgt := 86) hx hb dY_compare_82 (by decide) ?_
            subst ey10
            exact K86 _ _ _ _ ⟨hP, hD, hS, lv_sub hl [0, 1, 2, 3, 4, 5, 6, 7] rfl, rfl⟩
        · replace ey10 := xj_f ey10 c9
          refine lv_iconst (v := (0 : Int32)) hx hb dY_compare_69 (by decide) ?_
          refine lv_goto (tgt := 86) hx hb dY_compare_70 (by decide) ?_
          subst ey10
          exact K86 _ _ _ _ ⟨hP, hD, hS, lv_sub hl [0, 1, 2, 3, 4, 5, 6, 7] rfl, rfl⟩
    · refine lv_if_eq (tgt := 46) hx hb dY_compare_39 (by decide) (fun c6 => ?_) (fun c6 => ?_)
      · replace ey7 := xj_t ey7 c6
        refine lv_lload hx hb dY_compare_46 (lv_at hl 1 rfl) ?_
        refine xj_si (As := [.long y3]) (rest := []) ⟨hx, hb, hml, hown, hts⟩ (mc_Y_isBelow l y3) (va_cwS 1 hts (gY_isBelow _) rfl rfl rfl (by decide +kernel) ⟨Nat.le_of_ble_eq_true rfl, Nat.le_of_ble_eq_true rfl⟩) hS hA rfl hl.1 rfl (Nat.le_of_ble_eq_true rfl) dY_compare_48 ⟨Nat.zero_le _, Nat.zero_le _⟩ (fun H9 locs9 hk9 hS => ?_)
        have hP := xj_kept hP hk9
        refine lv_topi (fun y28 ey28 => ?_)
        replace ey7 := xj_bz ey7 ey28
        refine lv_if_eq (tgt := 58) hx hb dY_compare_51 (by decide) (fun c29 => ?_) (fun c29 => ?_)
        · replace ey7 := xj_t ey7 c29
          refine lv_iconst (v := (1 : Int32)) hx hb dY_compare_58 (by decide) ?_
          subst ey7
          exact K59 _ _ _ _ ⟨hP, hD, hS, lv_sub hl [0, 1, 2, 3, 4, 5, 6] rfl, rfl⟩
        · replace ey7 := xj_f ey7 c29
          refine lv_iconst (v := (-1 : Int32)) hx hb dY_compare_54 (by decide) ?_
          refine lv_goto (tgt := 59) hx hb dY_compare_55 (by decide) ?_
          subst ey7
          exact K59 _ _ _ _ ⟨hP, hD, hS, lv_sub hl [0, 1, 2, 3, 4, 5, 6] rfl, rfl⟩
      · replace ey7 := xj_f ey7 c6
        refine lv_iconst (v := (0 : Int32)) hx hb dY_compare_42 (by decide) ?_
        refine lv_goto (tgt := 59) hx hb dY_compare_43 (by decide) ?_
        subst ey7
        exact K59 _ _ _ _ ⟨hP, hD, hS, lv_sub hl [0, 1, 2, 3, 4, 5, 6] rfl, rfl⟩
  · replace hF := xj_f hF c2
    refine lv_iload hx hb dY_compare_15 (lv_at hl 0 rfl) ?_
    exact W.iret (v := y1) hx hb hr (fun t ht hW => ⟨⟨_, (g, ak, il, mi, xe, bi, fa, cu), rfl, hF.symm, by rw [ht]; exact hP, hD⟩, hS.F ht⟩) hS.2.2 dY_compare_17
