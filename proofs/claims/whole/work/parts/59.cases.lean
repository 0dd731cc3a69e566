set_option maxHeartbeats 8000000 in
set_option maxRecDepth 100000 in
theorem lx_case_set {p : Program} {l : Launch} {e : Env} {s : State} {m : MethodId} {below : List Frame} {meth : Method} {c : Code} {dC : Nat → ClassId} {dI : Nat → Nat → Nat} {b L : Nat} {xs : Nat → Int32} (hL : L ≤ 3072) (C0 : lw_At p s m meth c b L xs) (h0 h_f : Nat) (cA_f : ClassId) (k0 k_g : Nat) (cB_g : ClassId) (hK : va_K (dC, dI) vwCl [(cA_f, .long), (cB_g, .long)] s) (f : Nat → Int64) (u o mi xe : Int32) (bi : Int64) (fa cu : Int32) (hu : u = 0 ∨ u = 1) (ho : o = 0 ∨ o = 1) (i : Nat) (x3 : Int32) (ex3 : x3 = nI i) (hi : i + 5 < L) (K : ∀ (sx : (Nat → Int64) × Int32 × Int32) (sm : (Nat → Int64) × Int32 × Int32 × Int32 × Int32 × Int64 × Int32 × Int32), lx_R sx sm → ∀ (H : Heap) (locs : List Loc), va_P (dC, dI) vwCl (mw_X0 h0 h_f cA_f sx ++ mw_Y k0 k_g cB_g sm) H → va_D (fun q : Nat => s.heap.size ≤ q) (mw_X0 h0 h_f cA_f sx ++ mw_Y k0 k_g cB_g sm) → va_S (fun q : Nat => s.heap.size ≤ q) s.heap H locs → ∀ (ls : Array Slot), lv_has ls 4 [(0, .ref b), (1, .ref h0), (2, .ref k0), (3, .int x3)] → W p l e room_1 s m #[Value.ref b] below meth c H locs 4 27 (lw_Z below #[Value.ref b] s) (F0 m 700 ls [])) (H : Heap) (locs : List Loc) (hP : va_P (dC, dI) vwCl [(h0, .inr (0, [.ref h_f, .int u, .int o])), (h_f, .inl (cA_f, 8, .inr (.inl f))), (k0, .inr (1, [.ref k_g, .int u, .int o, .int mi, .int xe, .long bi, .int fa, .int cu])), (k_g, .inl (cB_g, 8, .inr (.inl f)))] H) (hD : va_D (fun q : Nat => s.heap.size ≤ q) [(h0, .inr (0, [.ref h_f, .int u, .int o])), (h_f, .inl (cA_f, 8, .inr (.inl f))), (k0, .inr (1, [.ref k_g, .int u, .int o, .int mi, .int xe, .long bi, .int fa, .int cu])), (k_g, .inl (cB_g, 8, .inr (.inl f)))]) (hS : va_S (fun q : Nat => s.heap.size ≤ q) s.heap H locs) (ls : Array Slot) (hl : lv_has ls 4 [(0, .ref b), (1, .ref h0), (2, .ref k0), (3, .int x3)]) : W p l e room_1 s m #[Value.ref b] below meth c H locs 4 27 (lw_Z below #[Value.ref b] s) (F0 m 100 ls []) := by
  obtain ⟨hx, hb, hr, hml, hown, hts, hX, hbl, hlocks, hgv⟩ := C0
  have hown : s.vm.findClass RL = some m.cls := hown
  have hA : ∀ q : Nat, s.heap.size ≤ q → (fun q : Nat => s.heap.size ≤ q) q := fun _ h => h
  have hbA : ¬ (fun q : Nat => s.heap.size ≤ q) b := Nat.not_le.mpr hbl
  have hi_1 : vp_in (x3 + (1 : Int32)) L := lx_in (k := 1) ex3 rfl hi (by omega) hL
  have hi_2 : vp_in (x3 + (2 : Int32)) L := lx_in (k := 2) ex3 rfl hi (by omega) hL
  have hi_3 : vp_in (x3 + (3 : Int32)) L := lx_in (k := 3) ex3 rfl hi (by omega) hL
  refine lv_aload_n hx hb dL_law_100 rfl (lv_at hl 1 rfl) ?_
  refine lv_aload_n hx hb dL_law_101 rfl (lv_at hl 0 rfl) ?_
  refine lv_iload_n hx hb dL_law_102 rfl (lv_at hl 3 rfl) ?_
  refine lv_iconst (v := (1 : Int32)) hx hb dL_law_103 (by decide) ?_
  refine lv_iadd hx hb dL_law_104 ?_
  refine va_sld hx hb hX hbl hbA hS hi_1 dL_law_105 ?_
  refine lv_aload_n hx hb dL_law_106 rfl (lv_at hl 0 rfl) ?_
  refine lv_iload_n hx hb dL_law_107 rfl (lv_at hl 3 rfl) ?_
  refine lv_iconst (v := (2 : Int32)) hx hb dL_law_108 (by decide) ?_
  refine lv_iadd hx hb dL_law_109 ?_
  refine va_sld hx hb hX hbl hbA hS hi_2 dL_law_110 ?_
  refine lv_i2l (v := (Int32.toInt64 (xs (Int32.toNatClampNeg (x3 + (2 : Int32)))))) hx hb dL_law_111 rfl ?_
  refine lv_bipush (v := (32 : Int32)) hx hb dL_law_112 (by decide) ?_
  refine lv_lshl (v := (xj_shl (Int32.toInt64 (xs (Int32.toNatClampNeg (x3 + (2 : Int32))))) (32 : Int32))) hx hb dL_law_114 rfl ?_
  refine lv_aload_n hx hb dL_law_115 rfl (lv_at hl 0 rfl) ?_
  refine lv_iload_n hx hb dL_law_116 rfl (lv_at hl 3 rfl) ?_
  refine lv_iconst (v := (3 : Int32)) hx hb dL_law_117 (by decide) ?_
  refine lv_iadd hx hb dL_law_118 ?_
  refine va_sld hx hb hX hbl hbA hS hi_3 dL_law_119 ?_
  refine lv_i2l (v := (Int32.toInt64 (xs (Int32.toNatClampNeg (x3 + (3 : Int32)))))) hx hb dL_law_120 rfl ?_
  refine lv_ldc2 (own := RL) (v := (4294967295 : Int64)) hx hb hown (hts (.constantLong RL 13 (4294967295 : Int64)) (by decide +kernel)) dL_law_121 ?_
  refine lv_land hx hb dL_law_124 ?_
  refine lv_lor hx hb dL_law_125 ?_
  obtain ⟨q1, eq1⟩ : ∃ z : Int32 × (Nat → Int64) × Int32 × Int32, z = (mf_X0_set f u o (xs (Int32.toNatClampNeg (x3 + (1 : Int32)))) ((xj_shl (Int32.toInt64 (xs (Int32.toNatClampNeg (x3 + (2 : Int32))))) (32 : Int32)) ||| ((Int32.toInt64 (xs (Int32.toNatClampNeg (x3 + (3 : Int32))))) &&& (4294967295 : Int64)))) := ⟨_, rfl⟩
  refine xj_vi (r := q1) (As := [.int (xs (Int32.toNatClampNeg (x3 + (1 : Int32)))), .long ((xj_shl (Int32.toInt64 (xs (Int32.toNatClampNeg (x3 + (2 : Int32))))) (32 : Int32)) ||| ((Int32.toInt64 (xs (Int32.toNatClampNeg (x3 + (3 : Int32))))) &&& (4294967295 : Int64)))]) (rest := []) (Wd := mw_X0 h0 h_f cA_f) (wr := [(k0, .inr (1, [.ref k_g, .int u, .int o, .int mi, .int xe, .long bi, .int fa, .int cu])), (k_g, .inl (cB_g, 8, .inr (.inl f)))]) ⟨hx, hb, hml, hown, hts⟩ (by rw [eq1]; exact mc_X0_set l dC dI h0 h_f cA_f f u o (xs (Int32.toNatClampNeg (x3 + (1 : Int32)))) ((xj_shl (Int32.toInt64 (xs (Int32.toNatClampNeg (x3 + (2 : Int32))))) (32 : Int32)) ||| ((Int32.toInt64 (xs (Int32.toNatClampNeg (x3 + (3 : Int32))))) &&& (4294967295 : Int64)))) (cwV 2 hts gLX_set rfl rfl rfl (by decide +kernel) ⟨Nat.le_of_ble_eq_true rfl, Nat.le_of_ble_eq_true rfl⟩) hP hK hD hS hA [0, 1] [2, 3] [0] rfl (by decide) rfl (by decide) (by decide) rfl (va_recv hK hP (ci := 0) (q0 := 0) rfl rfl) rfl hl.1 rfl (Nat.le_of_ble_eq_true rfl) dL_law_126 ⟨Nat.le_of_ble_eq_true rfl, Nat.le_of_ble_eq_true rfl⟩ (fun H9 locs9 hP hD hS => ?_)
  have hP : va_P (dC, dI) vwCl [(k0, .inr (1, [.ref k_g, .int u, .int o, .int mi, .int xe, .long bi, .int fa, .int cu])), (k_g, .inl (cB_g, 8, .inr (.inl f))), (h0, .inr (0, [.ref h_f, .int q1.2.2.1, .int q1.2.2.2])), (h_f, .inl (cA_f, 8, .inr (.inl q1.2.1)))] _ := hP
  have hD : va_D (fun q : Nat => s.heap.size ≤ q) [(k0, .inr (1, [.ref k_g, .int u, .int o, .int mi, .int xe, .long bi, .int fa, .int cu])), (k_g, .inl (cB_g, 8, .inr (.inl f))), (h0, .inr (0, [.ref h_f, .int q1.2.2.1, .int q1.2.2.2])), (h_f, .inl (cA_f, 8, .inr (.inl q1.2.1)))] := hD
  refine lv_aload_n hx hb dL_law_129 rfl (lv_at hl 2 rfl) ?_
  refine lv_aload_n hx hb dL_law_130 rfl (lv_at hl 0 rfl) ?_
  refine lv_iload_n hx hb dL_law_131 rfl (lv_at hl 3 rfl) ?_
  refine lv_iconst (v := (1 : Int32)) hx hb dL_law_132 (by decide) ?_
  refine lv_iadd hx hb dL_law_133 ?_
  refine va_sld hx hb hX hbl hbA hS hi_1 dL_law_134 ?_
  refine lv_aload_n hx hb dL_law_135 rfl (lv_at hl 0 rfl) ?_
  refine lv_iload_n hx hb dL_law_136 rfl (lv_at hl 3 rfl) ?_
  refine lv_iconst (v := (2 : Int32)) hx hb dL_law_137 (by decide) ?_
  refine lv_iadd hx hb dL_law_138 ?_
  refine va_sld hx hb hX hbl hbA hS hi_2 dL_law_139 ?_
  refine lv_i2l (v := (Int32.toInt64 (xs (Int32.toNatClampNeg (x3 + (2 : Int32)))))) hx hb dL_law_140 rfl ?_
  refine lv_bipush (v := (32 : Int32)) hx hb dL_law_141 (by decide) ?_
  refine lv_lshl (v := (xj_shl (Int32.toInt64 (xs (Int32.toNatClampNeg (x3 + (2 : Int32))))) (32 : Int32))) hx hb dL_law_143 rfl ?_
  refine lv_aload_n hx hb dL_law_144 rfl (lv_at hl 0 rfl) ?_
  refine lv_iload_n hx hb dL_law_145 rfl (lv_at hl 3 rfl) ?_
  refine lv_iconst (v := (3 : Int32)) hx hb dL_law_146 (by decide) ?_
  refine lv_iadd hx hb dL_law_147 ?_
  refine va_sld hx hb hX hbl hbA hS hi_3 dL_law_148 ?_
  refine lv_i2l (v := (Int32.toInt64 (xs (Int32.toNatClampNeg (x3 + (3 : Int32)))))) hx hb dL_law_149 rfl ?_
  refine lv_ldc2 (own := RL) (v := (4294967295 : Int64)) hx hb hown (hts (.constantLong RL 13 (4294967295 : Int64)) (by decide +kernel)) dL_law_150 ?_
  refine lv_land hx hb dL_law_153 ?_
  refine lv_lor hx hb dL_law_154 ?_
  obtain ⟨q2, eq2⟩ : ∃ z : Int32 × (Nat → Int64) × Int32 × Int32 × Int32 × Int32 × Int64 × Int32 × Int32, z = (mf_Y_set f u o mi xe bi fa cu (xs (Int32.toNatClampNeg (x3 + (1 : Int32)))) ((xj_shl (Int32.toInt64 (xs (Int32.toNatClampNeg (x3 + (2 : Int32))))) (32 : Int32)) ||| ((Int32.toInt64 (xs (Int32.toNatClampNeg (x3 + (3 : Int32))))) &&& (4294967295 : Int64)))) := ⟨_, rfl⟩
  refine xj_vi (r := q2) (As := [.int (xs (Int32.toNatClampNeg (x3 + (1 : Int32)))), .long ((xj_shl (Int32.toInt64 (xs (Int32.toNatClampNeg (x3 + (2 : Int32))))) (32 : Int32)) ||| ((Int32.toInt64 (xs (Int32.toNatClampNeg (x3 + (3 : Int32))))) &&& (4294967295 : Int64)))]) (rest := [.int q1.1]) (Wd := mw_Y k0 k_g cB_g) (wr := [(h0, .inr (0, [.ref h_f, .int q1.2.2.1, .int q1.2.2.2])), (h_f, .inl (cA_f, 8, .inr (.inl q1.2.1)))]) ⟨hx, hb, hml, hown, hts⟩ (by rw [eq2]; exact mc_Y_set l dC dI k0 k_g cB_g f u o mi xe bi fa cu (xs (Int32.toNatClampNeg (x3 + (1 : Int32)))) ((xj_shl (Int32.toInt64 (xs (Int32.toNatClampNeg (x3 + (2 : Int32))))) (32 : Int32)) ||| ((Int32.toInt64 (xs (Int32.toNatClampNeg (x3 + (3 : Int32))))) &&& (4294967295 : Int64)))) (cwV 2 hts gLY_set rfl rfl rfl (by decide +kernel) ⟨Nat.le_of_ble_eq_true rfl, Nat.le_of_ble_eq_true rfl⟩) hP hK hD hS hA [0, 1] [2, 3] [1] rfl (by decide) rfl (by decide) (by decide) rfl (va_recv hK hP (ci := 1) (q0 := 0) rfl rfl) rfl hl.1 rfl (Nat.le_of_ble_eq_true rfl) dL_law_155 ⟨Nat.le_of_ble_eq_true rfl, Nat.le_of_ble_eq_true rfl⟩ (fun H9 locs9 hP hD hS => ?_)
  have hP : va_P (dC, dI) vwCl [(h0, .inr (0, [.ref h_f, .int q1.2.2.1, .int q1.2.2.2])), (h_f, .inl (cA_f, 8, .inr (.inl q1.2.1))), (k0, .inr (1, [.ref k_g, .int q2.2.2.1, .int q2.2.2.2.1, .int q2.2.2.2.2.1, .int q2.2.2.2.2.2.1, .long q2.2.2.2.2.2.2.1, .int q2.2.2.2.2.2.2.2.1, .int q2.2.2.2.2.2.2.2.2])), (k_g, .inl (cB_g, 8, .inr (.inl q2.2.1)))] _ := hP
  have hD : va_D (fun q : Nat => s.heap.size ≤ q) [(h0, .inr (0, [.ref h_f, .int q1.2.2.1, .int q1.2.2.2])), (h_f, .inl (cA_f, 8, .inr (.inl q1.2.1))), (k0, .inr (1, [.ref k_g, .int q2.2.2.1, .int q2.2.2.2.1, .int q2.2.2.2.2.1, .int q2.2.2.2.2.2.1, .long q2.2.2.2.2.2.2.1, .int q2.2.2.2.2.2.2.2.1, .int q2.2.2.2.2.2.2.2.2])), (k_g, .inl (cB_g, 8, .inr (.inl q2.2.1)))] := hD
  obtain ⟨hE, hE2⟩ : q1.1 = q2.1 ∧ lx_R q1.2 q2.2 := lx_of (by rw [eq1, eq2]; exact ly_set ..) (by rw [eq1]; exact lo_set (hu := hu) (ho := ho) ..)
  refine lv_icmp_eq (tgt := 700) hx hb dL_law_158 (by decide) (fun c9 => ?_) (fun c9 => absurd hE c9)
  exact K q1.2 q2.2 hE2 _ _ hP hD hS _ (lv_sub hl [0, 1, 2, 3] rfl)
set_option maxHeartbeats 8000000 in
set_option maxRecDepth 100000 in
theorem lx_case_get {p : Program} {l : Launch} {e : Env} {s : State} {m : MethodId} {below : List Frame} {meth : Method} {c : Code} {dC : Nat → ClassId} {dI : Nat → Nat → Nat} {b L : Nat} {xs : Nat → Int32} (hL : L ≤ 3072) (C0 : lw_At p s m meth c b L xs) (h0 h_f : Nat) (cA_f : ClassId) (k0 k_g : Nat) (cB_g : ClassId) (hK : va_K (dC, dI) vwCl [(cA_f, .long), (cB_g, .long)] s) (f : Nat → Int64) (u o mi xe : Int32) (bi : Int64) (fa cu : Int32) (hu : u = 0 ∨ u = 1) (ho : o = 0 ∨ o = 1) (i : Nat) (x3 : Int32) (ex3 : x3 = nI i) (hi : i + 5 < L) (K : ∀ (sx : (Nat → Int64) × Int32 × Int32) (sm : (Nat → Int64) × Int32 × Int32 × Int32 × Int32 × Int64 × Int32 × Int32), lx_R sx sm → ∀ (H : Heap) (locs : List Loc), va_P (dC, dI) vwCl (mw_X0 h0 h_f cA_f sx ++ mw_Y k0 k_g cB_g sm) H → va_D (fun q : Nat => s.heap.size ≤ q) (mw_X0 h0 h_f cA_f sx ++ mw_Y k0 k_g cB_g sm) → va_S (fun q : Nat => s.heap.size ≤ q) s.heap H locs → ∀ (ls : Array Slot), lv_has ls 4 [(0, .ref b), (1, .ref h0), (2, .ref k0), (3, .int x3)] → W p l e room_1 s m #[Value.ref b] below meth c H locs 4 27 (lw_Z below #[Value.ref b] s) (F0 m 700 ls [])) (H : Heap) (locs : List Loc) (hP : va_P (dC, dI) vwCl [(h0, .inr (0, [.ref h_f, .int u, .int o])), (h_f, .inl (cA_f, 8, .inr (.inl f))), (k0, .inr (1, [.ref k_g, .int u, .int o, .int mi, .int xe, .long bi, .int fa, .int cu])), (k_g, .inl (cB_g, 8, .inr (.inl f)))] H) (hD : va_D (fun q : Nat => s.heap.size ≤ q) [(h0, .inr (0, [.ref h_f, .int u, .int o])), (h_f, .inl (cA_f, 8, .inr (.inl f))), (k0, .inr (1, [.ref k_g, .int u, .int o, .int mi, .int xe, .long bi, .int fa, .int cu])), (k_g, .inl (cB_g, 8, .inr (.inl f)))]) (hS : va_S (fun q : Nat => s.heap.size ≤ q) s.heap H locs) (ls : Array Slot) (hl : lv_has ls 4 [(0, .ref b), (1, .ref h0), (2, .ref k0), (3, .int x3)]) : W p l e room_1 s m #[Value.ref b] below meth c H locs 4 27 (lw_Z below #[Value.ref b] s) (F0 m 163 ls []) := by
  obtain ⟨hx, hb, hr, hml, hown, hts, hX, hbl, hlocks, hgv⟩ := C0
  have hown : s.vm.findClass RL = some m.cls := hown
  have hA : ∀ q : Nat, s.heap.size ≤ q → (fun q : Nat => s.heap.size ≤ q) q := fun _ h => h
  have hbA : ¬ (fun q : Nat => s.heap.size ≤ q) b := Nat.not_le.mpr hbl
  have hi_1 : vp_in (x3 + (1 : Int32)) L := lx_in (k := 1) ex3 rfl hi (by omega) hL
  refine lv_aload_n hx hb dL_law_163 rfl (lv_at hl 1 rfl) ?_
  refine lv_aload_n hx hb dL_law_164 rfl (lv_at hl 0 rfl) ?_
  refine lv_iload_n hx hb dL_law_165 rfl (lv_at hl 3 rfl) ?_
  refine lv_iconst (v := (1 : Int32)) hx hb dL_law_166 (by decide) ?_
  refine lv_iadd hx hb dL_law_167 ?_
  refine va_sld hx hb hX hbl hbA hS hi_1 dL_law_168 ?_
  refine xj_vl (As := [.int (xs (Int32.toNatClampNeg (x3 + (1 : Int32))))]) (rest := []) (Wd := mw_X0 h0 h_f cA_f) (wr := [(k0, .inr (1, [.ref k_g, .int u, .int o, .int mi, .int xe, .long bi, .int fa, .int cu])), (k_g, .inl (cB_g, 8, .inr (.inl f)))]) ⟨hx, hb, hml, hown, hts⟩ (mc_X0_get l dC dI h0 h_f cA_f f u o (xs (Int32.toNatClampNeg (x3 + (1 : Int32))))) (cwV 1 hts gLX_get rfl rfl rfl (by decide +kernel) ⟨Nat.le_of_ble_eq_true rfl, Nat.le_of_ble_eq_true rfl⟩) hP hK hD hS hA [0, 1] [2, 3] [0] rfl (by decide) rfl (by decide) (by decide) rfl (va_recv hK hP (ci := 0) (q0 := 0) rfl rfl) rfl hl.1 rfl (Nat.le_of_ble_eq_true rfl) dL_law_169 ⟨Nat.le_of_ble_eq_true rfl, Nat.le_of_ble_eq_true rfl⟩ (fun H9 locs9 hP hD hS => ?_)
  have hP : va_P (dC, dI) vwCl [(k0, .inr (1, [.ref k_g, .int u, .int o, .int mi, .int xe, .long bi, .int fa, .int cu])), (k_g, .inl (cB_g, 8, .inr (.inl f))), (h0, .inr (0, [.ref h_f, .int u, .int o])), (h_f, .inl (cA_f, 8, .inr (.inl f)))] _ := hP
  have hD : va_D (fun q : Nat => s.heap.size ≤ q) [(k0, .inr (1, [.ref k_g, .int u, .int o, .int mi, .int xe, .long bi, .int fa, .int cu])), (k_g, .inl (cB_g, 8, .inr (.inl f))), (h0, .inr (0, [.ref h_f, .int u, .int o])), (h_f, .inl (cA_f, 8, .inr (.inl f)))] := hD
  refine lv_topl (fun y1 ey1 => ?_)
  refine lv_aload_n hx hb dL_law_172 rfl (lv_at hl 2 rfl) ?_
  refine lv_aload_n hx hb dL_law_173 rfl (lv_at hl 0 rfl) ?_
  refine lv_iload_n hx hb dL_law_174 rfl (lv_at hl 3 rfl) ?_
  refine lv_iconst (v := (1 : Int32)) hx hb dL_law_175 (by decide) ?_
  refine lv_iadd hx hb dL_law_176 ?_
  refine va_sld hx hb hX hbl hbA hS hi_1 dL_law_177 ?_
  refine xj_vl (As := [.int (xs (Int32.toNatClampNeg (x3 + (1 : Int32))))]) (rest := [.long y1]) (Wd := mw_Y k0 k_g cB_g) (wr := [(h0, .inr (0, [.ref h_f, .int u, .int o])), (h_f, .inl (cA_f, 8, .inr (.inl f)))]) ⟨hx, hb, hml, hown, hts⟩ (mc_Y_get l dC dI k0 k_g cB_g f u o mi xe bi fa cu (xs (Int32.toNatClampNeg (x3 + (1 : Int32))))) (cwV 1 hts gLY_get rfl rfl rfl (by decide +kernel) ⟨Nat.le_of_ble_eq_true rfl, Nat.le_of_ble_eq_true rfl⟩) hP hK hD hS hA [0, 1] [2, 3] [1] rfl (by decide) rfl (by decide) (by decide) rfl (va_recv hK hP (ci := 1) (q0 := 0) rfl rfl) rfl hl.1 rfl (Nat.le_of_ble_eq_true rfl) dL_law_178 ⟨Nat.le_of_ble_eq_true rfl, Nat.le_of_ble_eq_true rfl⟩ (fun H9 locs9 hP hD hS => ?_)
  have hP : va_P (dC, dI) vwCl [(h0, .inr (0, [.ref h_f, .int u, .int o])), (h_f, .inl (cA_f, 8, .inr (.inl f))), (k0, .inr (1, [.ref k_g, .int u, .int o, .int mi, .int xe, .long bi, .int fa, .int cu])), (k_g, .inl (cB_g, 8, .inr (.inl f)))] _ := hP
  have hD : va_D (fun q : Nat => s.heap.size ≤ q) [(h0, .inr (0, [.ref h_f, .int u, .int o])), (h_f, .inl (cA_f, 8, .inr (.inl f))), (k0, .inr (1, [.ref k_g, .int u, .int o, .int mi, .int xe, .long bi, .int fa, .int cu])), (k_g, .inl (cB_g, 8, .inr (.inl f)))] := hD
  refine lv_topl (fun y2 ey2 => ?_)
  have hE : y1 = y2 := by rw [ey1, ey2]; exact (ly_get f u o mi xe bi fa cu _).symm
  refine xj_l_eq (tgt := 700) hx hb dL_law_181 dL_law_182 (by decide) (fun c9 => ?_) (fun c9 => absurd hE c9)
  exact K (f, u, o) (f, u, o, mi, xe, bi, fa, cu) ⟨rfl, hu, ho⟩ _ _ hP hD hS _ (lv_sub hl [0, 1, 2, 3] rfl)
set_option maxHeartbeats 8000000 in
set_option maxRecDepth 100000 in
theorem lx_case_under {p : Program} {l : Launch} {e : Env} {s : State} {m : MethodId} {below : List Frame} {meth : Method} {c : Code} {dC : Nat → ClassId} {dI : Nat → Nat → Nat} {b L : Nat} {xs : Nat → Int32} (hL : L ≤ 3072) (C0 : lw_At p s m meth c b L xs) (h0 h_f : Nat) (cA_f : ClassId) (k0 k_g : Nat) (cB_g : ClassId) (hK : va_K (dC, dI) vwCl [(cA_f, .long), (cB_g, .long)] s) (f : Nat → Int64) (u o mi xe : Int32) (bi : Int64) (fa cu : Int32) (hu : u = 0 ∨ u = 1) (ho : o = 0 ∨ o = 1) (i : Nat) (x3 : Int32) (ex3 : x3 = nI i) (hi : i + 5 < L) (K : ∀ (sx : (Nat → Int64) × Int32 × Int32) (sm : (Nat → Int64) × Int32 × Int32 × Int32 × Int32 × Int64 × Int32 × Int32), lx_R sx sm → ∀ (H : Heap) (locs : List Loc), va_P (dC, dI) vwCl (mw_X0 h0 h_f cA_f sx ++ mw_Y k0 k_g cB_g sm) H → va_D (fun q : Nat => s.heap.size ≤ q) (mw_X0 h0 h_f cA_f sx ++ mw_Y k0 k_g cB_g sm) → va_S (fun q : Nat => s.heap.size ≤ q) s.heap H locs → ∀ (ls : Array Slot), lv_has ls 4 [(0, .ref b), (1, .ref h0), (2, .ref k0), (3, .int x3)] → W p l e room_1 s m #[Value.ref b] below meth c H locs 4 27 (lw_Z below #[Value.ref b] s) (F0 m 700 ls [])) (H : Heap) (locs : List Loc) (hP : va_P (dC, dI) vwCl [(h0, .inr (0, [.ref h_f, .int u, .int o])), (h_f, .inl (cA_f, 8, .inr (.inl f))), (k0, .inr (1, [.ref k_g, .int u, .int o, .int mi, .int xe, .long bi, .int fa, .int cu])), (k_g, .inl (cB_g, 8, .inr (.inl f)))] H) (hD : va_D (fun q : Nat => s.heap.size ≤ q) [(h0, .inr (0, [.ref h_f, .int u, .int o])), (h_f, .inl (cA_f, 8, .inr (.inl f))), (k0, .inr (1, [.ref k_g, .int u, .int o, .int mi, .int xe, .long bi, .int fa, .int cu])), (k_g, .inl (cB_g, 8, .inr (.inl f)))]) (hS : va_S (fun q : Nat => s.heap.size ≤ q) s.heap H locs) (ls : Array Slot) (hl : lv_has ls 4 [(0, .ref b), (1, .ref h0), (2, .ref k0), (3, .int x3)]) : W p l e room_1 s m #[Value.ref b] below meth c H locs 4 27 (lw_Z below #[Value.ref b] s) (F0 m 187 ls []) := by
  obtain ⟨hx, hb, hr, hml, hown, hts, hX, hbl, hlocks, hgv⟩ := C0
  have hown : s.vm.findClass RL = some m.cls := hown
  have hA : ∀ q : Nat, s.heap.size ≤ q → (fun q : Nat => s.heap.size ≤ q) q := fun _ h => h
  have hbA : ¬ (fun q : Nat => s.heap.size ≤ q) b := Nat.not_le.mpr hbl
  have hi_1 : vp_in (x3 + (1 : Int32)) L := lx_in (k := 1) ex3 rfl hi (by omega) hL
  refine lv_aload_n hx hb dL_law_187 rfl (lv_at hl 1 rfl) ?_
  refine lv_aload_n hx hb dL_law_188 rfl (lv_at hl 0 rfl) ?_
  refine lv_iload_n hx hb dL_law_189 rfl (lv_at hl 3 rfl) ?_
  refine lv_iconst (v := (1 : Int32)) hx hb dL_law_190 (by decide) ?_
  refine lv_iadd hx hb dL_law_191 ?_
  refine va_sld hx hb hX hbl hbA hS hi_1 dL_law_192 ?_
  obtain ⟨y2, ey2⟩ : ∃ z : Int32, z = (if (xs (Int32.toNatClampNeg (x3 + (1 : Int32)))) = 0 then (0 : Int32) else (1 : Int32)) := ⟨_, rfl⟩
  refine xj_join 201 (fun ls' st' => lv_has ls' 4 [(0, .ref b), (1, .ref h0), (2, .ref k0), (3, .int x3)] ∧ st' = [.int y2, .ref h0]) ?_ (fun K201 => ?_)
  · rintro ls st ⟨hl, rfl⟩
    obtain ⟨q3, eq3⟩ : ∃ z : (Nat → Int64) × Int32 × Int32, z = (mf_X0_under f u o y2) := ⟨_, rfl⟩
    refine xj_vv (r := q3) (As := [.int y2]) (rest := []) (Wd := mw_X0 h0 h_f cA_f) (wr := [(k0, .inr (1, [.ref k_g, .int u, .int o, .int mi, .int xe, .long bi, .int fa, .int cu])), (k_g, .inl (cB_g, 8, .inr (.inl f)))]) ⟨hx, hb, hml, hown, hts⟩ (by rw [eq3]; exact mc_X0_under l dC dI h0 h_f cA_f f u o y2 (by rw [ey2]; (repeat' split) <;> simp)) (cwV 1 hts gLX_under rfl rfl rfl (by decide +kernel) ⟨Nat.le_of_ble_eq_true rfl, Nat.le_of_ble_eq_true rfl⟩) hP hK hD hS hA [0, 1] [2, 3] [0] rfl (by decide) rfl (by decide) (by decide) rfl (va_recv hK hP (ci := 0) (q0 := 0) rfl rfl) rfl hl.1 rfl (Nat.le_of_ble_eq_true rfl) dL_law_201 ⟨Nat.le_of_ble_eq_true rfl, Nat.le_of_ble_eq_true rfl⟩ (fun H9 locs9 hP hD hS => ?_)
    have hP : va_P (dC, dI) vwCl [(k0, .inr (1, [.ref k_g, .int u, .int o, .int mi, .int xe, .long bi, .int fa, .int cu])), (k_g, .inl (cB_g, 8, .inr (.inl f))), (h0, .inr (0, [.ref h_f, .int q3.2.1, .int q3.2.2])), (h_f, .inl (cA_f, 8, .inr (.inl q3.1)))] _ := hP
    have hD : va_D (fun q : Nat => s.heap.size ≤ q) [(k0, .inr (1, [.ref k_g, .int u, .int o, .int mi, .int xe, .long bi, .int fa, .int cu])), (k_g, .inl (cB_g, 8, .inr (.inl f))), (h0, .inr (0, [.ref h_f, .int q3.2.1, .int q3.2.2])), (h_f, .inl (cA_f, 8, .inr (.inl q3.1)))] := hD
    refine lv_aload_n hx hb dL_law_204 rfl (lv_at hl 2 rfl) ?_
    refine lv_aload_n hx hb dL_law_205 rfl (lv_at hl 0 rfl) ?_
    refine lv_iload_n hx hb dL_law_206 rfl (lv_at hl 3 rfl) ?_
    refine lv_iconst (v := (1 : Int32)) hx hb dL_law_207 (by decide) ?_
    refine lv_iadd hx hb dL_law_208 ?_
    refine va_sld hx hb hX hbl hbA hS hi_1 dL_law_209 ?_
    obtain ⟨y5, ey5⟩ : ∃ z : Int32, z = (if (xs (Int32.toNatClampNeg (x3 + (1 : Int32)))) = 0 then (0 : Int32) else (1 : Int32)) := ⟨_, rfl⟩
    refine xj_join 218 (fun ls' st' => lv_has ls' 4 [(0, .ref b), (1, .ref h0), (2, .ref k0), (3, .int x3)] ∧ st' = [.int y5, .ref k0]) ?_ (fun K218 => ?_)
    · rintro ls st ⟨hl, rfl⟩
      obtain ⟨q6, eq6⟩ : ∃ z : (Nat → Int64) × Int32 × Int32 × Int32 × Int32 × Int64 × Int32 × Int32, z = (mf_Y_under f u o mi xe bi fa cu y5) := ⟨_, rfl⟩
      refine xj_vv (r := q6) (As := [.int y5]) (rest := []) (Wd := mw_Y k0 k_g cB_g) (wr := [(h0, .inr (0, [.ref h_f, .int q3.2.1, .int q3.2.2])), (h_f, .inl (cA_f, 8, .inr (.inl q3.1)))]) ⟨hx, hb, hml, hown, hts⟩ (by rw [eq6]; exact mc_Y_under l dC dI k0 k_g cB_g f u o mi xe bi fa cu y5 (by rw [ey5]; (repeat' split) <;> simp)) (cwV 1 hts gLY_under rfl rfl rfl (by decide +kernel) ⟨Nat.le_of_ble_eq_true rfl, Nat.le_of_ble_eq_true rfl⟩) hP hK hD hS hA [0, 1] [2, 3] [1] rfl (by decide) rfl (by decide) (by decide) rfl (va_recv hK hP (ci := 1) (q0 := 0) rfl rfl) rfl hl.1 rfl (Nat.le_of_ble_eq_true rfl) dL_law_218 ⟨Nat.le_of_ble_eq_true rfl, Nat.le_of_ble_eq_true rfl⟩ (fun H9 locs9 hP hD hS => ?_)
      have hP : va_P (dC, dI) vwCl [(h0, .inr (0, [.ref h_f, .int q3.2.1, .int q3.2.2])), (h_f, .inl (cA_f, 8, .inr (.inl q3.1))), (k0, .inr (1, [.ref k_g, .int q6.2.1, .int q6.2.2.1, .int q6.2.2.2.1, .int q6.2.2.2.2.1, .long q6.2.2.2.2.2.1, .int q6.2.2.2.2.2.2.1, .int q6.2.2.2.2.2.2.2])), (k_g, .inl (cB_g, 8, .inr (.inl q6.1)))] _ := hP
      have hD : va_D (fun q : Nat => s.heap.size ≤ q) [(h0, .inr (0, [.ref h_f, .int q3.2.1, .int q3.2.2])), (h_f, .inl (cA_f, 8, .inr (.inl q3.1))), (k0, .inr (1, [.ref k_g, .int q6.2.1, .int q6.2.2.1, .int q6.2.2.2.1, .int q6.2.2.2.2.1, .long q6.2.2.2.2.2.1, .int q6.2.2.2.2.2.2.1, .int q6.2.2.2.2.2.2.2])), (k_g, .inl (cB_g, 8, .inr (.inl q6.1)))] := hD
      refine lv_goto (tgt := 700) hx hb dL_law_221 (by decide) ?_
      have hE2 : lx_R q3 q6 := by
        rw [eq3, eq6]
        refine ⟨?_, ?_, ho⟩
        · show (f, y5, o) = (f, y2, o)
          rw [ey5, ey2]
        · show y2 = 0 ∨ y2 = 1
          rw [ey2]; (repeat' split) <;> simp
      exact K q3 q6 hE2 _ _ hP hD hS _ (lv_sub hl [0, 1, 2, 3] rfl)
    · refine lv_if_eq (tgt := 217) hx hb dL_law_210 (by decide) (fun c4 => ?_) (fun c4 => ?_)
      · replace ey5 := xj_t ey5 c4
        refine lv_iconst (v := (0 : Int32)) hx hb dL_law_217 (by decide) ?_
        subst ey5
        exact K218 _ _ ⟨lv_sub hl [0, 1, 2, 3] rfl, rfl⟩
      · replace ey5 := xj_f ey5 c4
        refine lv_iconst (v := (1 : Int32)) hx hb dL_law_213 (by decide) ?_
        refine lv_goto (tgt := 218) hx hb dL_law_214 (by decide) ?_
        subst ey5
        exact K218 _ _ ⟨lv_sub hl [0, 1, 2, 3] rfl, rfl⟩
  · refine lv_if_eq (tgt := 200) hx hb dL_law_193 (by decide) (fun c1 => ?_) (fun c1 => ?_)
    · replace ey2 := xj_t ey2 c1
      refine lv_iconst (v := (0 : Int32)) hx hb dL_law_200 (by decide) ?_
      subst ey2
      exact K201 _ _ ⟨lv_sub hl [0, 1, 2, 3] rfl, rfl⟩
    · replace ey2 := xj_f ey2 c1
      refine lv_iconst (v := (1 : Int32)) hx hb dL_law_196 (by decide) ?_
      refine lv_goto (tgt := 201) hx hb dL_law_197 (by decide) ?_
      subst ey2
      exact K201 _ _ ⟨lv_sub hl [0, 1, 2, 3] rfl, rfl⟩
set_option maxHeartbeats 8000000 in
set_option maxRecDepth 100000 in
theorem lx_case_sum {p : Program} {l : Launch} {e : Env} {s : State} {m : MethodId} {below : List Frame} {meth : Method} {c : Code} {dC : Nat → ClassId} {dI : Nat → Nat → Nat} {b L : Nat} {xs : Nat → Int32} (hL : L ≤ 3072) (C0 : lw_At p s m meth c b L xs) (h0 h_f : Nat) (cA_f : ClassId) (k0 k_g : Nat) (cB_g : ClassId) (hK : va_K (dC, dI) vwCl [(cA_f, .long), (cB_g, .long)] s) (f : Nat → Int64) (u o mi xe : Int32) (bi : Int64) (fa cu : Int32) (hu : u = 0 ∨ u = 1) (ho : o = 0 ∨ o = 1) (i : Nat) (x3 : Int32) (ex3 : x3 = nI i) (hi : i + 5 < L) (K : ∀ (sx : (Nat → Int64) × Int32 × Int32) (sm : (Nat → Int64) × Int32 × Int32 × Int32 × Int32 × Int64 × Int32 × Int32), lx_R sx sm → ∀ (H : Heap) (locs : List Loc), va_P (dC, dI) vwCl (mw_X0 h0 h_f cA_f sx ++ mw_Y k0 k_g cB_g sm) H → va_D (fun q : Nat => s.heap.size ≤ q) (mw_X0 h0 h_f cA_f sx ++ mw_Y k0 k_g cB_g sm) → va_S (fun q : Nat => s.heap.size ≤ q) s.heap H locs → ∀ (ls : Array Slot), lv_has ls 4 [(0, .ref b), (1, .ref h0), (2, .ref k0), (3, .int x3)] → W p l e room_1 s m #[Value.ref b] below meth c H locs 4 27 (lw_Z below #[Value.ref b] s) (F0 m 700 ls [])) (H : Heap) (locs : List Loc) (hP : va_P (dC, dI) vwCl [(h0, .inr (0, [.ref h_f, .int u, .int o])), (h_f, .inl (cA_f, 8, .inr (.inl f))), (k0, .inr (1, [.ref k_g, .int u, .int o, .int mi, .int xe, .long bi, .int fa, .int cu])), (k_g, .inl (cB_g, 8, .inr (.inl f)))] H) (hD : va_D (fun q : Nat => s.heap.size ≤ q) [(h0, .inr (0, [.ref h_f, .int u, .int o])), (h_f, .inl (cA_f, 8, .inr (.inl f))), (k0, .inr (1, [.ref k_g, .int u, .int o, .int mi, .int xe, .long bi, .int fa, .int cu])), (k_g, .inl (cB_g, 8, .inr (.inl f)))]) (hS : va_S (fun q : Nat => s.heap.size ≤ q) s.heap H locs) (ls : Array Slot) (hl : lv_has ls 4 [(0, .ref b), (1, .ref h0), (2, .ref k0), (3, .int x3)]) : W p l e room_1 s m #[Value.ref b] below meth c H locs 4 27 (lw_Z below #[Value.ref b] s) (F0 m 224 ls []) := by
  obtain ⟨hx, hb, hr, hml, hown, hts, hX, hbl, hlocks, hgv⟩ := C0
  have hown : s.vm.findClass RL = some m.cls := hown
  have hA : ∀ q : Nat, s.heap.size ≤ q → (fun q : Nat => s.heap.size ≤ q) q := fun _ h => h
  have hbA : ¬ (fun q : Nat => s.heap.size ≤ q) b := Nat.not_le.mpr hbl
  have hi_1 : vp_in (x3 + (1 : Int32)) L := lx_in (k := 1) ex3 rfl hi (by omega) hL
  have hi_2 : vp_in (x3 + (2 : Int32)) L := lx_in (k := 2) ex3 rfl hi (by omega) hL
  have hi_3 : vp_in (x3 + (3 : Int32)) L := lx_in (k := 3) ex3 rfl hi (by omega) hL
  have hi_4 : vp_in (x3 + (4 : Int32)) L := lx_in (k := 4) ex3 rfl hi (by omega) hL
  refine lv_aload_n hx hb dL_law_224 rfl (lv_at hl 1 rfl) ?_
  refine lv_aload_n hx hb dL_law_225 rfl (lv_at hl 0 rfl) ?_
  refine lv_iload_n hx hb dL_law_226 rfl (lv_at hl 3 rfl) ?_
  refine lv_iconst (v := (1 : Int32)) hx hb dL_law_227 (by decide) ?_
  refine lv_iadd hx hb dL_law_228 ?_
  refine va_sld hx hb hX hbl hbA hS hi_1 dL_law_229 ?_
  refine lv_aload_n hx hb dL_law_230 rfl (lv_at hl 0 rfl) ?_
  refine lv_iload_n hx hb dL_law_231 rfl (lv_at hl 3 rfl) ?_
  refine lv_iconst (v := (2 : Int32)) hx hb dL_law_232 (by decide) ?_
  refine lv_iadd hx hb dL_law_233 ?_
  refine va_sld hx hb hX hbl hbA hS hi_2 dL_law_234 ?_
  refine lv_aload_n hx hb dL_law_235 rfl (lv_at hl 0 rfl) ?_
  refine lv_iload_n hx hb dL_law_236 rfl (lv_at hl 3 rfl) ?_
  refine lv_iconst (v := (3 : Int32)) hx hb dL_law_237 (by decide) ?_
  refine lv_iadd hx hb dL_law_238 ?_
  refine va_sld hx hb hX hbl hbA hS hi_3 dL_law_239 ?_
  refine lv_aload_n hx hb dL_law_240 rfl (lv_at hl 0 rfl) ?_
  refine lv_iload_n hx hb dL_law_241 rfl (lv_at hl 3 rfl) ?_
  refine lv_iconst (v := (4 : Int32)) hx hb dL_law_242 (by decide) ?_
  refine lv_iadd hx hb dL_law_243 ?_
  refine va_sld hx hb hX hbl hbA hS hi_4 dL_law_244 ?_
  obtain ⟨q1, eq1⟩ : ∃ z : Int32 × (Nat → Int64) × Int32 × Int32, z = (mf_X0_sum f u o (xs (Int32.toNatClampNeg (x3 + (1 : Int32)))) (xs (Int32.toNatClampNeg (x3 + (2 : Int32)))) (xs (Int32.toNatClampNeg (x3 + (3 : Int32)))) (xs (Int32.toNatClampNeg (x3 + (4 : Int32))))) := ⟨_, rfl⟩
  refine xj_vi (r := q1) (As := [.int (xs (Int32.toNatClampNeg (x3 + (1 : Int32)))), .int (xs (Int32.toNatClampNeg (x3 + (2 : Int32)))), .int (xs (Int32.toNatClampNeg (x3 + (3 : Int32)))), .int (xs (Int32.toNatClampNeg (x3 + (4 : Int32))))]) (rest := []) (Wd := mw_X0 h0 h_f cA_f) (wr := [(k0, .inr (1, [.ref k_g, .int u, .int o, .int mi, .int xe, .long bi, .int fa, .int cu])), (k_g, .inl (cB_g, 8, .inr (.inl f)))]) ⟨hx, hb, hml, hown, hts⟩ (by rw [eq1]; exact mc_X0_sum l dC dI h0 h_f cA_f f u o (xs (Int32.toNatClampNeg (x3 + (1 : Int32)))) (xs (Int32.toNatClampNeg (x3 + (2 : Int32)))) (xs (Int32.toNatClampNeg (x3 + (3 : Int32)))) (xs (Int32.toNatClampNeg (x3 + (4 : Int32))))) (cwV 4 hts gLX_sum rfl rfl rfl (by decide +kernel) ⟨Nat.le_of_ble_eq_true rfl, Nat.le_of_ble_eq_true rfl⟩) hP hK hD hS hA [0, 1] [2, 3] [0] rfl (by decide) rfl (by decide) (by decide) rfl (va_recv hK hP (ci := 0) (q0 := 0) rfl rfl) rfl hl.1 rfl (Nat.le_of_ble_eq_true rfl) dL_law_245 ⟨Nat.le_of_ble_eq_true rfl, Nat.le_of_ble_eq_true rfl⟩ (fun H9 locs9 hP hD hS => ?_)
  have hP : va_P (dC, dI) vwCl [(k0, .inr (1, [.ref k_g, .int u, .int o, .int mi, .int xe, .long bi, .int fa, .int cu])), (k_g, .inl (cB_g, 8, .inr (.inl f))), (h0, .inr (0, [.ref h_f, .int q1.2.2.1, .int q1.2.2.2])), (h_f, .inl (cA_f, 8, .inr (.inl q1.2.1)))] _ := hP
  have hD : va_D (fun q : Nat => s.heap.size ≤ q) [(k0, .inr (1, [.ref k_g, .int u, .int o, .int mi, .int xe, .long bi, .int fa, .int cu])), (k_g, .inl (cB_g, 8, .inr (.inl f))), (h0, .inr (0, [.ref h_f, .int q1.2.2.1, .int q1.2.2.2])), (h_f, .inl (cA_f, 8, .inr (.inl q1.2.1)))] := hD
  refine lv_aload_n hx hb dL_law_248 rfl (lv_at hl 2 rfl) ?_
  refine lv_aload_n hx hb dL_law_249 rfl (lv_at hl 0 rfl) ?_
  refine lv_iload_n hx hb dL_law_250 rfl (lv_at hl 3 rfl) ?_
  refine lv_iconst (v := (1 : Int32)) hx hb dL_law_251 (by decide) ?_
  refine lv_iadd hx hb dL_law_252 ?_
  refine va_sld hx hb hX hbl hbA hS hi_1 dL_law_253 ?_
  refine lv_aload_n hx hb dL_law_254 rfl (lv_at hl 0 rfl) ?_
  refine lv_iload_n hx hb dL_law_255 rfl (lv_at hl 3 rfl) ?_
  refine lv_iconst (v := (2 : Int32)) hx hb dL_law_256 (by decide) ?_
  refine lv_iadd hx hb dL_law_257 ?_
  refine va_sld hx hb hX hbl hbA hS hi_2 dL_law_258 ?_
  refine lv_aload_n hx hb dL_law_259 rfl (lv_at hl 0 rfl) ?_
  refine lv_iload_n hx hb dL_law_260 rfl (lv_at hl 3 rfl) ?_
  refine lv_iconst (v := (3 : Int32)) hx hb dL_law_261 (by decide) ?_
  refine lv_iadd hx hb dL_law_262 ?_
  refine va_sld hx hb hX hbl hbA hS hi_3 dL_law_263 ?_
  refine lv_aload_n hx hb dL_law_264 rfl (lv_at hl 0 rfl) ?_
  refine lv_iload_n hx hb dL_law_265 rfl (lv_at hl 3 rfl) ?_
  refine lv_iconst (v := (4 : Int32)) hx hb dL_law_266 (by decide) ?_
  refine lv_iadd hx hb dL_law_267 ?_
  refine va_sld hx hb hX hbl hbA hS hi_4 dL_law_268 ?_
  obtain ⟨q2, eq2⟩ : ∃ z : Int32 × (Nat → Int64) × Int32 × Int32 × Int32 × Int32 × Int64 × Int32 × Int32, z = (mf_Y_sum f u o mi xe bi fa cu (xs (Int32.toNatClampNeg (x3 + (1 : Int32)))) (xs (Int32.toNatClampNeg (x3 + (2 : Int32)))) (xs (Int32.toNatClampNeg (x3 + (3 : Int32)))) (xs (Int32.toNatClampNeg (x3 + (4 : Int32))))) := ⟨_, rfl⟩
  refine xj_vi (r := q2) (As := [.int (xs (Int32.toNatClampNeg (x3 + (1 : Int32)))), .int (xs (Int32.toNatClampNeg (x3 + (2 : Int32)))), .int (xs (Int32.toNatClampNeg (x3 + (3 : Int32)))), .int (xs (Int32.toNatClampNeg (x3 + (4 : Int32))))]) (rest := [.int q1.1]) (Wd := mw_Y k0 k_g cB_g) (wr := [(h0, .inr (0, [.ref h_f, .int q1.2.2.1, .int q1.2.2.2])), (h_f, .inl (cA_f, 8, .inr (.inl q1.2.1)))]) ⟨hx, hb, hml, hown, hts⟩ (by rw [eq2]; exact mc_Y_sum l dC dI k0 k_g cB_g f u o mi xe bi fa cu (xs (Int32.toNatClampNeg (x3 + (1 : Int32)))) (xs (Int32.toNatClampNeg (x3 + (2 : Int32)))) (xs (Int32.toNatClampNeg (x3 + (3 : Int32)))) (xs (Int32.toNatClampNeg (x3 + (4 : Int32))))) (cwV 4 hts gLY_sum rfl rfl rfl (by decide +kernel) ⟨Nat.le_of_ble_eq_true rfl, Nat.le_of_ble_eq_true rfl⟩) hP hK hD hS hA [0, 1] [2, 3] [1] rfl (by decide) rfl (by decide) (by decide) rfl (va_recv hK hP (ci := 1) (q0 := 0) rfl rfl) rfl hl.1 rfl (Nat.le_of_ble_eq_true rfl) dL_law_269 ⟨Nat.le_of_ble_eq_true rfl, Nat.le_of_ble_eq_true rfl⟩ (fun H9 locs9 hP hD hS => ?_)
  have hP : va_P (dC, dI) vwCl [(h0, .inr (0, [.ref h_f, .int q1.2.2.1, .int q1.2.2.2])), (h_f, .inl (cA_f, 8, .inr (.inl q1.2.1))), (k0, .inr (1, [.ref k_g, .int q2.2.2.1, .int q2.2.2.2.1, .int q2.2.2.2.2.1, .int q2.2.2.2.2.2.1, .long q2.2.2.2.2.2.2.1, .int q2.2.2.2.2.2.2.2.1, .int q2.2.2.2.2.2.2.2.2])), (k_g, .inl (cB_g, 8, .inr (.inl q2.2.1)))] _ := hP
  have hD : va_D (fun q : Nat => s.heap.size ≤ q) [(h0, .inr (0, [.ref h_f, .int q1.2.2.1, .int q1.2.2.2])), (h_f, .inl (cA_f, 8, .inr (.inl q1.2.1))), (k0, .inr (1, [.ref k_g, .int q2.2.2.1, .int q2.2.2.2.1, .int q2.2.2.2.2.1, .int q2.2.2.2.2.2.1, .long q2.2.2.2.2.2.2.1, .int q2.2.2.2.2.2.2.2.1, .int q2.2.2.2.2.2.2.2.2])), (k_g, .inl (cB_g, 8, .inr (.inl q2.2.1)))] := hD
  obtain ⟨hE, hE2⟩ : q1.1 = q2.1 ∧ lx_R q1.2 q2.2 := lx_of (by rw [eq1, eq2]; exact ly_sum ..) (by rw [eq1]; exact lo_sum (hu := hu) (ho := ho) ..)
  refine lv_icmp_eq (tgt := 700) hx hb dL_law_272 (by decide) (fun c9 => ?_) (fun c9 => absurd hE c9)
  exact K q1.2 q2.2 hE2 _ _ hP hD hS _ (lv_sub hl [0, 1, 2, 3] rfl)
set_option maxHeartbeats 8000000 in
set_option maxRecDepth 100000 in
theorem lx_case_less {p : Program} {l : Launch} {e : Env} {s : State} {m : MethodId} {below : List Frame} {meth : Method} {c : Code} {dC : Nat → ClassId} {dI : Nat → Nat → Nat} {b L : Nat} {xs : Nat → Int32} (hL : L ≤ 3072) (C0 : lw_At p s m meth c b L xs) (h0 h_f : Nat) (cA_f : ClassId) (k0 k_g : Nat) (cB_g : ClassId) (hK : va_K (dC, dI) vwCl [(cA_f, .long), (cB_g, .long)] s) (f : Nat → Int64) (u o mi xe : Int32) (bi : Int64) (fa cu : Int32) (hu : u = 0 ∨ u = 1) (ho : o = 0 ∨ o = 1) (i : Nat) (x3 : Int32) (ex3 : x3 = nI i) (hi : i + 5 < L) (K : ∀ (sx : (Nat → Int64) × Int32 × Int32) (sm : (Nat → Int64) × Int32 × Int32 × Int32 × Int32 × Int64 × Int32 × Int32), lx_R sx sm → ∀ (H : Heap) (locs : List Loc), va_P (dC, dI) vwCl (mw_X0 h0 h_f cA_f sx ++ mw_Y k0 k_g cB_g sm) H → va_D (fun q : Nat => s.heap.size ≤ q) (mw_X0 h0 h_f cA_f sx ++ mw_Y k0 k_g cB_g sm) → va_S (fun q : Nat => s.heap.size ≤ q) s.heap H locs → ∀ (ls : Array Slot), lv_has ls 4 [(0, .ref b), (1, .ref h0), (2, .ref k0), (3, .int x3)] → W p l e room_1 s m #[Value.ref b] below meth c H locs 4 27 (lw_Z below #[Value.ref b] s) (F0 m 700 ls [])) (H : Heap) (locs : List Loc) (hP : va_P (dC, dI) vwCl [(h0, .inr (0, [.ref h_f, .int u, .int o])), (h_f, .inl (cA_f, 8, .inr (.inl f))), (k0, .inr (1, [.ref k_g, .int u, .int o, .int mi, .int xe, .long bi, .int fa, .int cu])), (k_g, .inl (cB_g, 8, .inr (.inl f)))] H) (hD : va_D (fun q : Nat => s.heap.size ≤ q) [(h0, .inr (0, [.ref h_f, .int u, .int o])), (h_f, .inl (cA_f, 8, .inr (.inl f))), (k0, .inr (1, [.ref k_g, .int u, .int o, .int mi, .int xe, .long bi, .int fa, .int cu])), (k_g, .inl (cB_g, 8, .inr (.inl f)))]) (hS : va_S (fun q : Nat => s.heap.size ≤ q) s.heap H locs) (ls : Array Slot) (hl : lv_has ls 4 [(0, .ref b), (1, .ref h0), (2, .ref k0), (3, .int x3)]) : W p l e room_1 s m #[Value.ref b] below meth c H locs 4 27 (lw_Z below #[Value.ref b] s) (F0 m 277 ls []) := by
  obtain ⟨hx, hb, hr, hml, hown, hts, hX, hbl, hlocks, hgv⟩ := C0
  have hown : s.vm.findClass RL = some m.cls := hown
  have hA : ∀ q : Nat, s.heap.size ≤ q → (fun q : Nat => s.heap.size ≤ q) q := fun _ h => h
  have hbA : ¬ (fun q : Nat => s.heap.size ≤ q) b := Nat.not_le.mpr hbl
  have hi_1 : vp_in (x3 + (1 : Int32)) L := lx_in (k := 1) ex3 rfl hi (by omega) hL
  have hi_2 : vp_in (x3 + (2 : Int32)) L := lx_in (k := 2) ex3 rfl hi (by omega) hL
  have hi_3 : vp_in (x3 + (3 : Int32)) L := lx_in (k := 3) ex3 rfl hi (by omega) hL
  have hi_4 : vp_in (x3 + (4 : Int32)) L := lx_in (k := 4) ex3 rfl hi (by omega) hL
  refine lv_aload_n hx hb dL_law_277 rfl (lv_at hl 1 rfl) ?_
  refine lv_aload_n hx hb dL_law_278 rfl (lv_at hl 0 rfl) ?_
  refine lv_iload_n hx hb dL_law_279 rfl (lv_at hl 3 rfl) ?_
  refine lv_iconst (v := (1 : Int32)) hx hb dL_law_280 (by decide) ?_
  refine lv_iadd hx hb dL_law_281 ?_
  refine va_sld hx hb hX hbl hbA hS hi_1 dL_law_282 ?_
  refine lv_aload_n hx hb dL_law_283 rfl (lv_at hl 0 rfl) ?_
  refine lv_iload_n hx hb dL_law_284 rfl (lv_at hl 3 rfl) ?_
  refine lv_iconst (v := (2 : Int32)) hx hb dL_law_285 (by decide) ?_
  refine lv_iadd hx hb dL_law_286 ?_
  refine va_sld hx hb hX hbl hbA hS hi_2 dL_law_287 ?_
  refine lv_aload_n hx hb dL_law_288 rfl (lv_at hl 0 rfl) ?_
  refine lv_iload_n hx hb dL_law_289 rfl (lv_at hl 3 rfl) ?_
  refine lv_iconst (v := (3 : Int32)) hx hb dL_law_290 (by decide) ?_
  refine lv_iadd hx hb dL_law_291 ?_
  refine va_sld hx hb hX hbl hbA hS hi_3 dL_law_292 ?_
  refine lv_aload_n hx hb dL_law_293 rfl (lv_at hl 0 rfl) ?_
  refine lv_iload_n hx hb dL_law_294 rfl (lv_at hl 3 rfl) ?_
  refine lv_iconst (v := (4 : Int32)) hx hb dL_law_295 (by decide) ?_
  refine lv_iadd hx hb dL_law_296 ?_
  refine va_sld hx hb hX hbl hbA hS hi_4 dL_law_297 ?_
  obtain ⟨q1, eq1⟩ : ∃ z : Int32 × (Nat → Int64) × Int32 × Int32, z = (mf_X0_less f u o (xs (Int32.toNatClampNeg (x3 + (1 : Int32)))) (xs (Int32.toNatClampNeg (x3 + (2 : Int32)))) (xs (Int32.toNatClampNeg (x3 + (3 : Int32)))) (xs (Int32.toNatClampNeg (x3 + (4 : Int32))))) := ⟨_, rfl⟩
  refine xj_vi (r := q1) (As := [.int (xs (Int32.toNatClampNeg (x3 + (1 : Int32)))), .int (xs (Int32.toNatClampNeg (x3 + (2 : Int32)))), .int (xs (Int32.toNatClampNeg (x3 + (3 : Int32)))), .int (xs (Int32.toNatClampNeg (x3 + (4 : Int32))))]) (rest := []) (Wd := mw_X0 h0 h_f cA_f) (wr := [(k0, .inr (1, [.ref k_g, .int u, .int o, .int mi, .int xe, .long bi, .int fa, .int cu])), (k_g, .inl (cB_g, 8, .inr (.inl f)))]) ⟨hx, hb, hml, hown, hts⟩ (by rw [eq1]; exact mc_X0_less l dC dI h0 h_f cA_f f u o (xs (Int32.toNatClampNeg (x3 + (1 : Int32)))) (xs (Int32.toNatClampNeg (x3 + (2 : Int32)))) (xs (Int32.toNatClampNeg (x3 + (3 : Int32)))) (xs (Int32.toNatClampNeg (x3 + (4 : Int32))))) (cwV 4 hts gLX_less rfl rfl rfl (by decide +kernel) ⟨Nat.le_of_ble_eq_true rfl, Nat.le_of_ble_eq_true rfl⟩) hP hK hD hS hA [0, 1] [2, 3] [0] rfl (by decide) rfl (by decide) (by decide) rfl (va_recv hK hP (ci := 0) (q0 := 0) rfl rfl) rfl hl.1 rfl (Nat.le_of_ble_eq_true rfl) dL_law_298 ⟨Nat.le_of_ble_eq_true rfl, Nat.le_of_ble_eq_true rfl⟩ (fun H9 locs9 hP hD hS => ?_)
  have hP : va_P (dC, dI) vwCl [(k0, .inr (1, [.ref k_g, .int u, .int o, .int mi, .int xe, .long bi, .int fa, .int cu])), (k_g, .inl (cB_g, 8, .inr (.inl f))), (h0, .inr (0, [.ref h_f, .int q1.2.2.1, .int q1.2.2.2])), (h_f, .inl (cA_f, 8, .inr (.inl q1.2.1)))] _ := hP
  have hD : va_D (fun q : Nat => s.heap.size ≤ q) [(k0, .inr (1, [.ref k_g, .int u, .int o, .int mi, .int xe, .long bi, .int fa, .int cu])), (k_g, .inl (cB_g, 8, .inr (.inl f))), (h0, .inr (0, [.ref h_f, .int q1.2.2.1, .int q1.2.2.2])), (h_f, .inl (cA_f, 8, .inr (.inl q1.2.1)))] := hD
  refine lv_aload_n hx hb dL_law_301 rfl (lv_at hl 2 rfl) ?_
  refine lv_aload_n hx hb dL_law_302 rfl (lv_at hl 0 rfl) ?_
  refine lv_iload_n hx hb dL_law_303 rfl (lv_at hl 3 rfl) ?_
  refine lv_iconst (v := (1 : Int32)) hx hb dL_law_304 (by decide) ?_
  refine lv_iadd hx hb dL_law_305 ?_
  refine va_sld hx hb hX hbl hbA hS hi_1 dL_law_306 ?_
  refine lv_aload_n hx hb dL_law_307 rfl (lv_at hl 0 rfl) ?_
  refine lv_iload_n hx hb dL_law_308 rfl (lv_at hl 3 rfl) ?_
  refine lv_iconst (v := (2 : Int32)) hx hb dL_law_309 (by decide) ?_
  refine lv_iadd hx hb dL_law_310 ?_
  refine va_sld hx hb hX hbl hbA hS hi_2 dL_law_311 ?_
  refine lv_aload_n hx hb dL_law_312 rfl (lv_at hl 0 rfl) ?_
  refine lv_iload_n hx hb dL_law_313 rfl (lv_at hl 3 rfl) ?_
  refine lv_iconst (v := (3 : Int32)) hx hb dL_law_314 (by decide) ?_
  refine lv_iadd hx hb dL_law_315 ?_
  refine va_sld hx hb hX hbl hbA hS hi_3 dL_law_316 ?_
  refine lv_aload_n hx hb dL_law_317 rfl (lv_at hl 0 rfl) ?_
  refine lv_iload_n hx hb dL_law_318 rfl (lv_at hl 3 rfl) ?_
  refine lv_iconst (v := (4 : Int32)) hx hb dL_law_319 (by decide) ?_
  refine lv_iadd hx hb dL_law_320 ?_
  refine va_sld hx hb hX hbl hbA hS hi_4 dL_law_321 ?_
  obtain ⟨q2, eq2⟩ : ∃ z : Int32 × (Nat → Int64) × Int32 × Int32 × Int32 × Int32 × Int64 × Int32 × Int32, z = (mf_Y_less f u o mi xe bi fa cu (xs (Int32.toNatClampNeg (x3 + (1 : Int32)))) (xs (Int32.toNatClampNeg (x3 + (2 : Int32)))) (xs (Int32.toNatClampNeg (x3 + (3 : Int32)))) (xs (Int32.toNatClampNeg (x3 + (4 : Int32))))) := ⟨_, rfl⟩
  refine xj_vi (r := q2) (As := [.int (xs (Int32.toNatClampNeg (x3 + (1 : Int32)))), .int (xs (Int32.toNatClampNeg (x3 + (2 : Int32)))), .int (xs (Int32.toNatClampNeg (x3 + (3 : Int32)))), .int (xs (Int32.toNatClampNeg (x3 + (4 : Int32))))]) (rest := [.int q1.1]) (Wd := mw_Y k0 k_g cB_g) (wr := [(h0, .inr (0, [.ref h_f, .int q1.2.2.1, .int q1.2.2.2])), (h_f, .inl (cA_f, 8, .inr (.inl q1.2.1)))]) ⟨hx, hb, hml, hown, hts⟩ (by rw [eq2]; exact mc_Y_less l dC dI k0 k_g cB_g f u o mi xe bi fa cu (xs (Int32.toNatClampNeg (x3 + (1 : Int32)))) (xs (Int32.toNatClampNeg (x3 + (2 : Int32)))) (xs (Int32.toNatClampNeg (x3 + (3 : Int32)))) (xs (Int32.toNatClampNeg (x3 + (4 : Int32))))) (cwV 4 hts gLY_less rfl rfl rfl (by decide +kernel) ⟨Nat.le_of_ble_eq_true rfl, Nat.le_of_ble_eq_true rfl⟩) hP hK hD hS hA [0, 1] [2, 3] [1] rfl (by decide) rfl (by decide) (by decide) rfl (va_recv hK hP (ci := 1) (q0 := 0) rfl rfl) rfl hl.1 rfl (Nat.le_of_ble_eq_true rfl) dL_law_322 ⟨Nat.le_of_ble_eq_true rfl, Nat.le_of_ble_eq_true rfl⟩ (fun H9 locs9 hP hD hS => ?_)
  have hP : va_P (dC, dI) vwCl [(h0, .inr (0, [.ref h_f, .int q1.2.2.1, .int q1.2.2.2])), (h_f, .inl (cA_f, 8, .inr (.inl q1.2.1))), (k0, .inr (1, [.ref k_g, .int q2.2.2.1, .int q2.2.2.2.1, .int q2.2.2.2.2.1, .int q2.2.2.2.2.2.1, .long q2.2.2.2.2.2.2.1, .int q2.2.2.2.2.2.2.2.1, .int q2.2.2.2.2.2.2.2.2])), (k_g, .inl (cB_g, 8, .inr (.inl q2.2.1)))] _ := hP
  have hD : va_D (fun q : Nat => s.heap.size ≤ q) [(h0, .inr (0, [.ref h_f, .int q1.2.2.1, .int q1.2.2.2])), (h_f, .inl (cA_f, 8, .inr (.inl q1.2.1))), (k0, .inr (1, [.ref k_g, .int q2.2.2.1, .int q2.2.2.2.1, .int q2.2.2.2.2.1, .int q2.2.2.2.2.2.1, .long q2.2.2.2.2.2.2.1, .int q2.2.2.2.2.2.2.2.1, .int q2.2.2.2.2.2.2.2.2])), (k_g, .inl (cB_g, 8, .inr (.inl q2.2.1)))] := hD
  obtain ⟨hE, hE2⟩ : q1.1 = q2.1 ∧ lx_R q1.2 q2.2 := lx_of (by rw [eq1, eq2]; exact ly_less ..) (by rw [eq1]; exact lo_less (hu := hu) (ho := ho) ..)
  refine lv_icmp_eq (tgt := 700) hx hb dL_law_325 (by decide) (fun c9 => ?_) (fun c9 => absurd hE c9)
  exact K q1.2 q2.2 hE2 _ _ hP hD hS _ (lv_sub hl [0, 1, 2, 3] rfl)
set_option maxHeartbeats 8000000 in
set_option maxRecDepth 100000 in
theorem lx_case_product {p : Program} {l : Launch} {e : Env} {s : State} {m : MethodId} {below : List Frame} {meth : Method} {c : Code} {dC : Nat → ClassId} {dI : Nat → Nat → Nat} {b L : Nat} {xs : Nat → Int32} (hL : L ≤ 3072) (C0 : lw_At p s m meth c b L xs) (h0 h_f : Nat) (cA_f : ClassId) (k0 k_g : Nat) (cB_g : ClassId) (hK : va_K (dC, dI) vwCl [(cA_f, .long), (cB_g, .long)] s) (f : Nat → Int64) (u o mi xe : Int32) (bi : Int64) (fa cu : Int32) (hu : u = 0 ∨ u = 1) (ho : o = 0 ∨ o = 1) (i : Nat) (x3 : Int32) (ex3 : x3 = nI i) (hi : i + 5 < L) (K : ∀ (sx : (Nat → Int64) × Int32 × Int32) (sm : (Nat → Int64) × Int32 × Int32 × Int32 × Int32 × Int64 × Int32 × Int32), lx_R sx sm → ∀ (H : Heap) (locs : List Loc), va_P (dC, dI) vwCl (mw_X0 h0 h_f cA_f sx ++ mw_Y k0 k_g cB_g sm) H → va_D (fun q : Nat => s.heap.size ≤ q) (mw_X0 h0 h_f cA_f sx ++ mw_Y k0 k_g cB_g sm) → va_S (fun q : Nat => s.heap.size ≤ q) s.heap H locs → ∀ (ls : Array Slot), lv_has ls 4 [(0, .ref b), (1, .ref h0), (2, .ref k0), (3, .int x3)] → W p l e room_1 s m #[Value.ref b] below meth c H locs 4 27 (lw_Z below #[Value.ref b] s) (F0 m 700 ls [])) (H : Heap) (locs : List Loc) (hP : va_P (dC, dI) vwCl [(h0, .inr (0, [.ref h_f, .int u, .int o])), (h_f, .inl (cA_f, 8, .inr (.inl f))), (k0, .inr (1, [.ref k_g, .int u, .int o, .int mi, .int xe, .long bi, .int fa, .int cu])), (k_g, .inl (cB_g, 8, .inr (.inl f)))] H) (hD : va_D (fun q : Nat => s.heap.size ≤ q) [(h0, .inr (0, [.ref h_f, .int u, .int o])), (h_f, .inl (cA_f, 8, .inr (.inl f))), (k0, .inr (1, [.ref k_g, .int u, .int o, .int mi, .int xe, .long bi, .int fa, .int cu])), (k_g, .inl (cB_g, 8, .inr (.inl f)))]) (hS : va_S (fun q : Nat => s.heap.size ≤ q) s.heap H locs) (ls : Array Slot) (hl : lv_has ls 4 [(0, .ref b), (1, .ref h0), (2, .ref k0), (3, .int x3)]) : W p l e room_1 s m #[Value.ref b] below meth c H locs 4 27 (lw_Z below #[Value.ref b] s) (F0 m 330 ls []) := by
  obtain ⟨hx, hb, hr, hml, hown, hts, hX, hbl, hlocks, hgv⟩ := C0
  have hown : s.vm.findClass RL = some m.cls := hown
  have hA : ∀ q : Nat, s.heap.size ≤ q → (fun q : Nat => s.heap.size ≤ q) q := fun _ h => h
  have hbA : ¬ (fun q : Nat => s.heap.size ≤ q) b := Nat.not_le.mpr hbl
  have hi_1 : vp_in (x3 + (1 : Int32)) L := lx_in (k := 1) ex3 rfl hi (by omega) hL
  have hi_2 : vp_in (x3 + (2 : Int32)) L := lx_in (k := 2) ex3 rfl hi (by omega) hL
  have hi_3 : vp_in (x3 + (3 : Int32)) L := lx_in (k := 3) ex3 rfl hi (by omega) hL
  have hi_4 : vp_in (x3 + (4 : Int32)) L := lx_in (k := 4) ex3 rfl hi (by omega) hL
  refine lv_aload_n hx hb dL_law_330 rfl (lv_at hl 1 rfl) ?_
  refine lv_aload_n hx hb dL_law_331 rfl (lv_at hl 0 rfl) ?_
  refine lv_iload_n hx hb dL_law_332 rfl (lv_at hl 3 rfl) ?_
  refine lv_iconst (v := (1 : Int32)) hx hb dL_law_333 (by decide) ?_
  refine lv_iadd hx hb dL_law_334 ?_
  refine va_sld hx hb hX hbl hbA hS hi_1 dL_law_335 ?_
  refine lv_aload_n hx hb dL_law_336 rfl (lv_at hl 0 rfl) ?_
  refine lv_iload_n hx hb dL_law_337 rfl (lv_at hl 3 rfl) ?_
  refine lv_iconst (v := (2 : Int32)) hx hb dL_law_338 (by decide) ?_
  refine lv_iadd hx hb dL_law_339 ?_
  refine va_sld hx hb hX hbl hbA hS hi_2 dL_law_340 ?_
  refine lv_aload_n hx hb dL_law_341 rfl (lv_at hl 0 rfl) ?_
  refine lv_iload_n hx hb dL_law_342 rfl (lv_at hl 3 rfl) ?_
  refine lv_iconst (v := (3 : Int32)) hx hb dL_law_343 (by decide) ?_
  refine lv_iadd hx hb dL_law_344 ?_
  refine va_sld hx hb hX hbl hbA hS hi_3 dL_law_345 ?_
  refine lv_aload_n hx hb dL_law_346 rfl (lv_at hl 0 rfl) ?_
  refine lv_iload_n hx hb dL_law_347 rfl (lv_at hl 3 rfl) ?_
  refine lv_iconst (v := (4 : Int32)) hx hb dL_law_348 (by decide) ?_
  refine lv_iadd hx hb dL_law_349 ?_
  refine va_sld hx hb hX hbl hbA hS hi_4 dL_law_350 ?_
  obtain ⟨q1, eq1⟩ : ∃ z : Int32 × (Nat → Int64) × Int32 × Int32, z = (mf_X0_product f u o (xs (Int32.toNatClampNeg (x3 + (1 : Int32)))) (xs (Int32.toNatClampNeg (x3 + (2 : Int32)))) (xs (Int32.toNatClampNeg (x3 + (3 : Int32)))) (xs (Int32.toNatClampNeg (x3 + (4 : Int32))))) := ⟨_, rfl⟩
  refine xj_vi (r := q1) (As := [.int (xs (Int32.toNatClampNeg (x3 + (1 : Int32)))), .int (xs (Int32.toNatClampNeg (x3 + (2 : Int32)))), .int (xs (Int32.toNatClampNeg (x3 + (3 : Int32)))), .int (xs (Int32.toNatClampNeg (x3 + (4 : Int32))))]) (rest := []) (Wd := mw_X0 h0 h_f cA_f) (wr := [(k0, .inr (1, [.ref k_g, .int u, .int o, .int mi, .int xe, .long bi, .int fa, .int cu])), (k_g, .inl (cB_g, 8, .inr (.inl f)))]) ⟨hx, hb, hml, hown, hts⟩ (by rw [eq1]; exact mc_X0_product l dC dI h0 h_f cA_f f u o (xs (Int32.toNatClampNeg (x3 + (1 : Int32)))) (xs (Int32.toNatClampNeg (x3 + (2 : Int32)))) (xs (Int32.toNatClampNeg (x3 + (3 : Int32)))) (xs (Int32.toNatClampNeg (x3 + (4 : Int32))))) (cwV 4 hts gLX_product rfl rfl rfl (by decide +kernel) ⟨Nat.le_of_ble_eq_true rfl, Nat.le_of_ble_eq_true rfl⟩) hP hK hD hS hA [0, 1] [2, 3] [0] rfl (by decide) rfl (by decide) (by decide) rfl (va_recv hK hP (ci := 0) (q0 := 0) rfl rfl) rfl hl.1 rfl (Nat.le_of_ble_eq_true rfl) dL_law_351 ⟨Nat.le_of_ble_eq_true rfl, Nat.le_of_ble_eq_true rfl⟩ (fun H9 locs9 hP hD hS => ?_)
  have hP : va_P (dC, dI) vwCl [(k0, .inr (1, [.ref k_g, .int u, .int o, .int mi, .int xe, .long bi, .int fa, .int cu])), (k_g, .inl (cB_g, 8, .inr (.inl f))), (h0, .inr (0, [.ref h_f, .int q1.2.2.1, .int q1.2.2.2])), (h_f, .inl (cA_f, 8, .inr (.inl q1.2.1)))] _ := hP
  have hD : va_D (fun q : Nat => s.heap.size ≤ q) [(k0, .inr (1, [.ref k_g, .int u, .int o, .int mi, .int xe, .long bi, .int fa, .int cu])), (k_g, .inl (cB_g, 8, .inr (.inl f))), (h0, .inr (0, [.ref h_f, .int q1.2.2.1, .int q1.2.2.2])), (h_f, .inl (cA_f, 8, .inr (.inl q1.2.1)))] := hD
  refine lv_aload_n hx hb dL_law_354 rfl (lv_at hl 2 rfl) ?_
  refine lv_aload_n hx hb dL_law_355 rfl (lv_at hl 0 rfl) ?_
  refine lv_iload_n hx hb dL_law_356 rfl (lv_at hl 3 rfl) ?_
  refine lv_iconst (v := (1 : Int32)) hx hb dL_law_357 (by decide) ?_
  refine lv_iadd hx hb dL_law_358 ?_
  refine va_sld hx hb hX hbl hbA hS hi_1 dL_law_359 ?_
  refine lv_aload_n hx hb dL_law_360 rfl (lv_at hl 0 rfl) ?_
  refine lv_iload_n hx hb dL_law_361 rfl (lv_at hl 3 rfl) ?_
  refine lv_iconst (v := (2 : Int32)) hx hb dL_law_362 (by decide) ?_
  refine lv_iadd hx hb dL_law_363 ?_
  refine va_sld hx hb hX hbl hbA hS hi_2 dL_law_364 ?_
  refine lv_aload_n hx hb dL_law_365 rfl (lv_at hl 0 rfl) ?_
  refine lv_iload_n hx hb dL_law_366 rfl (lv_at hl 3 rfl) ?_
  refine lv_iconst (v := (3 : Int32)) hx hb dL_law_367 (by decide) ?_
  refine lv_iadd hx hb dL_law_368 ?_
  refine va_sld hx hb hX hbl hbA hS hi_3 dL_law_369 ?_
  refine lv_aload_n hx hb dL_law_370 rfl (lv_at hl 0 rfl) ?_
  refine lv_iload_n hx hb dL_law_371 rfl (lv_at hl 3 rfl) ?_
  refine lv_iconst (v := (4 : Int32)) hx hb dL_law_372 (by decide) ?_
  refine lv_iadd hx hb dL_law_373 ?_
  refine va_sld hx hb hX hbl hbA hS hi_4 dL_law_374 ?_
  obtain ⟨q2, eq2⟩ : ∃ z : Int32 × (Nat → Int64) × Int32 × Int32 × Int32 × Int32 × Int64 × Int32 × Int32, z = (mf_Y_product f u o mi xe bi fa cu (xs (Int32.toNatClampNeg (x3 + (1 : Int32)))) (xs (Int32.toNatClampNeg (x3 + (2 : Int32)))) (xs (Int32.toNatClampNeg (x3 + (3 : Int32)))) (xs (Int32.toNatClampNeg (x3 + (4 : Int32))))) := ⟨_, rfl⟩
  refine xj_vi (r := q2) (As := [.int (xs (Int32.toNatClampNeg (x3 + (1 : Int32)))), .int (xs (Int32.toNatClampNeg (x3 + (2 : Int32)))), .int (xs (Int32.toNatClampNeg (x3 + (3 : Int32)))), .int (xs (Int32.toNatClampNeg (x3 + (4 : Int32))))]) (rest := [.int q1.1]) (Wd := mw_Y k0 k_g cB_g) (wr := [(h0, .inr (0, [.ref h_f, .int q1.2.2.1, .int q1.2.2.2])), (h_f, .inl (cA_f, 8, .inr (.inl q1.2.1)))]) ⟨hx, hb, hml, hown, hts⟩ (by rw [eq2]; exact mc_Y_product l dC dI k0 k_g cB_g f u o mi xe bi fa cu (xs (Int32.toNatClampNeg (x3 + (1 : Int32)))) (xs (Int32.toNatClampNeg (x3 + (2 : Int32)))) (xs (Int32.toNatClampNeg (x3 + (3 : Int32)))) (xs (Int32.toNatClampNeg (x3 + (4 : Int32))))) (cwV 4 hts gLY_product rfl rfl rfl (by decide +kernel) ⟨Nat.le_of_ble_eq_true rfl, Nat.le_of_ble_eq_true rfl⟩) hP hK hD hS hA [0, 1] [2, 3] [1] rfl (by decide) rfl (by decide) (by decide) rfl (va_recv hK hP (ci := 1) (q0 := 0) rfl rfl) rfl hl.1 rfl (Nat.le_of_ble_eq_true rfl) dL_law_375 ⟨Nat.le_of_ble_eq_true rfl, Nat.le_of_ble_eq_true rfl⟩ (fun H9 locs9 hP hD hS => ?_)
  have hP : va_P (dC, dI) vwCl [(h0, .inr (0, [.ref h_f, .int q1.2.2.1, .int q1.2.2.2])), (h_f, .inl (cA_f, 8, .inr (.inl q1.2.1))), (k0, .inr (1, [.ref k_g, .int q2.2.2.1, .int q2.2.2.2.1, .int q2.2.2.2.2.1, .int q2.2.2.2.2.2.1, .long q2.2.2.2.2.2.2.1, .int q2.2.2.2.2.2.2.2.1, .int q2.2.2.2.2.2.2.2.2])), (k_g, .inl (cB_g, 8, .inr (.inl q2.2.1)))] _ := hP
  have hD : va_D (fun q : Nat => s.heap.size ≤ q) [(h0, .inr (0, [.ref h_f, .int q1.2.2.1, .int q1.2.2.2])), (h_f, .inl (cA_f, 8, .inr (.inl q1.2.1))), (k0, .inr (1, [.ref k_g, .int q2.2.2.1, .int q2.2.2.2.1, .int q2.2.2.2.2.1, .int q2.2.2.2.2.2.1, .long q2.2.2.2.2.2.2.1, .int q2.2.2.2.2.2.2.2.1, .int q2.2.2.2.2.2.2.2.2])), (k_g, .inl (cB_g, 8, .inr (.inl q2.2.1)))] := hD
  obtain ⟨hE, hE2⟩ : q1.1 = q2.1 ∧ lx_R q1.2 q2.2 := lx_of (by rw [eq1, eq2]; exact ly_product ..) (by rw [eq1]; exact lo_product (hu := hu) (ho := ho) ..)
  refine lv_icmp_eq (tgt := 700) hx hb dL_law_378 (by decide) (fun c9 => ?_) (fun c9 => absurd hE c9)
  exact K q1.2 q2.2 hE2 _ _ hP hD hS _ (lv_sub hl [0, 1, 2, 3] rfl)
set_option maxHeartbeats 8000000 in
set_option maxRecDepth 100000 in
theorem lx_case_quotient {p : Program} {l : Launch} {e : Env} {s : State} {m : MethodId} {below : List Frame} {meth : Method} {c : Code} {dC : Nat → ClassId} {dI : Nat → Nat → Nat} {b L : Nat} {xs : Nat → Int32} (hL : L ≤ 3072) (C0 : lw_At p s m meth c b L xs) (h0 h_f : Nat) (cA_f : ClassId) (k0 k_g : Nat) (cB_g : ClassId) (hK : va_K (dC, dI) vwCl [(cA_f, .long), (cB_g, .long)] s) (f : Nat → Int64) (u o mi xe : Int32) (bi : Int64) (fa cu : Int32) (hu : u = 0 ∨ u = 1) (ho : o = 0 ∨ o = 1) (i : Nat) (x3 : Int32) (ex3 : x3 = nI i) (hi : i + 5 < L) (K : ∀ (sx : (Nat → Int64) × Int32 × Int32) (sm : (Nat → Int64) × Int32 × Int32 × Int32 × Int32 × Int64 × Int32 × Int32), lx_R sx sm → ∀ (H : Heap) (locs : List Loc), va_P (dC, dI) vwCl (mw_X0 h0 h_f cA_f sx ++ mw_Y k0 k_g cB_g sm) H → va_D (fun q : Nat => s.heap.size ≤ q) (mw_X0 h0 h_f cA_f sx ++ mw_Y k0 k_g cB_g sm) → va_S (fun q : Nat => s.heap.size ≤ q) s.heap H locs → ∀ (ls : Array Slot), lv_has ls 4 [(0, .ref b), (1, .ref h0), (2, .ref k0), (3, .int x3)] → W p l e room_1 s m #[Value.ref b] below meth c H locs 4 27 (lw_Z below #[Value.ref b] s) (F0 m 700 ls [])) (H : Heap) (locs : List Loc) (hP : va_P (dC, dI) vwCl [(h0, .inr (0, [.ref h_f, .int u, .int o])), (h_f, .inl (cA_f, 8, .inr (.inl f))), (k0, .inr (1, [.ref k_g, .int u, .int o, .int mi, .int xe, .long bi, .int fa, .int cu])), (k_g, .inl (cB_g, 8, .inr (.inl f)))] H) (hD : va_D (fun q : Nat => s.heap.size ≤ q) [(h0, .inr (0, [.ref h_f, .int u, .int o])), (h_f, .inl (cA_f, 8, .inr (.inl f))), (k0, .inr (1, [.ref k_g, .int u, .int o, .int mi, .int xe, .long bi, .int fa, .int cu])), (k_g, .inl (cB_g, 8, .inr (.inl f)))]) (hS : va_S (fun q : Nat => s.heap.size ≤ q) s.heap H locs) (ls : Array Slot) (hl : lv_has ls 4 [(0, .ref b), (1, .ref h0), (2, .ref k0), (3, .int x3)]) : W p l e room_1 s m #[Value.ref b] below meth c H locs 4 27 (lw_Z below #[Value.ref b] s) (F0 m 383 ls []) := by
  obtain ⟨hx, hb, hr, hml, hown, hts, hX, hbl, hlocks, hgv⟩ := C0
  have hown : s.vm.findClass RL = some m.cls := hown
  have hA : ∀ q : Nat, s.heap.size ≤ q → (fun q : Nat => s.heap.size ≤ q) q := fun _ h => h
  have hbA : ¬ (fun q : Nat => s.heap.size ≤ q) b := Nat.not_le.mpr hbl
  have hi_1 : vp_in (x3 + (1 : Int32)) L := lx_in (k := 1) ex3 rfl hi (by omega) hL
  have hi_2 : vp_in (x3 + (2 : Int32)) L := lx_in (k := 2) ex3 rfl hi (by omega) hL
  have hi_3 : vp_in (x3 + (3 : Int32)) L := lx_in (k := 3) ex3 rfl hi (by omega) hL
  have hi_4 : vp_in (x3 + (4 : Int32)) L := lx_in (k := 4) ex3 rfl hi (by omega) hL
  refine lv_aload_n hx hb dL_law_383 rfl (lv_at hl 1 rfl) ?_
  refine lv_aload_n hx hb dL_law_384 rfl (lv_at hl 0 rfl) ?_
  refine lv_iload_n hx hb dL_law_385 rfl (lv_at hl 3 rfl) ?_
  refine lv_iconst (v := (1 : Int32)) hx hb dL_law_386 (by decide) ?_
  refine lv_iadd hx hb dL_law_387 ?_
  refine va_sld hx hb hX hbl hbA hS hi_1 dL_law_388 ?_
  refine lv_aload_n hx hb dL_law_389 rfl (lv_at hl 0 rfl) ?_
  refine lv_iload_n hx hb dL_law_390 rfl (lv_at hl 3 rfl) ?_
  refine lv_iconst (v := (2 : Int32)) hx hb dL_law_391 (by decide) ?_
  refine lv_iadd hx hb dL_law_392 ?_
  refine va_sld hx hb hX hbl hbA hS hi_2 dL_law_393 ?_
  refine lv_aload_n hx hb dL_law_394 rfl (lv_at hl 0 rfl) ?_
  refine lv_iload_n hx hb dL_law_395 rfl (lv_at hl 3 rfl) ?_
  refine lv_iconst (v := (3 : Int32)) hx hb dL_law_396 (by decide) ?_
  refine lv_iadd hx hb dL_law_397 ?_
  refine va_sld hx hb hX hbl hbA hS hi_3 dL_law_398 ?_
  refine lv_aload_n hx hb dL_law_399 rfl (lv_at hl 0 rfl) ?_
  refine lv_iload_n hx hb dL_law_400 rfl (lv_at hl 3 rfl) ?_
  refine lv_iconst (v := (4 : Int32)) hx hb dL_law_401 (by decide) ?_
  refine lv_iadd hx hb dL_law_402 ?_
  refine va_sld hx hb hX hbl hbA hS hi_4 dL_law_403 ?_
  obtain ⟨q1, eq1⟩ : ∃ z : Int32 × (Nat → Int64) × Int32 × Int32, z = (mf_X0_quotient f u o (xs (Int32.toNatClampNeg (x3 + (1 : Int32)))) (xs (Int32.toNatClampNeg (x3 + (2 : Int32)))) (xs (Int32.toNatClampNeg (x3 + (3 : Int32)))) (xs (Int32.toNatClampNeg (x3 + (4 : Int32))))) := ⟨_, rfl⟩
  refine xj_vi (r := q1) (As := [.int (xs (Int32.toNatClampNeg (x3 + (1 : Int32)))), .int (xs (Int32.toNatClampNeg (x3 + (2 : Int32)))), .int (xs (Int32.toNatClampNeg (x3 + (3 : Int32)))), .int (xs (Int32.toNatClampNeg (x3 + (4 : Int32))))]) (rest := []) (Wd := mw_X0 h0 h_f cA_f) (wr := [(k0, .inr (1, [.ref k_g, .int u, .int o, .int mi, .int xe, .long bi, .int fa, .int cu])), (k_g, .inl (cB_g, 8, .inr (.inl f)))]) ⟨hx, hb, hml, hown, hts⟩ (by rw [eq1]; exact mc_X0_quotient l dC dI h0 h_f cA_f f u o (xs (Int32.toNatClampNeg (x3 + (1 : Int32)))) (xs (Int32.toNatClampNeg (x3 + (2 : Int32)))) (xs (Int32.toNatClampNeg (x3 + (3 : Int32)))) (xs (Int32.toNatClampNeg (x3 + (4 : Int32))))) (cwV 4 hts gLX_quotient rfl rfl rfl (by decide +kernel) ⟨Nat.le_of_ble_eq_true rfl, Nat.le_of_ble_eq_true rfl⟩) hP hK hD hS hA [0, 1] [2, 3] [0] rfl (by decide) rfl (by decide) (by decide) rfl (va_recv hK hP (ci := 0) (q0 := 0) rfl rfl) rfl hl.1 rfl (Nat.le_of_ble_eq_true rfl) dL_law_404 ⟨Nat.le_of_ble_eq_true rfl, Nat.le_of_ble_eq_true rfl⟩ (fun H9 locs9 hP hD hS => ?_)
  have hP : va_P (dC, dI) vwCl [(k0, .inr (1, [.ref k_g, .int u, .int o, .int mi, .int xe, .long bi, .int fa, .int cu])), (k_g, .inl (cB_g, 8, .inr (.inl f))), (h0, .inr (0, [.ref h_f, .int q1.2.2.1, .int q1.2.2.2])), (h_f, .inl (cA_f, 8, .inr (.inl q1.2.1)))] _ := hP
  have hD : va_D (fun q : Nat => s.heap.size ≤ q) [(k0, .inr (1, [.ref k_g, .int u, .int o, .int mi, .int xe, .long bi, .int fa, .int cu])), (k_g, .inl (cB_g, 8, .inr (.inl f))), (h0, .inr (0, [.ref h_f, .int q1.2.2.1, .int q1.2.2.2])), (h_f, .inl (cA_f, 8, .inr (.inl q1.2.1)))] := hD
  refine lv_aload_n hx hb dL_law_407 rfl (lv_at hl 2 rfl) ?_
  refine lv_aload_n hx hb dL_law_408 rfl (lv_at hl 0 rfl) ?_
  refine lv_iload_n hx hb dL_law_409 rfl (lv_at hl 3 rfl) ?_
  refine lv_iconst (v := (1 : Int32)) hx hb dL_law_410 (by decide) ?_
  refine lv_iadd hx hb dL_law_411 ?_
  refine va_sld hx hb hX hbl hbA hS hi_1 dL_law_412 ?_
  refine lv_aload_n hx hb dL_law_413 rfl (lv_at hl 0 rfl) ?_
  refine lv_iload_n hx hb dL_law_414 rfl (lv_at hl 3 rfl) ?_
  refine lv_iconst (v := (2 : Int32)) hx hb dL_law_415 (by decide) ?_
  refine lv_iadd hx hb dL_law_416 ?_
  refine va_sld hx hb hX hbl hbA hS hi_2 dL_law_417 ?_
  refine lv_aload_n hx hb dL_law_418 rfl (lv_at hl 0 rfl) ?_
  refine lv_iload_n hx hb dL_law_419 rfl (lv_at hl 3 rfl) ?_
  refine lv_iconst (v := (3 : Int32)) hx hb dL_law_420 (by decide) ?_
  refine lv_iadd hx hb dL_law_421 ?_
  refine va_sld hx hb hX hbl hbA hS hi_3 dL_law_422 ?_
  refine lv_aload_n hx hb dL_law_423 rfl (lv_at hl 0 rfl) ?_
  refine lv_iload_n hx hb dL_law_424 rfl (lv_at hl 3 rfl) ?_
  refine lv_iconst (v := (4 : Int32)) hx hb dL_law_425 (by decide) ?_
  refine lv_iadd hx hb dL_law_426 ?_
  refine va_sld hx hb hX hbl hbA hS hi_4 dL_law_427 ?_
  obtain ⟨q2, eq2⟩ : ∃ z : Int32 × (Nat → Int64) × Int32 × Int32 × Int32 × Int32 × Int64 × Int32 × Int32, z = (mf_Y_quotient f u o mi xe bi fa cu (xs (Int32.toNatClampNeg (x3 + (1 : Int32)))) (xs (Int32.toNatClampNeg (x3 + (2 : Int32)))) (xs (Int32.toNatClampNeg (x3 + (3 : Int32)))) (xs (Int32.toNatClampNeg (x3 + (4 : Int32))))) := ⟨_, rfl⟩
  refine xj_vi (r := q2) (As := [.int (xs (Int32.toNatClampNeg (x3 + (1 : Int32)))), .int (xs (Int32.toNatClampNeg (x3 + (2 : Int32)))), .int (xs (Int32.toNatClampNeg (x3 + (3 : Int32)))), .int (xs (Int32.toNatClampNeg (x3 + (4 : Int32))))]) (rest := [.int q1.1]) (Wd := mw_Y k0 k_g cB_g) (wr := [(h0, .inr (0, [.ref h_f, .int q1.2.2.1, .int q1.2.2.2])), (h_f, .inl (cA_f, 8, .inr (.inl q1.2.1)))]) ⟨hx, hb, hml, hown, hts⟩ (by rw [eq2]; exact mc_Y_quotient l dC dI k0 k_g cB_g f u o mi xe bi fa cu (xs (Int32.toNatClampNeg (x3 + (1 : Int32)))) (xs (Int32.toNatClampNeg (x3 + (2 : Int32)))) (xs (Int32.toNatClampNeg (x3 + (3 : Int32)))) (xs (Int32.toNatClampNeg (x3 + (4 : Int32))))) (cwV 4 hts gLY_quotient rfl rfl rfl (by decide +kernel) ⟨Nat.le_of_ble_eq_true rfl, Nat.le_of_ble_eq_true rfl⟩) hP hK hD hS hA [0, 1] [2, 3] [1] rfl (by decide) rfl (by decide) (by decide) rfl (va_recv hK hP (ci := 1) (q0 := 0) rfl rfl) rfl hl.1 rfl (Nat.le_of_ble_eq_true rfl) dL_law_428 ⟨Nat.le_of_ble_eq_true rfl, Nat.le_of_ble_eq_true rfl⟩ (fun H9 locs9 hP hD hS => ?_)
  have hP : va_P (dC, dI) vwCl [(h0, .inr (0, [.ref h_f, .int q1.2.2.1, .int q1.2.2.2])), (h_f, .inl (cA_f, 8, .inr (.inl q1.2.1))), (k0, .inr (1, [.ref k_g, .int q2.2.2.1, .int q2.2.2.2.1, .int q2.2.2.2.2.1, .int q2.2.2.2.2.2.1, .long q2.2.2.2.2.2.2.1, .int q2.2.2.2.2.2.2.2.1, .int q2.2.2.2.2.2.2.2.2])), (k_g, .inl (cB_g, 8, .inr (.inl q2.2.1)))] _ := hP
  have hD : va_D (fun q : Nat => s.heap.size ≤ q) [(h0, .inr (0, [.ref h_f, .int q1.2.2.1, .int q1.2.2.2])), (h_f, .inl (cA_f, 8, .inr (.inl q1.2.1))), (k0, .inr (1, [.ref k_g, .int q2.2.2.1, .int q2.2.2.2.1, .int q2.2.2.2.2.1, .int q2.2.2.2.2.2.1, .long q2.2.2.2.2.2.2.1, .int q2.2.2.2.2.2.2.2.1, .int q2.2.2.2.2.2.2.2.2])), (k_g, .inl (cB_g, 8, .inr (.inl q2.2.1)))] := hD
  obtain ⟨hE, hE2⟩ : q1.1 = q2.1 ∧ lx_R q1.2 q2.2 := lx_of (by rw [eq1, eq2]; exact ly_quotient ..) (by rw [eq1]; exact lo_quotient (hu := hu) (ho := ho) ..)
  refine lv_icmp_eq (tgt := 700) hx hb dL_law_431 (by decide) (fun c9 => ?_) (fun c9 => absurd hE c9)
  exact K q1.2 q2.2 hE2 _ _ hP hD hS _ (lv_sub hl [0, 1, 2, 3] rfl)
set_option maxHeartbeats 8000000 in
set_option maxRecDepth 100000 in
theorem lx_case_negative {p : Program} {l : Launch} {e : Env} {s : State} {m : MethodId} {below : List Frame} {meth : Method} {c : Code} {dC : Nat → ClassId} {dI : Nat → Nat → Nat} {b L : Nat} {xs : Nat → Int32} (hL : L ≤ 3072) (C0 : lw_At p s m meth c b L xs) (h0 h_f : Nat) (cA_f : ClassId) (k0 k_g : Nat) (cB_g : ClassId) (hK : va_K (dC, dI) vwCl [(cA_f, .long), (cB_g, .long)] s) (f : Nat → Int64) (u o mi xe : Int32) (bi : Int64) (fa cu : Int32) (hu : u = 0 ∨ u = 1) (ho : o = 0 ∨ o = 1) (i : Nat) (x3 : Int32) (ex3 : x3 = nI i) (hi : i + 5 < L) (K : ∀ (sx : (Nat → Int64) × Int32 × Int32) (sm : (Nat → Int64) × Int32 × Int32 × Int32 × Int32 × Int64 × Int32 × Int32), lx_R sx sm → ∀ (H : Heap) (locs : List Loc), va_P (dC, dI) vwCl (mw_X0 h0 h_f cA_f sx ++ mw_Y k0 k_g cB_g sm) H → va_D (fun q : Nat => s.heap.size ≤ q) (mw_X0 h0 h_f cA_f sx ++ mw_Y k0 k_g cB_g sm) → va_S (fun q : Nat => s.heap.size ≤ q) s.heap H locs → ∀ (ls : Array Slot), lv_has ls 4 [(0, .ref b), (1, .ref h0), (2, .ref k0), (3, .int x3)] → W p l e room_1 s m #[Value.ref b] below meth c H locs 4 27 (lw_Z below #[Value.ref b] s) (F0 m 700 ls [])) (H : Heap) (locs : List Loc) (hP : va_P (dC, dI) vwCl [(h0, .inr (0, [.ref h_f, .int u, .int o])), (h_f, .inl (cA_f, 8, .inr (.inl f))), (k0, .inr (1, [.ref k_g, .int u, .int o, .int mi, .int xe, .long bi, .int fa, .int cu])), (k_g, .inl (cB_g, 8, .inr (.inl f)))] H) (hD : va_D (fun q : Nat => s.heap.size ≤ q) [(h0, .inr (0, [.ref h_f, .int u, .int o])), (h_f, .inl (cA_f, 8, .inr (.inl f))), (k0, .inr (1, [.ref k_g, .int u, .int o, .int mi, .int xe, .long bi, .int fa, .int cu])), (k_g, .inl (cB_g, 8, .inr (.inl f)))]) (hS : va_S (fun q : Nat => s.heap.size ≤ q) s.heap H locs) (ls : Array Slot) (hl : lv_has ls 4 [(0, .ref b), (1, .ref h0), (2, .ref k0), (3, .int x3)]) : W p l e room_1 s m #[Value.ref b] below meth c H locs 4 27 (lw_Z below #[Value.ref b] s) (F0 m 436 ls []) := by
  obtain ⟨hx, hb, hr, hml, hown, hts, hX, hbl, hlocks, hgv⟩ := C0
  have hown : s.vm.findClass RL = some m.cls := hown
  have hA : ∀ q : Nat, s.heap.size ≤ q → (fun q : Nat => s.heap.size ≤ q) q := fun _ h => h
  have hbA : ¬ (fun q : Nat => s.heap.size ≤ q) b := Nat.not_le.mpr hbl
  have hi_1 : vp_in (x3 + (1 : Int32)) L := lx_in (k := 1) ex3 rfl hi (by omega) hL
  have hi_2 : vp_in (x3 + (2 : Int32)) L := lx_in (k := 2) ex3 rfl hi (by omega) hL
  have hi_3 : vp_in (x3 + (3 : Int32)) L := lx_in (k := 3) ex3 rfl hi (by omega) hL
  refine lv_aload_n hx hb dL_law_436 rfl (lv_at hl 1 rfl) ?_
  refine lv_aload_n hx hb dL_law_437 rfl (lv_at hl 0 rfl) ?_
  refine lv_iload_n hx hb dL_law_438 rfl (lv_at hl 3 rfl) ?_
  refine lv_iconst (v := (1 : Int32)) hx hb dL_law_439 (by decide) ?_
  refine lv_iadd hx hb dL_law_440 ?_
  refine va_sld hx hb hX hbl hbA hS hi_1 dL_law_441 ?_
  refine lv_aload_n hx hb dL_law_442 rfl (lv_at hl 0 rfl) ?_
  refine lv_iload_n hx hb dL_law_443 rfl (lv_at hl 3 rfl) ?_
  refine lv_iconst (v := (2 : Int32)) hx hb dL_law_444 (by decide) ?_
  refine lv_iadd hx hb dL_law_445 ?_
  refine va_sld hx hb hX hbl hbA hS hi_2 dL_law_446 ?_
  refine lv_aload_n hx hb dL_law_447 rfl (lv_at hl 0 rfl) ?_
  refine lv_iload_n hx hb dL_law_448 rfl (lv_at hl 3 rfl) ?_
  refine lv_iconst (v := (3 : Int32)) hx hb dL_law_449 (by decide) ?_
  refine lv_iadd hx hb dL_law_450 ?_
  refine va_sld hx hb hX hbl hbA hS hi_3 dL_law_451 ?_
  obtain ⟨q1, eq1⟩ : ∃ z : Int32 × (Nat → Int64) × Int32 × Int32, z = (mf_X0_negative f u o (xs (Int32.toNatClampNeg (x3 + (1 : Int32)))) (xs (Int32.toNatClampNeg (x3 + (2 : Int32)))) (xs (Int32.toNatClampNeg (x3 + (3 : Int32))))) := ⟨_, rfl⟩
  refine xj_vi (r := q1) (As := [.int (xs (Int32.toNatClampNeg (x3 + (1 : Int32)))), .int (xs (Int32.toNatClampNeg (x3 + (2 : Int32)))), .int (xs (Int32.toNatClampNeg (x3 + (3 : Int32))))]) (rest := []) (Wd := mw_X0 h0 h_f cA_f) (wr := [(k0, .inr (1, [.ref k_g, .int u, .int o, .int mi, .int xe, .long bi, .int fa, .int cu])), (k_g, .inl (cB_g, 8, .inr (.inl f)))]) ⟨hx, hb, hml, hown, hts⟩ (by rw [eq1]; exact mc_X0_negative l dC dI h0 h_f cA_f f u o (xs (Int32.toNatClampNeg (x3 + (1 : Int32)))) (xs (Int32.toNatClampNeg (x3 + (2 : Int32)))) (xs (Int32.toNatClampNeg (x3 + (3 : Int32))))) (cwV 3 hts gLX_negative rfl rfl rfl (by decide +kernel) ⟨Nat.le_of_ble_eq_true rfl, Nat.le_of_ble_eq_true rfl⟩) hP hK hD hS hA [0, 1] [2, 3] [0] rfl (by decide) rfl (by decide) (by decide) rfl (va_recv hK hP (ci := 0) (q0 := 0) rfl rfl) rfl hl.1 rfl (Nat.le_of_ble_eq_true rfl) dL_law_452 ⟨Nat.le_of_ble_eq_true rfl, Nat.le_of_ble_eq_true rfl⟩ (fun H9 locs9 hP hD hS => ?_)
  have hP : va_P (dC, dI) vwCl [(k0, .inr (1, [.ref k_g, .int u, .int o, .int mi, .int xe, .long bi, .int fa, .int cu])), (k_g, .inl (cB_g, 8, .inr (.inl f))), (h0, .inr (0, [.ref h_f, .int q1.2.2.1, .int q1.2.2.2])), (h_f, .inl (cA_f, 8, .inr (.inl q1.2.1)))] _ := hP
  have hD : va_D (fun q : Nat => s.heap.size ≤ q) [(k0, .inr (1, [.ref k_g, .int u, .int o, .int mi, .int xe, .long bi, .int fa, .int cu])), (k_g, .inl (cB_g, 8, .inr (.inl f))), (h0, .inr (0, [.ref h_f, .int q1.2.2.1, .int q1.2.2.2])), (h_f, .inl (cA_f, 8, .inr (.inl q1.2.1)))] := hD
  refine lv_aload_n hx hb dL_law_455 rfl (lv_at hl 2 rfl) ?_
  refine lv_aload_n hx hb dL_law_456 rfl (lv_at hl 0 rfl) ?_
  refine lv_iload_n hx hb dL_law_457 rfl (lv_at hl 3 rfl) ?_
  refine lv_iconst (v := (1 : Int32)) hx hb dL_law_458 (by decide) ?_
  refine lv_iadd hx hb dL_law_459 ?_
  refine va_sld hx hb hX hbl hbA hS hi_1 dL_law_460 ?_
  refine lv_aload_n hx hb dL_law_461 rfl (lv_at hl 0 rfl) ?_
  refine lv_iload_n hx hb dL_law_462 rfl (lv_at hl 3 rfl) ?_
  refine lv_iconst (v := (2 : Int32)) hx hb dL_law_463 (by decide) ?_
  refine lv_iadd hx hb dL_law_464 ?_
  refine va_sld hx hb hX hbl hbA hS hi_2 dL_law_465 ?_
  refine lv_aload_n hx hb dL_law_466 rfl (lv_at hl 0 rfl) ?_
  refine lv_iload_n hx hb dL_law_467 rfl (lv_at hl 3 rfl) ?_
  refine lv_iconst (v := (3 : Int32)) hx hb dL_law_468 (by decide) ?_
  refine lv_iadd hx hb dL_law_469 ?_
  refine va_sld hx hb hX hbl hbA hS hi_3 dL_law_470 ?_
  obtain ⟨q2, eq2⟩ : ∃ z : Int32 × (Nat → Int64) × Int32 × Int32 × Int32 × Int32 × Int64 × Int32 × Int32, z = (mf_Y_negative f u o mi xe bi fa cu (xs (Int32.toNatClampNeg (x3 + (1 : Int32)))) (xs (Int32.toNatClampNeg (x3 + (2 : Int32)))) (xs (Int32.toNatClampNeg (x3 + (3 : Int32))))) := ⟨_, rfl⟩
  refine xj_vi (r := q2) (As := [.int (xs (Int32.toNatClampNeg (x3 + (1 : Int32)))), .int (xs (Int32.toNatClampNeg (x3 + (2 : Int32)))), .int (xs (Int32.toNatClampNeg (x3 + (3 : Int32))))]) (rest := [.int q1.1]) (Wd := mw_Y k0 k_g cB_g) (wr := [(h0, .inr (0, [.ref h_f, .int q1.2.2.1, .int q1.2.2.2])), (h_f, .inl (cA_f, 8, .inr (.inl q1.2.1)))]) ⟨hx, hb, hml, hown, hts⟩ (by rw [eq2]; exact mc_Y_negative l dC dI k0 k_g cB_g f u o mi xe bi fa cu (xs (Int32.toNatClampNeg (x3 + (1 : Int32)))) (xs (Int32.toNatClampNeg (x3 + (2 : Int32)))) (xs (Int32.toNatClampNeg (x3 + (3 : Int32))))) (cwV 3 hts gLY_negative rfl rfl rfl (by decide +kernel) ⟨Nat.le_of_ble_eq_true rfl, Nat.le_of_ble_eq_true rfl⟩) hP hK hD hS hA [0, 1] [2, 3] [1] rfl (by decide) rfl (by decide) (by decide) rfl (va_recv hK hP (ci := 1) (q0 := 0) rfl rfl) rfl hl.1 rfl (Nat.le_of_ble_eq_true rfl) dL_law_471 ⟨Nat.le_of_ble_eq_true rfl, Nat.le_of_ble_eq_true rfl⟩ (fun H9 locs9 hP hD hS => ?_)
  have hP : va_P (dC, dI) vwCl [(h0, .inr (0, [.ref h_f, .int q1.2.2.1, .int q1.2.2.2])), (h_f, .inl (cA_f, 8, .inr (.inl q1.2.1))), (k0, .inr (1, [.ref k_g, .int q2.2.2.1, .int q2.2.2.2.1, .int q2.2.2.2.2.1, .int q2.2.2.2.2.2.1, .long q2.2.2.2.2.2.2.1, .int q2.2.2.2.2.2.2.2.1, .int q2.2.2.2.2.2.2.2.2])), (k_g, .inl (cB_g, 8, .inr (.inl q2.2.1)))] _ := hP
  have hD : va_D (fun q : Nat => s.heap.size ≤ q) [(h0, .inr (0, [.ref h_f, .int q1.2.2.1, .int q1.2.2.2])), (h_f, .inl (cA_f, 8, .inr (.inl q1.2.1))), (k0, .inr (1, [.ref k_g, .int q2.2.2.1, .int q2.2.2.2.1, .int q2.2.2.2.2.1, .int q2.2.2.2.2.2.1, .long q2.2.2.2.2.2.2.1, .int q2.2.2.2.2.2.2.2.1, .int q2.2.2.2.2.2.2.2.2])), (k_g, .inl (cB_g, 8, .inr (.inl q2.2.1)))] := hD
  obtain ⟨hE, hE2⟩ : q1.1 = q2.1 ∧ lx_R q1.2 q2.2 := lx_of (by rw [eq1, eq2]; exact ly_negative ..) (by rw [eq1]; exact lo_negative (hu := hu) (ho := ho) ..)
  refine lv_icmp_eq (tgt := 700) hx hb dL_law_474 (by decide) (fun c9 => ?_) (fun c9 => absurd hE c9)
  exact K q1.2 q2.2 hE2 _ _ hP hD hS _ (lv_sub hl [0, 1, 2, 3] rfl)
set_option maxHeartbeats 8000000 in
set_option maxRecDepth 100000 in
theorem lx_case_compare {p : Program} {l : Launch} {e : Env} {s : State} {m : MethodId} {below : List Frame} {meth : Method} {c : Code} {dC : Nat → ClassId} {dI : Nat → Nat → Nat} {b L : Nat} {xs : Nat → Int32} (hL : L ≤ 3072) (C0 : lw_At p s m meth c b L xs) (h0 h_f : Nat) (cA_f : ClassId) (k0 k_g : Nat) (cB_g : ClassId) (hK : va_K (dC, dI) vwCl [(cA_f, .long), (cB_g, .long)] s) (f : Nat → Int64) (u o mi xe : Int32) (bi : Int64) (fa cu : Int32) (hu : u = 0 ∨ u = 1) (ho : o = 0 ∨ o = 1) (i : Nat) (x3 : Int32) (ex3 : x3 = nI i) (hi : i + 5 < L) (K : ∀ (sx : (Nat → Int64) × Int32 × Int32) (sm : (Nat → Int64) × Int32 × Int32 × Int32 × Int32 × Int64 × Int32 × Int32), lx_R sx sm → ∀ (H : Heap) (locs : List Loc), va_P (dC, dI) vwCl (mw_X0 h0 h_f cA_f sx ++ mw_Y k0 k_g cB_g sm) H → va_D (fun q : Nat => s.heap.size ≤ q) (mw_X0 h0 h_f cA_f sx ++ mw_Y k0 k_g cB_g sm) → va_S (fun q : Nat => s.heap.size ≤ q) s.heap H locs → ∀ (ls : Array Slot), lv_has ls 4 [(0, .ref b), (1, .ref h0), (2, .ref k0), (3, .int x3)] → W p l e room_1 s m #[Value.ref b] below meth c H locs 4 27 (lw_Z below #[Value.ref b] s) (F0 m 700 ls [])) (H : Heap) (locs : List Loc) (hP : va_P (dC, dI) vwCl [(h0, .inr (0, [.ref h_f, .int u, .int o])), (h_f, .inl (cA_f, 8, .inr (.inl f))), (k0, .inr (1, [.ref k_g, .int u, .int o, .int mi, .int xe, .long bi, .int fa, .int cu])), (k_g, .inl (cB_g, 8, .inr (.inl f)))] H) (hD : va_D (fun q : Nat => s.heap.size ≤ q) [(h0, .inr (0, [.ref h_f, .int u, .int o])), (h_f, .inl (cA_f, 8, .inr (.inl f))), (k0, .inr (1, [.ref k_g, .int u, .int o, .int mi, .int xe, .long bi, .int fa, .int cu])), (k_g, .inl (cB_g, 8, .inr (.inl f)))]) (hS : va_S (fun q : Nat => s.heap.size ≤ q) s.heap H locs) (ls : Array Slot) (hl : lv_has ls 4 [(0, .ref b), (1, .ref h0), (2, .ref k0), (3, .int x3)]) : W p l e room_1 s m #[Value.ref b] below meth c H locs 4 27 (lw_Z below #[Value.ref b] s) (F0 m 479 ls []) := by
  obtain ⟨hx, hb, hr, hml, hown, hts, hX, hbl, hlocks, hgv⟩ := C0
  have hown : s.vm.findClass RL = some m.cls := hown
  have hA : ∀ q : Nat, s.heap.size ≤ q → (fun q : Nat => s.heap.size ≤ q) q := fun _ h => h
  have hbA : ¬ (fun q : Nat => s.heap.size ≤ q) b := Nat.not_le.mpr hbl
  have hi_1 : vp_in (x3 + (1 : Int32)) L := lx_in (k := 1) ex3 rfl hi (by omega) hL
  have hi_2 : vp_in (x3 + (2 : Int32)) L := lx_in (k := 2) ex3 rfl hi (by omega) hL
  have hi_3 : vp_in (x3 + (3 : Int32)) L := lx_in (k := 3) ex3 rfl hi (by omega) hL
  refine lv_aload_n hx hb dL_law_479 rfl (lv_at hl 1 rfl) ?_
  refine lv_aload_n hx hb dL_law_480 rfl (lv_at hl 0 rfl) ?_
  refine lv_iload_n hx hb dL_law_481 rfl (lv_at hl 3 rfl) ?_
  refine lv_iconst (v := (1 : Int32)) hx hb dL_law_482 (by decide) ?_
  refine lv_iadd hx hb dL_law_483 ?_
  refine va_sld hx hb hX hbl hbA hS hi_1 dL_law_484 ?_
  refine lv_aload_n hx hb dL_law_485 rfl (lv_at hl 0 rfl) ?_
  refine lv_iload_n hx hb dL_law_486 rfl (lv_at hl 3 rfl) ?_
  refine lv_iconst (v := (2 : Int32)) hx hb dL_law_487 (by decide) ?_
  refine lv_iadd hx hb dL_law_488 ?_
  refine va_sld hx hb hX hbl hbA hS hi_2 dL_law_489 ?_
  refine lv_aload_n hx hb dL_law_490 rfl (lv_at hl 0 rfl) ?_
  refine lv_iload_n hx hb dL_law_491 rfl (lv_at hl 3 rfl) ?_
  refine lv_iconst (v := (3 : Int32)) hx hb dL_law_492 (by decide) ?_
  refine lv_iadd hx hb dL_law_493 ?_
  refine va_sld hx hb hX hbl hbA hS hi_3 dL_law_494 ?_
  refine xj_vi (As := [.int (xs (Int32.toNatClampNeg (x3 + (1 : Int32)))), .int (xs (Int32.toNatClampNeg (x3 + (2 : Int32)))), .int (xs (Int32.toNatClampNeg (x3 + (3 : Int32))))]) (rest := []) (Wd := mw_X0 h0 h_f cA_f) (wr := [(k0, .inr (1, [.ref k_g, .int u, .int o, .int mi, .int xe, .long bi, .int fa, .int cu])), (k_g, .inl (cB_g, 8, .inr (.inl f)))]) ⟨hx, hb, hml, hown, hts⟩ (mc_X0_compare l dC dI h0 h_f cA_f f u o (xs (Int32.toNatClampNeg (x3 + (1 : Int32)))) (xs (Int32.toNatClampNeg (x3 + (2 : Int32)))) (xs (Int32.toNatClampNeg (x3 + (3 : Int32))))) (cwV 3 hts gLX_compare rfl rfl rfl (by decide +kernel) ⟨Nat.le_of_ble_eq_true rfl, Nat.le_of_ble_eq_true rfl⟩) hP hK hD hS hA [0, 1] [2, 3] [0] rfl (by decide) rfl (by decide) (by decide) rfl (va_recv hK hP (ci := 0) (q0 := 0) rfl rfl) rfl hl.1 rfl (Nat.le_of_ble_eq_true rfl) dL_law_495 ⟨Nat.le_of_ble_eq_true rfl, Nat.le_of_ble_eq_true rfl⟩ (fun H9 locs9 hP hD hS => ?_)
  have hP : va_P (dC, dI) vwCl [(k0, .inr (1, [.ref k_g, .int u, .int o, .int mi, .int xe, .long bi, .int fa, .int cu])), (k_g, .inl (cB_g, 8, .inr (.inl f))), (h0, .inr (0, [.ref h_f, .int u, .int o])), (h_f, .inl (cA_f, 8, .inr (.inl f)))] _ := hP
  have hD : va_D (fun q : Nat => s.heap.size ≤ q) [(k0, .inr (1, [.ref k_g, .int u, .int o, .int mi, .int xe, .long bi, .int fa, .int cu])), (k_g, .inl (cB_g, 8, .inr (.inl f))), (h0, .inr (0, [.ref h_f, .int u, .int o])), (h_f, .inl (cA_f, 8, .inr (.inl f)))] := hD
  refine lv_topi (fun y1 ey1 => ?_)
  refine lv_aload_n hx hb dL_law_498 rfl (lv_at hl 2 rfl) ?_
  refine lv_aload_n hx hb dL_law_499 rfl (lv_at hl 0 rfl) ?_
  refine lv_iload_n hx hb dL_law_500 rfl (lv_at hl 3 rfl) ?_
  refine lv_iconst (v := (1 : Int32)) hx hb dL_law_501 (by decide) ?_
  refine lv_iadd hx hb dL_law_502 ?_
  refine va_sld hx hb hX hbl hbA hS hi_1 dL_law_503 ?_
  refine lv_aload_n hx hb dL_law_504 rfl (lv_at hl 0 rfl) ?_
  refine lv_iload_n hx hb dL_law_505 rfl (lv_at hl 3 rfl) ?_
  refine lv_iconst (v := (2 : Int32)) hx hb dL_law_506 (by decide) ?_
  refine lv_iadd hx hb dL_law_507 ?_
  refine va_sld hx hb hX hbl hbA hS hi_2 dL_law_508 ?_
  refine lv_aload_n hx hb dL_law_509 rfl (lv_at hl 0 rfl) ?_
  refine lv_iload_n hx hb dL_law_510 rfl (lv_at hl 3 rfl) ?_
  refine lv_iconst (v := (3 : Int32)) hx hb dL_law_511 (by decide) ?_
  refine lv_iadd hx hb dL_law_512 ?_
  refine va_sld hx hb hX hbl hbA hS hi_3 dL_law_513 ?_
  obtain ⟨q2, eq2⟩ : ∃ z : Int32 × (Nat → Int64) × Int32 × Int32 × Int32 × Int32 × Int64 × Int32 × Int32, z = (mf_Y_compare f u o mi xe bi fa cu (xs (Int32.toNatClampNeg (x3 + (1 : Int32)))) (xs (Int32.toNatClampNeg (x3 + (2 : Int32)))) (xs (Int32.toNatClampNeg (x3 + (3 : Int32))))) := ⟨_, rfl⟩
  refine xj_vi (r := q2) (As := [.int (xs (Int32.toNatClampNeg (x3 + (1 : Int32)))), .int (xs (Int32.toNatClampNeg (x3 + (2 : Int32)))), .int (xs (Int32.toNatClampNeg (x3 + (3 : Int32))))]) (rest := [.int y1]) (Wd := mw_Y k0 k_g cB_g) (wr := [(h0, .inr (0, [.ref h_f, .int u, .int o])), (h_f, .inl (cA_f, 8, .inr (.inl f)))]) ⟨hx, hb, hml, hown, hts⟩ (by rw [eq2]; exact mc_Y_compare l dC dI k0 k_g cB_g f u o mi xe bi fa cu (xs (Int32.toNatClampNeg (x3 + (1 : Int32)))) (xs (Int32.toNatClampNeg (x3 + (2 : Int32)))) (xs (Int32.toNatClampNeg (x3 + (3 : Int32))))) (cwV 3 hts gLY_compare rfl rfl rfl (by decide +kernel) ⟨Nat.le_of_ble_eq_true rfl, Nat.le_of_ble_eq_true rfl⟩) hP hK hD hS hA [0, 1] [2, 3] [1] rfl (by decide) rfl (by decide) (by decide) rfl (va_recv hK hP (ci := 1) (q0 := 0) rfl rfl) rfl hl.1 rfl (Nat.le_of_ble_eq_true rfl) dL_law_514 ⟨Nat.le_of_ble_eq_true rfl, Nat.le_of_ble_eq_true rfl⟩ (fun H9 locs9 hP hD hS => ?_)
  have hP : va_P (dC, dI) vwCl [(h0, .inr (0, [.ref h_f, .int u, .int o])), (h_f, .inl (cA_f, 8, .inr (.inl f))), (k0, .inr (1, [.ref k_g, .int q2.2.2.1, .int q2.2.2.2.1, .int q2.2.2.2.2.1, .int q2.2.2.2.2.2.1, .long q2.2.2.2.2.2.2.1, .int q2.2.2.2.2.2.2.2.1, .int q2.2.2.2.2.2.2.2.2])), (k_g, .inl (cB_g, 8, .inr (.inl q2.2.1)))] _ := hP
  have hD : va_D (fun q : Nat => s.heap.size ≤ q) [(h0, .inr (0, [.ref h_f, .int u, .int o])), (h_f, .inl (cA_f, 8, .inr (.inl f))), (k0, .inr (1, [.ref k_g, .int q2.2.2.1, .int q2.2.2.2.1, .int q2.2.2.2.2.1, .int q2.2.2.2.2.2.1, .long q2.2.2.2.2.2.2.1, .int q2.2.2.2.2.2.2.2.1, .int q2.2.2.2.2.2.2.2.2])), (k_g, .inl (cB_g, 8, .inr (.inl q2.2.1)))] := hD
  obtain ⟨hE, hE2⟩ : y1 = q2.1 ∧ lx_R (f, u, o) q2.2 := lx_of (qx := (y1, (f, u, o))) (by rw [ey1, eq2]; exact ly_compare ..) ⟨hu, ho⟩
  refine lv_icmp_eq (tgt := 700) hx hb dL_law_517 (by decide) (fun c9 => ?_) (fun c9 => absurd hE c9)
  exact K (f, u, o) q2.2 hE2 _ _ hP hD hS _ (lv_sub hl [0, 1, 2, 3] rfl)
set_option maxHeartbeats 8000000 in
set_option maxRecDepth 100000 in
theorem lx_case_change {p : Program} {l : Launch} {e : Env} {s : State} {m : MethodId} {below : List Frame} {meth : Method} {c : Code} {dC : Nat → ClassId} {dI : Nat → Nat → Nat} {b L : Nat} {xs : Nat → Int32} (hL : L ≤ 3072) (C0 : lw_At p s m meth c b L xs) (h0 h_f : Nat) (cA_f : ClassId) (k0 k_g : Nat) (cB_g : ClassId) (hK : va_K (dC, dI) vwCl [(cA_f, .long), (cB_g, .long)] s) (f : Nat → Int64) (u o mi xe : Int32) (bi : Int64) (fa cu : Int32) (hu : u = 0 ∨ u = 1) (ho : o = 0 ∨ o = 1) (i : Nat) (x3 : Int32) (ex3 : x3 = nI i) (hi : i + 5 < L) (K : ∀ (sx : (Nat → Int64) × Int32 × Int32) (sm : (Nat → Int64) × Int32 × Int32 × Int32 × Int32 × Int64 × Int32 × Int32), lx_R sx sm → ∀ (H : Heap) (locs : List Loc), va_P (dC, dI) vwCl (mw_X0 h0 h_f cA_f sx ++ mw_Y k0 k_g cB_g sm) H → va_D (fun q : Nat => s.heap.size ≤ q) (mw_X0 h0 h_f cA_f sx ++ mw_Y k0 k_g cB_g sm) → va_S (fun q : Nat => s.heap.size ≤ q) s.heap H locs → ∀ (ls : Array Slot), lv_has ls 4 [(0, .ref b), (1, .ref h0), (2, .ref k0), (3, .int x3)] → W p l e room_1 s m #[Value.ref b] below meth c H locs 4 27 (lw_Z below #[Value.ref b] s) (F0 m 700 ls [])) (H : Heap) (locs : List Loc) (hP : va_P (dC, dI) vwCl [(h0, .inr (0, [.ref h_f, .int u, .int o])), (h_f, .inl (cA_f, 8, .inr (.inl f))), (k0, .inr (1, [.ref k_g, .int u, .int o, .int mi, .int xe, .long bi, .int fa, .int cu])), (k_g, .inl (cB_g, 8, .inr (.inl f)))] H) (hD : va_D (fun q : Nat => s.heap.size ≤ q) [(h0, .inr (0, [.ref h_f, .int u, .int o])), (h_f, .inl (cA_f, 8, .inr (.inl f))), (k0, .inr (1, [.ref k_g, .int u, .int o, .int mi, .int xe, .long bi, .int fa, .int cu])), (k_g, .inl (cB_g, 8, .inr (.inl f)))]) (hS : va_S (fun q : Nat => s.heap.size ≤ q) s.heap H locs) (ls : Array Slot) (hl : lv_has ls 4 [(0, .ref b), (1, .ref h0), (2, .ref k0), (3, .int x3)]) : W p l e room_1 s m #[Value.ref b] below meth c H locs 4 27 (lw_Z below #[Value.ref b] s) (F0 m 522 ls []) := by
  obtain ⟨hx, hb, hr, hml, hown, hts, hX, hbl, hlocks, hgv⟩ := C0
  have hown : s.vm.findClass RL = some m.cls := hown
  have hA : ∀ q : Nat, s.heap.size ≤ q → (fun q : Nat => s.heap.size ≤ q) q := fun _ h => h
  have hbA : ¬ (fun q : Nat => s.heap.size ≤ q) b := Nat.not_le.mpr hbl
  have hi_1 : vp_in (x3 + (1 : Int32)) L := lx_in (k := 1) ex3 rfl hi (by omega) hL
  have hi_2 : vp_in (x3 + (2 : Int32)) L := lx_in (k := 2) ex3 rfl hi (by omega) hL
  have hi_3 : vp_in (x3 + (3 : Int32)) L := lx_in (k := 3) ex3 rfl hi (by omega) hL
  refine lv_aload_n hx hb dL_law_522 rfl (lv_at hl 1 rfl) ?_
  refine lv_aload_n hx hb dL_law_523 rfl (lv_at hl 0 rfl) ?_
  refine lv_iload_n hx hb dL_law_524 rfl (lv_at hl 3 rfl) ?_
  refine lv_iconst (v := (1 : Int32)) hx hb dL_law_525 (by decide) ?_
  refine lv_iadd hx hb dL_law_526 ?_
  refine va_sld hx hb hX hbl hbA hS hi_1 dL_law_527 ?_
  refine lv_aload_n hx hb dL_law_528 rfl (lv_at hl 0 rfl) ?_
  refine lv_iload_n hx hb dL_law_529 rfl (lv_at hl 3 rfl) ?_
  refine lv_iconst (v := (2 : Int32)) hx hb dL_law_530 (by decide) ?_
  refine lv_iadd hx hb dL_law_531 ?_
  refine va_sld hx hb hX hbl hbA hS hi_2 dL_law_532 ?_
  refine lv_aload_n hx hb dL_law_533 rfl (lv_at hl 0 rfl) ?_
  refine lv_iload_n hx hb dL_law_534 rfl (lv_at hl 3 rfl) ?_
  refine lv_iconst (v := (3 : Int32)) hx hb dL_law_535 (by decide) ?_
  refine lv_iadd hx hb dL_law_536 ?_
  refine va_sld hx hb hX hbl hbA hS hi_3 dL_law_537 ?_
  obtain ⟨q1, eq1⟩ : ∃ z : Int32 × (Nat → Int64) × Int32 × Int32, z = (mf_X0_change f u o (xs (Int32.toNatClampNeg (x3 + (1 : Int32)))) (xs (Int32.toNatClampNeg (x3 + (2 : Int32)))) (xs (Int32.toNatClampNeg (x3 + (3 : Int32))))) := ⟨_, rfl⟩
  refine xj_vi (r := q1) (As := [.int (xs (Int32.toNatClampNeg (x3 + (1 : Int32)))), .int (xs (Int32.toNatClampNeg (x3 + (2 : Int32)))), .int (xs (Int32.toNatClampNeg (x3 + (3 : Int32))))]) (rest := []) (Wd := mw_X0 h0 h_f cA_f) (wr := [(k0, .inr (1, [.ref k_g, .int u, .int o, .int mi, .int xe, .long bi, .int fa, .int cu])), (k_g, .inl (cB_g, 8, .inr (.inl f)))]) ⟨hx, hb, hml, hown, hts⟩ (by rw [eq1]; exact mc_X0_change l dC dI h0 h_f cA_f f u o (xs (Int32.toNatClampNeg (x3 + (1 : Int32)))) (xs (Int32.toNatClampNeg (x3 + (2 : Int32)))) (xs (Int32.toNatClampNeg (x3 + (3 : Int32))))) (cwV 3 hts gLX_change rfl rfl rfl (by decide +kernel) ⟨Nat.le_of_ble_eq_true rfl, Nat.le_of_ble_eq_true rfl⟩) hP hK hD hS hA [0, 1] [2, 3] [0] rfl (by decide) rfl (by decide) (by decide) rfl (va_recv hK hP (ci := 0) (q0 := 0) rfl rfl) rfl hl.1 rfl (Nat.le_of_ble_eq_true rfl) dL_law_538 ⟨Nat.le_of_ble_eq_true rfl, Nat.le_of_ble_eq_true rfl⟩ (fun H9 locs9 hP hD hS => ?_)
  have hP : va_P (dC, dI) vwCl [(k0, .inr (1, [.ref k_g, .int u, .int o, .int mi, .int xe, .long bi, .int fa, .int cu])), (k_g, .inl (cB_g, 8, .inr (.inl f))), (h0, .inr (0, [.ref h_f, .int q1.2.2.1, .int q1.2.2.2])), (h_f, .inl (cA_f, 8, .inr (.inl q1.2.1)))] _ := hP
  have hD : va_D (fun q : Nat => s.heap.size ≤ q) [(k0, .inr (1, [.ref k_g, .int u, .int o, .int mi, .int xe, .long bi, .int fa, .int cu])), (k_g, .inl (cB_g, 8, .inr (.inl f))), (h0, .inr (0, [.ref h_f, .int q1.2.2.1, .int q1.2.2.2])), (h_f, .inl (cA_f, 8, .inr (.inl q1.2.1)))] := hD
  refine lv_aload_n hx hb dL_law_541 rfl (lv_at hl 2 rfl) ?_
  refine lv_aload_n hx hb dL_law_542 rfl (lv_at hl 0 rfl) ?_
  refine lv_iload_n hx hb dL_law_543 rfl (lv_at hl 3 rfl) ?_
  refine lv_iconst (v := (1 : Int32)) hx hb dL_law_544 (by decide) ?_
  refine lv_iadd hx hb dL_law_545 ?_
  refine va_sld hx hb hX hbl hbA hS hi_1 dL_law_546 ?_
  refine lv_aload_n hx hb dL_law_547 rfl (lv_at hl 0 rfl) ?_
  refine lv_iload_n hx hb dL_law_548 rfl (lv_at hl 3 rfl) ?_
  refine lv_iconst (v := (2 : Int32)) hx hb dL_law_549 (by decide) ?_
  refine lv_iadd hx hb dL_law_550 ?_
  refine va_sld hx hb hX hbl hbA hS hi_2 dL_law_551 ?_
  refine lv_aload_n hx hb dL_law_552 rfl (lv_at hl 0 rfl) ?_
  refine lv_iload_n hx hb dL_law_553 rfl (lv_at hl 3 rfl) ?_
  refine lv_iconst (v := (3 : Int32)) hx hb dL_law_554 (by decide) ?_
  refine lv_iadd hx hb dL_law_555 ?_
  refine va_sld hx hb hX hbl hbA hS hi_3 dL_law_556 ?_
  obtain ⟨q2, eq2⟩ : ∃ z : Int32 × (Nat → Int64) × Int32 × Int32 × Int32 × Int32 × Int64 × Int32 × Int32, z = (mf_Y_change f u o mi xe bi fa cu (xs (Int32.toNatClampNeg (x3 + (1 : Int32)))) (xs (Int32.toNatClampNeg (x3 + (2 : Int32)))) (xs (Int32.toNatClampNeg (x3 + (3 : Int32))))) := ⟨_, rfl⟩
  refine xj_vi (r := q2) (As := [.int (xs (Int32.toNatClampNeg (x3 + (1 : Int32)))), .int (xs (Int32.toNatClampNeg (x3 + (2 : Int32)))), .int (xs (Int32.toNatClampNeg (x3 + (3 : Int32))))]) (rest := [.int q1.1]) (Wd := mw_Y k0 k_g cB_g) (wr := [(h0, .inr (0, [.ref h_f, .int q1.2.2.1, .int q1.2.2.2])), (h_f, .inl (cA_f, 8, .inr (.inl q1.2.1)))]) ⟨hx, hb, hml, hown, hts⟩ (by rw [eq2]; exact mc_Y_change l dC dI k0 k_g cB_g f u o mi xe bi fa cu (xs (Int32.toNatClampNeg (x3 + (1 : Int32)))) (xs (Int32.toNatClampNeg (x3 + (2 : Int32)))) (xs (Int32.toNatClampNeg (x3 + (3 : Int32))))) (cwV 3 hts gLY_change rfl rfl rfl (by decide +kernel) ⟨Nat.le_of_ble_eq_true rfl, Nat.le_of_ble_eq_true rfl⟩) hP hK hD hS hA [0, 1] [2, 3] [1] rfl (by decide) rfl (by decide) (by decide) rfl (va_recv hK hP (ci := 1) (q0 := 0) rfl rfl) rfl hl.1 rfl (Nat.le_of_ble_eq_true rfl) dL_law_557 ⟨Nat.le_of_ble_eq_true rfl, Nat.le_of_ble_eq_true rfl⟩ (fun H9 locs9 hP hD hS => ?_)
  have hP : va_P (dC, dI) vwCl [(h0, .inr (0, [.ref h_f, .int q1.2.2.1, .int q1.2.2.2])), (h_f, .inl (cA_f, 8, .inr (.inl q1.2.1))), (k0, .inr (1, [.ref k_g, .int q2.2.2.1, .int q2.2.2.2.1, .int q2.2.2.2.2.1, .int q2.2.2.2.2.2.1, .long q2.2.2.2.2.2.2.1, .int q2.2.2.2.2.2.2.2.1, .int q2.2.2.2.2.2.2.2.2])), (k_g, .inl (cB_g, 8, .inr (.inl q2.2.1)))] _ := hP
  have hD : va_D (fun q : Nat => s.heap.size ≤ q) [(h0, .inr (0, [.ref h_f, .int q1.2.2.1, .int q1.2.2.2])), (h_f, .inl (cA_f, 8, .inr (.inl q1.2.1))), (k0, .inr (1, [.ref k_g, .int q2.2.2.1, .int q2.2.2.2.1, .int q2.2.2.2.2.1, .int q2.2.2.2.2.2.1, .long q2.2.2.2.2.2.2.1, .int q2.2.2.2.2.2.2.2.1, .int q2.2.2.2.2.2.2.2.2])), (k_g, .inl (cB_g, 8, .inr (.inl q2.2.1)))] := hD
  obtain ⟨hE, hE2⟩ : q1.1 = q2.1 ∧ lx_R q1.2 q2.2 := lx_of (by rw [eq1, eq2]; exact ly_change ..) (by rw [eq1]; exact lo_change (hu := hu) (ho := ho) ..)
  refine lv_icmp_eq (tgt := 700) hx hb dL_law_560 (by decide) (fun c9 => ?_) (fun c9 => absurd hE c9)
  exact K q1.2 q2.2 hE2 _ _ hP hD hS _ (lv_sub hl [0, 1, 2, 3] rfl)
set_option maxHeartbeats 8000000 in
set_option maxRecDepth 100000 in
theorem lx_case_whole {p : Program} {l : Launch} {e : Env} {s : State} {m : MethodId} {below : List Frame} {meth : Method} {c : Code} {dC : Nat → ClassId} {dI : Nat → Nat → Nat} {b L : Nat} {xs : Nat → Int32} (hL : L ≤ 3072) (C0 : lw_At p s m meth c b L xs) (h0 h_f : Nat) (cA_f : ClassId) (k0 k_g : Nat) (cB_g : ClassId) (hK : va_K (dC, dI) vwCl [(cA_f, .long), (cB_g, .long)] s) (f : Nat → Int64) (u o mi xe : Int32) (bi : Int64) (fa cu : Int32) (hu : u = 0 ∨ u = 1) (ho : o = 0 ∨ o = 1) (i : Nat) (x3 : Int32) (ex3 : x3 = nI i) (hi : i + 5 < L) (K : ∀ (sx : (Nat → Int64) × Int32 × Int32) (sm : (Nat → Int64) × Int32 × Int32 × Int32 × Int32 × Int64 × Int32 × Int32), lx_R sx sm → ∀ (H : Heap) (locs : List Loc), va_P (dC, dI) vwCl (mw_X0 h0 h_f cA_f sx ++ mw_Y k0 k_g cB_g sm) H → va_D (fun q : Nat => s.heap.size ≤ q) (mw_X0 h0 h_f cA_f sx ++ mw_Y k0 k_g cB_g sm) → va_S (fun q : Nat => s.heap.size ≤ q) s.heap H locs → ∀ (ls : Array Slot), lv_has ls 4 [(0, .ref b), (1, .ref h0), (2, .ref k0), (3, .int x3)] → W p l e room_1 s m #[Value.ref b] below meth c H locs 4 27 (lw_Z below #[Value.ref b] s) (F0 m 700 ls [])) (H : Heap) (locs : List Loc) (hP : va_P (dC, dI) vwCl [(h0, .inr (0, [.ref h_f, .int u, .int o])), (h_f, .inl (cA_f, 8, .inr (.inl f))), (k0, .inr (1, [.ref k_g, .int u, .int o, .int mi, .int xe, .long bi, .int fa, .int cu])), (k_g, .inl (cB_g, 8, .inr (.inl f)))] H) (hD : va_D (fun q : Nat => s.heap.size ≤ q) [(h0, .inr (0, [.ref h_f, .int u, .int o])), (h_f, .inl (cA_f, 8, .inr (.inl f))), (k0, .inr (1, [.ref k_g, .int u, .int o, .int mi, .int xe, .long bi, .int fa, .int cu])), (k_g, .inl (cB_g, 8, .inr (.inl f)))]) (hS : va_S (fun q : Nat => s.heap.size ≤ q) s.heap H locs) (ls : Array Slot) (hl : lv_has ls 4 [(0, .ref b), (1, .ref h0), (2, .ref k0), (3, .int x3)]) : W p l e room_1 s m #[Value.ref b] below meth c H locs 4 27 (lw_Z below #[Value.ref b] s) (F0 m 565 ls []) := by
  obtain ⟨hx, hb, hr, hml, hown, hts, hX, hbl, hlocks, hgv⟩ := C0
  have hown : s.vm.findClass RL = some m.cls := hown
  have hA : ∀ q : Nat, s.heap.size ≤ q → (fun q : Nat => s.heap.size ≤ q) q := fun _ h => h
  have hbA : ¬ (fun q : Nat => s.heap.size ≤ q) b := Nat.not_le.mpr hbl
  have hi_1 : vp_in (x3 + (1 : Int32)) L := lx_in (k := 1) ex3 rfl hi (by omega) hL
  have hi_2 : vp_in (x3 + (2 : Int32)) L := lx_in (k := 2) ex3 rfl hi (by omega) hL
  have hi_3 : vp_in (x3 + (3 : Int32)) L := lx_in (k := 3) ex3 rfl hi (by omega) hL
  have hi_4 : vp_in (x3 + (4 : Int32)) L := lx_in (k := 4) ex3 rfl hi (by omega) hL
  have hi_5 : vp_in (x3 + (5 : Int32)) L := lx_in (k := 5) ex3 rfl hi (by omega) hL
  refine lv_aload_n hx hb dL_law_565 rfl (lv_at hl 1 rfl) ?_
  refine lv_aload_n hx hb dL_law_566 rfl (lv_at hl 0 rfl) ?_
  refine lv_iload_n hx hb dL_law_567 rfl (lv_at hl 3 rfl) ?_
  refine lv_iconst (v := (1 : Int32)) hx hb dL_law_568 (by decide) ?_
  refine lv_iadd hx hb dL_law_569 ?_
  refine va_sld hx hb hX hbl hbA hS hi_1 dL_law_570 ?_
  refine lv_aload_n hx hb dL_law_571 rfl (lv_at hl 0 rfl) ?_
  refine lv_iload_n hx hb dL_law_572 rfl (lv_at hl 3 rfl) ?_
  refine lv_iconst (v := (2 : Int32)) hx hb dL_law_573 (by decide) ?_
  refine lv_iadd hx hb dL_law_574 ?_
  refine va_sld hx hb hX hbl hbA hS hi_2 dL_law_575 ?_
  refine lv_aload_n hx hb dL_law_576 rfl (lv_at hl 0 rfl) ?_
  refine lv_iload_n hx hb dL_law_577 rfl (lv_at hl 3 rfl) ?_
  refine lv_iconst (v := (3 : Int32)) hx hb dL_law_578 (by decide) ?_
  refine lv_iadd hx hb dL_law_579 ?_
  refine va_sld hx hb hX hbl hbA hS hi_3 dL_law_580 ?_
  refine lv_aload_n hx hb dL_law_581 rfl (lv_at hl 0 rfl) ?_
  refine lv_iload_n hx hb dL_law_582 rfl (lv_at hl 3 rfl) ?_
  refine lv_iconst (v := (4 : Int32)) hx hb dL_law_583 (by decide) ?_
  refine lv_iadd hx hb dL_law_584 ?_
  refine va_sld hx hb hX hbl hbA hS hi_4 dL_law_585 ?_
  obtain ⟨y2, ey2⟩ : ∃ z : Int32, z = (if (xs (Int32.toNatClampNeg (x3 + (4 : Int32)))) = 0 then (0 : Int32) else (1 : Int32)) := ⟨_, rfl⟩
  refine xj_join 594 (fun ls' st' => lv_has ls' 4 [(0, .ref b), (1, .ref h0), (2, .ref k0), (3, .int x3)] ∧ st' = [.int y2, .int (xs (Int32.toNatClampNeg (x3 + (3 : Int32)))), .int (xs (Int32.toNatClampNeg (x3 + (2 : Int32)))), .int (xs (Int32.toNatClampNeg (x3 + (1 : Int32)))), .ref h0]) ?_ (fun K594 => ?_)
  · rintro ls st ⟨hl, rfl⟩
    refine lv_aload_n hx hb dL_law_594 rfl (lv_at hl 0 rfl) ?_
    refine lv_iload_n hx hb dL_law_595 rfl (lv_at hl 3 rfl) ?_
    refine lv_iconst (v := (5 : Int32)) hx hb dL_law_596 (by decide) ?_
    refine lv_iadd hx hb dL_law_597 ?_
    refine va_sld hx hb hX hbl hbA hS hi_5 dL_law_598 ?_
    obtain ⟨q3, eq3⟩ : ∃ z : Int32 × (Nat → Int64) × Int32 × Int32, z = (mf_X0_whole f u o (xs (Int32.toNatClampNeg (x3 + (1 : Int32)))) (xs (Int32.toNatClampNeg (x3 + (2 : Int32)))) (xs (Int32.toNatClampNeg (x3 + (3 : Int32)))) y2 (xs (Int32.toNatClampNeg (x3 + (5 : Int32))))) := ⟨_, rfl⟩
    refine xj_vi (r := q3) (As := [.int (xs (Int32.toNatClampNeg (x3 + (1 : Int32)))), .int (xs (Int32.toNatClampNeg (x3 + (2 : Int32)))), .int (xs (Int32.toNatClampNeg (x3 + (3 : Int32)))), .int y2, .int (xs (Int32.toNatClampNeg (x3 + (5 : Int32))))]) (rest := []) (Wd := mw_X0 h0 h_f cA_f) (wr := [(k0, .inr (1, [.ref k_g, .int u, .int o, .int mi, .int xe, .long bi, .int fa, .int cu])), (k_g, .inl (cB_g, 8, .inr (.inl f)))]) ⟨hx, hb, hml, hown, hts⟩ (by rw [eq3]; exact mc_X0_whole l dC dI h0 h_f cA_f f u o (xs (Int32.toNatClampNeg (x3 + (1 : Int32)))) (xs (Int32.toNatClampNeg (x3 + (2 : Int32)))) (xs (Int32.toNatClampNeg (x3 + (3 : Int32)))) y2 (xs (Int32.toNatClampNeg (x3 + (5 : Int32))))) (cwV 5 hts gLX_whole rfl rfl rfl (by decide +kernel) ⟨Nat.le_of_ble_eq_true rfl, Nat.le_of_ble_eq_true rfl⟩) hP hK hD hS hA [0, 1] [2, 3] [0] rfl (by decide) rfl (by decide) (by decide) rfl (va_recv hK hP (ci := 0) (q0 := 0) rfl rfl) rfl hl.1 rfl (Nat.le_of_ble_eq_true rfl) dL_law_599 ⟨Nat.le_of_ble_eq_true rfl, Nat.le_of_ble_eq_true rfl⟩ (fun H9 locs9 hP hD hS => ?_)
    have hP : va_P (dC, dI) vwCl [(k0, .inr (1, [.ref k_g, .int u, .int o, .int mi, .int xe, .long bi, .int fa, .int cu])), (k_g, .inl (cB_g, 8, .inr (.inl f))), (h0, .inr (0, [.ref h_f, .int q3.2.2.1, .int q3.2.2.2])), (h_f, .inl (cA_f, 8, .inr (.inl q3.2.1)))] _ := hP
    have hD : va_D (fun q : Nat => s.heap.size ≤ q) [(k0, .inr (1, [.ref k_g, .int u, .int o, .int mi, .int xe, .long bi, .int fa, .int cu])), (k_g, .inl (cB_g, 8, .inr (.inl f))), (h0, .inr (0, [.ref h_f, .int q3.2.2.1, .int q3.2.2.2])), (h_f, .inl (cA_f, 8, .inr (.inl q3.2.1)))] := hD
    refine lv_aload_n hx hb dL_law_602 rfl (lv_at hl 2 rfl) ?_
    refine lv_aload_n hx hb dL_law_603 rfl (lv_at hl 0 rfl) ?_
    refine lv_iload_n hx hb dL_law_604 rfl (lv_at hl 3 rfl) ?_
    refine lv_iconst (v := (1 : Int32)) hx hb dL_law_605 (by decide) ?_
    refine lv_iadd hx hb dL_law_606 ?_
    refine va_sld hx hb hX hbl hbA hS hi_1 dL_law_607 ?_
    refine lv_aload_n hx hb dL_law_608 rfl (lv_at hl 0 rfl) ?_
    refine lv_iload_n hx hb dL_law_609 rfl (lv_at hl 3 rfl) ?_
    refine lv_iconst (v := (2 : Int32)) hx hb dL_law_610 (by decide) ?_
    refine lv_iadd hx hb dL_law_611 ?_
    refine va_sld hx hb hX hbl hbA hS hi_2 dL_law_612 ?_
    refine lv_aload_n hx hb dL_law_613 rfl (lv_at hl 0 rfl) ?_
    refine lv_iload_n hx hb dL_law_614 rfl (lv_at hl 3 rfl) ?_
    refine lv_iconst (v := (3 : Int32)) hx hb dL_law_615 (by decide) ?_
    refine lv_iadd hx hb dL_law_616 ?_
    refine va_sld hx hb hX hbl hbA hS hi_3 dL_law_617 ?_
    refine lv_aload_n hx hb dL_law_618 rfl (lv_at hl 0 rfl) ?_
    refine lv_iload_n hx hb dL_law_619 rfl (lv_at hl 3 rfl) ?_
    refine lv_iconst (v := (4 : Int32)) hx hb dL_law_620 (by decide) ?_
    refine lv_iadd hx hb dL_law_621 ?_
    refine va_sld hx hb hX hbl hbA hS hi_4 dL_law_622 ?_
    obtain ⟨y5, ey5⟩ : ∃ z : Int32, z = (if (xs (Int32.toNatClampNeg (x3 + (4 : Int32)))) = 0 then (0 : Int32) else (1 : Int32)) := ⟨_, rfl⟩
    refine xj_join 631 (fun ls' st' => lv_has ls' 4 [(0, .ref b), (1, .ref h0), (2, .ref k0), (3, .int x3)] ∧ st' = [.int y5, .int (xs (Int32.toNatClampNeg (x3 + (3 : Int32)))), .int (xs (Int32.toNatClampNeg (x3 + (2 : Int32)))), .int (xs (Int32.toNatClampNeg (x3 + (1 : Int32)))), .ref k0, .int q3.1]) ?_ (fun K631 => ?_)
    · rintro ls st ⟨hl, rfl⟩
      refine lv_aload_n hx hb dL_law_631 rfl (lv_at hl 0 rfl) ?_
      refine lv_iload_n hx hb dL_law_632 rfl (lv_at hl 3 rfl) ?_
      refine lv_iconst (v := (5 : Int32)) hx hb dL_law_633 (by decide) ?_
      refine lv_iadd hx hb dL_law_634 ?_
      refine va_sld hx hb hX hbl hbA hS hi_5 dL_law_635 ?_
      obtain ⟨q6, eq6⟩ : ∃ z : Int32 × (Nat → Int64) × Int32 × Int32 × Int32 × Int32 × Int64 × Int32 × Int32, z = (mf_Y_whole f u o mi xe bi fa cu (xs (Int32.toNatClampNeg (x3 + (1 : Int32)))) (xs (Int32.toNatClampNeg (x3 + (2 : Int32)))) (xs (Int32.toNatClampNeg (x3 + (3 : Int32)))) y5 (xs (Int32.toNatClampNeg (x3 + (5 : Int32))))) := ⟨_, rfl⟩
      refine xj_vi (r := q6) (As := [.int (xs (Int32.toNatClampNeg (x3 + (1 : Int32)))), .int (xs (Int32.toNatClampNeg (x3 + (2 : Int32)))), .int (xs (Int32.toNatClampNeg (x3 + (3 : Int32)))), .int y5, .int (xs (Int32.toNatClampNeg (x3 + (5 : Int32))))]) (rest := [.int q3.1]) (Wd := mw_Y k0 k_g cB_g) (wr := [(h0, .inr (0, [.ref h_f, .int q3.2.2.1, .int q3.2.2.2])), (h_f, .inl (cA_f, 8, .inr (.inl q3.2.1)))]) ⟨hx, hb, hml, hown, hts⟩ (by rw [eq6]; exact mc_Y_whole l dC dI k0 k_g cB_g f u o mi xe bi fa cu (xs (Int32.toNatClampNeg (x3 + (1 : Int32)))) (xs (Int32.toNatClampNeg (x3 + (2 : Int32)))) (xs (Int32.toNatClampNeg (x3 + (3 : Int32)))) y5 (xs (Int32.toNatClampNeg (x3 + (5 : Int32))))) (cwV 5 hts gLY_whole rfl rfl rfl (by decide +kernel) ⟨Nat.le_of_ble_eq_true rfl, Nat.le_of_ble_eq_true rfl⟩) hP hK hD hS hA [0, 1] [2, 3] [1] rfl (by decide) rfl (by decide) (by decide) rfl (va_recv hK hP (ci := 1) (q0 := 0) rfl rfl) rfl hl.1 rfl (Nat.le_of_ble_eq_true rfl) dL_law_636 ⟨Nat.le_of_ble_eq_true rfl, Nat.le_of_ble_eq_true rfl⟩ (fun H9 locs9 hP hD hS => ?_)
      have hP : va_P (dC, dI) vwCl [(h0, .inr (0, [.ref h_f, .int q3.2.2.1, .int q3.2.2.2])), (h_f, .inl (cA_f, 8, .inr (.inl q3.2.1))), (k0, .inr (1, [.ref k_g, .int q6.2.2.1, .int q6.2.2.2.1, .int q6.2.2.2.2.1, .int q6.2.2.2.2.2.1, .long q6.2.2.2.2.2.2.1, .int q6.2.2.2.2.2.2.2.1, .int q6.2.2.2.2.2.2.2.2])), (k_g, .inl (cB_g, 8, .inr (.inl q6.2.1)))] _ := hP
      have hD : va_D (fun q : Nat => s.heap.size ≤ q) [(h0, .inr (0, [.ref h_f, .int q3.2.2.1, .int q3.2.2.2])), (h_f, .inl (cA_f, 8, .inr (.inl q3.2.1))), (k0, .inr (1, [.ref k_g, .int q6.2.2.1, .int q6.2.2.2.1, .int q6.2.2.2.2.1, .int q6.2.2.2.2.2.1, .long q6.2.2.2.2.2.2.1, .int q6.2.2.2.2.2.2.2.1, .int q6.2.2.2.2.2.2.2.2])), (k_g, .inl (cB_g, 8, .inr (.inl q6.2.1)))] := hD
      obtain ⟨hE, hE2⟩ : q3.1 = q6.1 ∧ lx_R q3.2 q6.2 := lx_of (by rw [eq3, eq6, show y5 = y2 from by rw [ey2, ey5]]; exact ly_whole ..) (by rw [eq3]; exact lo_whole (hu := hu) (ho := ho) ..)
      refine lv_icmp_eq (tgt := 700) hx hb dL_law_639 (by decide) (fun c9 => ?_) (fun c9 => absurd hE c9)
      exact K q3.2 q6.2 hE2 _ _ hP hD hS _ (lv_sub hl [0, 1, 2, 3] rfl)
    · refine lv_if_eq (tgt := 630) hx hb dL_law_623 (by decide) (fun c4 => ?_) (fun c4 => ?_)
      · replace ey5 := xj_t ey5 c4
        refine lv_iconst (v := (0 : Int32)) hx hb dL_law_630 (by decide) ?_
        subst ey5
        exact K631 _ _ ⟨lv_sub hl [0, 1, 2, 3] rfl, rfl⟩
      · replace ey5 := xj_f ey5 c4
        refine lv_iconst (v := (1 : Int32)) hx hb dL_law_626 (by decide) ?_
        refine lv_goto (tgt := 631) hx hb dL_law_627 (by decide) ?_
        subst ey5
        exact K631 _ _ ⟨lv_sub hl [0, 1, 2, 3] rfl, rfl⟩
  · refine lv_if_eq (tgt := 593) hx hb dL_law_586 (by decide) (fun c1 => ?_) (fun c1 => ?_)
    · replace ey2 := xj_t ey2 c1
      refine lv_iconst (v := (0 : Int32)) hx hb dL_law_593 (by decide) ?_
      subst ey2
      exact K594 _ _ ⟨lv_sub hl [0, 1, 2, 3] rfl, rfl⟩
    · replace ey2 := xj_f ey2 c1
      refine lv_iconst (v := (1 : Int32)) hx hb dL_law_589 (by decide) ?_
      refine lv_goto (tgt := 594) hx hb dL_law_590 (by decide) ?_
      subst ey2
      exact K594 _ _ ⟨lv_sub hl [0, 1, 2, 3] rfl, rfl⟩
set_option maxHeartbeats 8000000 in
set_option maxRecDepth 100000 in
theorem lx_case_number {p : Program} {l : Launch} {e : Env} {s : State} {m : MethodId} {below : List Frame} {meth : Method} {c : Code} {dC : Nat → ClassId} {dI : Nat → Nat → Nat} {b L : Nat} {xs : Nat → Int32} (hL : L ≤ 3072) (C0 : lw_At p s m meth c b L xs) (h0 h_f : Nat) (cA_f : ClassId) (k0 k_g : Nat) (cB_g : ClassId) (hK : va_K (dC, dI) vwCl [(cA_f, .long), (cB_g, .long)] s) (f : Nat → Int64) (u o mi xe : Int32) (bi : Int64) (fa cu : Int32) (hu : u = 0 ∨ u = 1) (ho : o = 0 ∨ o = 1) (i : Nat) (x3 : Int32) (ex3 : x3 = nI i) (hi : i + 5 < L) (K : ∀ (sx : (Nat → Int64) × Int32 × Int32) (sm : (Nat → Int64) × Int32 × Int32 × Int32 × Int32 × Int64 × Int32 × Int32), lx_R sx sm → ∀ (H : Heap) (locs : List Loc), va_P (dC, dI) vwCl (mw_X0 h0 h_f cA_f sx ++ mw_Y k0 k_g cB_g sm) H → va_D (fun q : Nat => s.heap.size ≤ q) (mw_X0 h0 h_f cA_f sx ++ mw_Y k0 k_g cB_g sm) → va_S (fun q : Nat => s.heap.size ≤ q) s.heap H locs → ∀ (ls : Array Slot), lv_has ls 4 [(0, .ref b), (1, .ref h0), (2, .ref k0), (3, .int x3)] → W p l e room_1 s m #[Value.ref b] below meth c H locs 4 27 (lw_Z below #[Value.ref b] s) (F0 m 700 ls [])) (H : Heap) (locs : List Loc) (hP : va_P (dC, dI) vwCl [(h0, .inr (0, [.ref h_f, .int u, .int o])), (h_f, .inl (cA_f, 8, .inr (.inl f))), (k0, .inr (1, [.ref k_g, .int u, .int o, .int mi, .int xe, .long bi, .int fa, .int cu])), (k_g, .inl (cB_g, 8, .inr (.inl f)))] H) (hD : va_D (fun q : Nat => s.heap.size ≤ q) [(h0, .inr (0, [.ref h_f, .int u, .int o])), (h_f, .inl (cA_f, 8, .inr (.inl f))), (k0, .inr (1, [.ref k_g, .int u, .int o, .int mi, .int xe, .long bi, .int fa, .int cu])), (k_g, .inl (cB_g, 8, .inr (.inl f)))]) (hS : va_S (fun q : Nat => s.heap.size ≤ q) s.heap H locs) (ls : Array Slot) (hl : lv_has ls 4 [(0, .ref b), (1, .ref h0), (2, .ref k0), (3, .int x3)]) : W p l e room_1 s m #[Value.ref b] below meth c H locs 4 27 (lw_Z below #[Value.ref b] s) (F0 m 644 ls []) := by
  obtain ⟨hx, hb, hr, hml, hown, hts, hX, hbl, hlocks, hgv⟩ := C0
  have hown : s.vm.findClass RL = some m.cls := hown
  have hA : ∀ q : Nat, s.heap.size ≤ q → (fun q : Nat => s.heap.size ≤ q) q := fun _ h => h
  have hbA : ¬ (fun q : Nat => s.heap.size ≤ q) b := Nat.not_le.mpr hbl
  have hi_1 : vp_in (x3 + (1 : Int32)) L := lx_in (k := 1) ex3 rfl hi (by omega) hL
  have hi_2 : vp_in (x3 + (2 : Int32)) L := lx_in (k := 2) ex3 rfl hi (by omega) hL
  have hi_3 : vp_in (x3 + (3 : Int32)) L := lx_in (k := 3) ex3 rfl hi (by omega) hL
  refine lv_aload_n hx hb dL_law_644 rfl (lv_at hl 1 rfl) ?_
  refine lv_aload_n hx hb dL_law_645 rfl (lv_at hl 0 rfl) ?_
  refine lv_iload_n hx hb dL_law_646 rfl (lv_at hl 3 rfl) ?_
  refine lv_iconst (v := (1 : Int32)) hx hb dL_law_647 (by decide) ?_
  refine lv_iadd hx hb dL_law_648 ?_
  refine va_sld hx hb hX hbl hbA hS hi_1 dL_law_649 ?_
  refine lv_aload_n hx hb dL_law_650 rfl (lv_at hl 0 rfl) ?_
  refine lv_iload_n hx hb dL_law_651 rfl (lv_at hl 3 rfl) ?_
  refine lv_iconst (v := (2 : Int32)) hx hb dL_law_652 (by decide) ?_
  refine lv_iadd hx hb dL_law_653 ?_
  refine va_sld hx hb hX hbl hbA hS hi_2 dL_law_654 ?_
  refine lv_aload_n hx hb dL_law_655 rfl (lv_at hl 0 rfl) ?_
  refine lv_iload_n hx hb dL_law_656 rfl (lv_at hl 3 rfl) ?_
  refine lv_iconst (v := (3 : Int32)) hx hb dL_law_657 (by decide) ?_
  refine lv_iadd hx hb dL_law_658 ?_
  refine va_sld hx hb hX hbl hbA hS hi_3 dL_law_659 ?_
  obtain ⟨q1, eq1⟩ : ∃ z : Int32 × (Nat → Int64) × Int32 × Int32, z = (mf_X0_number f u o (xs (Int32.toNatClampNeg (x3 + (1 : Int32)))) (xs (Int32.toNatClampNeg (x3 + (2 : Int32)))) (xs (Int32.toNatClampNeg (x3 + (3 : Int32))))) := ⟨_, rfl⟩
  refine xj_vi (r := q1) (As := [.int (xs (Int32.toNatClampNeg (x3 + (1 : Int32)))), .int (xs (Int32.toNatClampNeg (x3 + (2 : Int32)))), .int (xs (Int32.toNatClampNeg (x3 + (3 : Int32))))]) (rest := []) (Wd := mw_X0 h0 h_f cA_f) (wr := [(k0, .inr (1, [.ref k_g, .int u, .int o, .int mi, .int xe, .long bi, .int fa, .int cu])), (k_g, .inl (cB_g, 8, .inr (.inl f)))]) ⟨hx, hb, hml, hown, hts⟩ (by rw [eq1]; exact mc_X0_number l dC dI h0 h_f cA_f f u o (xs (Int32.toNatClampNeg (x3 + (1 : Int32)))) (xs (Int32.toNatClampNeg (x3 + (2 : Int32)))) (xs (Int32.toNatClampNeg (x3 + (3 : Int32))))) (cwV 3 hts gLX_number rfl rfl rfl (by decide +kernel) ⟨Nat.le_of_ble_eq_true rfl, Nat.le_of_ble_eq_true rfl⟩) hP hK hD hS hA [0, 1] [2, 3] [0] rfl (by decide) rfl (by decide) (by decide) rfl (va_recv hK hP (ci := 0) (q0 := 0) rfl rfl) rfl hl.1 rfl (Nat.le_of_ble_eq_true rfl) dL_law_660 ⟨Nat.le_of_ble_eq_true rfl, Nat.le_of_ble_eq_true rfl⟩ (fun H9 locs9 hP hD hS => ?_)
  have hP : va_P (dC, dI) vwCl [(k0, .inr (1, [.ref k_g, .int u, .int o, .int mi, .int xe, .long bi, .int fa, .int cu])), (k_g, .inl (cB_g, 8, .inr (.inl f))), (h0, .inr (0, [.ref h_f, .int q1.2.2.1, .int q1.2.2.2])), (h_f, .inl (cA_f, 8, .inr (.inl q1.2.1)))] _ := hP
  have hD : va_D (fun q : Nat => s.heap.size ≤ q) [(k0, .inr (1, [.ref k_g, .int u, .int o, .int mi, .int xe, .long bi, .int fa, .int cu])), (k_g, .inl (cB_g, 8, .inr (.inl f))), (h0, .inr (0, [.ref h_f, .int q1.2.2.1, .int q1.2.2.2])), (h_f, .inl (cA_f, 8, .inr (.inl q1.2.1)))] := hD
  refine lv_aload_n hx hb dL_law_663 rfl (lv_at hl 2 rfl) ?_
  refine lv_aload_n hx hb dL_law_664 rfl (lv_at hl 0 rfl) ?_
  refine lv_iload_n hx hb dL_law_665 rfl (lv_at hl 3 rfl) ?_
  refine lv_iconst (v := (1 : Int32)) hx hb dL_law_666 (by decide) ?_
  refine lv_iadd hx hb dL_law_667 ?_
  refine va_sld hx hb hX hbl hbA hS hi_1 dL_law_668 ?_
  refine lv_aload_n hx hb dL_law_669 rfl (lv_at hl 0 rfl) ?_
  refine lv_iload_n hx hb dL_law_670 rfl (lv_at hl 3 rfl) ?_
  refine lv_iconst (v := (2 : Int32)) hx hb dL_law_671 (by decide) ?_
  refine lv_iadd hx hb dL_law_672 ?_
  refine va_sld hx hb hX hbl hbA hS hi_2 dL_law_673 ?_
  refine lv_aload_n hx hb dL_law_674 rfl (lv_at hl 0 rfl) ?_
  refine lv_iload_n hx hb dL_law_675 rfl (lv_at hl 3 rfl) ?_
  refine lv_iconst (v := (3 : Int32)) hx hb dL_law_676 (by decide) ?_
  refine lv_iadd hx hb dL_law_677 ?_
  refine va_sld hx hb hX hbl hbA hS hi_3 dL_law_678 ?_
  obtain ⟨q2, eq2⟩ : ∃ z : Int32 × (Nat → Int64) × Int32 × Int32 × Int32 × Int32 × Int64 × Int32 × Int32, z = (mf_Y_number f u o mi xe bi fa cu (xs (Int32.toNatClampNeg (x3 + (1 : Int32)))) (xs (Int32.toNatClampNeg (x3 + (2 : Int32)))) (xs (Int32.toNatClampNeg (x3 + (3 : Int32))))) := ⟨_, rfl⟩
  refine xj_vi (r := q2) (As := [.int (xs (Int32.toNatClampNeg (x3 + (1 : Int32)))), .int (xs (Int32.toNatClampNeg (x3 + (2 : Int32)))), .int (xs (Int32.toNatClampNeg (x3 + (3 : Int32))))]) (rest := [.int q1.1]) (Wd := mw_Y k0 k_g cB_g) (wr := [(h0, .inr (0, [.ref h_f, .int q1.2.2.1, .int q1.2.2.2])), (h_f, .inl (cA_f, 8, .inr (.inl q1.2.1)))]) ⟨hx, hb, hml, hown, hts⟩ (by rw [eq2]; exact mc_Y_number l dC dI k0 k_g cB_g f u o mi xe bi fa cu (xs (Int32.toNatClampNeg (x3 + (1 : Int32)))) (xs (Int32.toNatClampNeg (x3 + (2 : Int32)))) (xs (Int32.toNatClampNeg (x3 + (3 : Int32))))) (cwV 3 hts gLY_number rfl rfl rfl (by decide +kernel) ⟨Nat.le_of_ble_eq_true rfl, Nat.le_of_ble_eq_true rfl⟩) hP hK hD hS hA [0, 1] [2, 3] [1] rfl (by decide) rfl (by decide) (by decide) rfl (va_recv hK hP (ci := 1) (q0 := 0) rfl rfl) rfl hl.1 rfl (Nat.le_of_ble_eq_true rfl) dL_law_679 ⟨Nat.le_of_ble_eq_true rfl, Nat.le_of_ble_eq_true rfl⟩ (fun H9 locs9 hP hD hS => ?_)
  have hP : va_P (dC, dI) vwCl [(h0, .inr (0, [.ref h_f, .int q1.2.2.1, .int q1.2.2.2])), (h_f, .inl (cA_f, 8, .inr (.inl q1.2.1))), (k0, .inr (1, [.ref k_g, .int q2.2.2.1, .int q2.2.2.2.1, .int q2.2.2.2.2.1, .int q2.2.2.2.2.2.1, .long q2.2.2.2.2.2.2.1, .int q2.2.2.2.2.2.2.2.1, .int q2.2.2.2.2.2.2.2.2])), (k_g, .inl (cB_g, 8, .inr (.inl q2.2.1)))] _ := hP
  have hD : va_D (fun q : Nat => s.heap.size ≤ q) [(h0, .inr (0, [.ref h_f, .int q1.2.2.1, .int q1.2.2.2])), (h_f, .inl (cA_f, 8, .inr (.inl q1.2.1))), (k0, .inr (1, [.ref k_g, .int q2.2.2.1, .int q2.2.2.2.1, .int q2.2.2.2.2.1, .int q2.2.2.2.2.2.1, .long q2.2.2.2.2.2.2.1, .int q2.2.2.2.2.2.2.2.1, .int q2.2.2.2.2.2.2.2.2])), (k_g, .inl (cB_g, 8, .inr (.inl q2.2.1)))] := hD
  obtain ⟨hE, hE2⟩ : q1.1 = q2.1 ∧ lx_R q1.2 q2.2 := lx_of (by rw [eq1, eq2]; exact ly_number ..) (by rw [eq1]; exact lo_number (hu := hu) (ho := ho) ..)
  refine lv_icmp_eq (tgt := 700) hx hb dL_law_682 (by decide) (fun c9 => ?_) (fun c9 => absurd hE c9)
  exact K q1.2 q2.2 hE2 _ _ hP hD hS _ (lv_sub hl [0, 1, 2, 3] rfl)
set_option maxHeartbeats 8000000 in
set_option maxRecDepth 100000 in
theorem lx_case_lost {p : Program} {l : Launch} {e : Env} {s : State} {m : MethodId} {below : List Frame} {meth : Method} {c : Code} {dC : Nat → ClassId} {dI : Nat → Nat → Nat} {b L : Nat} {xs : Nat → Int32} (hL : L ≤ 3072) (C0 : lw_At p s m meth c b L xs) (h0 h_f : Nat) (cA_f : ClassId) (k0 k_g : Nat) (cB_g : ClassId) (hK : va_K (dC, dI) vwCl [(cA_f, .long), (cB_g, .long)] s) (f : Nat → Int64) (u o mi xe : Int32) (bi : Int64) (fa cu : Int32) (hu : u = 0 ∨ u = 1) (ho : o = 0 ∨ o = 1) (i : Nat) (x3 : Int32) (ex3 : x3 = nI i) (hi : i + 5 < L) (K : ∀ (sx : (Nat → Int64) × Int32 × Int32) (sm : (Nat → Int64) × Int32 × Int32 × Int32 × Int32 × Int64 × Int32 × Int32), lx_R sx sm → ∀ (H : Heap) (locs : List Loc), va_P (dC, dI) vwCl (mw_X0 h0 h_f cA_f sx ++ mw_Y k0 k_g cB_g sm) H → va_D (fun q : Nat => s.heap.size ≤ q) (mw_X0 h0 h_f cA_f sx ++ mw_Y k0 k_g cB_g sm) → va_S (fun q : Nat => s.heap.size ≤ q) s.heap H locs → ∀ (ls : Array Slot), lv_has ls 4 [(0, .ref b), (1, .ref h0), (2, .ref k0), (3, .int x3)] → W p l e room_1 s m #[Value.ref b] below meth c H locs 4 27 (lw_Z below #[Value.ref b] s) (F0 m 700 ls [])) (H : Heap) (locs : List Loc) (hP : va_P (dC, dI) vwCl [(h0, .inr (0, [.ref h_f, .int u, .int o])), (h_f, .inl (cA_f, 8, .inr (.inl f))), (k0, .inr (1, [.ref k_g, .int u, .int o, .int mi, .int xe, .long bi, .int fa, .int cu])), (k_g, .inl (cB_g, 8, .inr (.inl f)))] H) (hD : va_D (fun q : Nat => s.heap.size ≤ q) [(h0, .inr (0, [.ref h_f, .int u, .int o])), (h_f, .inl (cA_f, 8, .inr (.inl f))), (k0, .inr (1, [.ref k_g, .int u, .int o, .int mi, .int xe, .long bi, .int fa, .int cu])), (k_g, .inl (cB_g, 8, .inr (.inl f)))]) (hS : va_S (fun q : Nat => s.heap.size ≤ q) s.heap H locs) (ls : Array Slot) (hl : lv_has ls 4 [(0, .ref b), (1, .ref h0), (2, .ref k0), (3, .int x3)]) : W p l e room_1 s m #[Value.ref b] below meth c H locs 4 27 (lw_Z below #[Value.ref b] s) (F0 m 687 ls []) := by
  obtain ⟨hx, hb, hr, hml, hown, hts, hX, hbl, hlocks, hgv⟩ := C0
  have hown : s.vm.findClass RL = some m.cls := hown
  have hA : ∀ q : Nat, s.heap.size ≤ q → (fun q : Nat => s.heap.size ≤ q) q := fun _ h => h
  have hbA : ¬ (fun q : Nat => s.heap.size ≤ q) b := Nat.not_le.mpr hbl
  refine lv_aload_n hx hb dL_law_687 rfl (lv_at hl 1 rfl) ?_
  refine xj_vi (As := []) (rest := []) (Wd := mw_X0 h0 h_f cA_f) (wr := [(k0, .inr (1, [.ref k_g, .int u, .int o, .int mi, .int xe, .long bi, .int fa, .int cu])), (k_g, .inl (cB_g, 8, .inr (.inl f)))]) ⟨hx, hb, hml, hown, hts⟩ (mc_X0_lost l dC dI h0 h_f cA_f f u o (ho)) (cwV 0 hts gLX_lost rfl rfl rfl (by decide +kernel) ⟨Nat.le_of_ble_eq_true rfl, Nat.le_of_ble_eq_true rfl⟩) hP hK hD hS hA [0, 1] [2, 3] [0] rfl (by decide) rfl (by decide) (by decide) rfl (va_recv hK hP (ci := 0) (q0 := 0) rfl rfl) rfl hl.1 rfl (Nat.le_of_ble_eq_true rfl) dL_law_688 ⟨Nat.le_of_ble_eq_true rfl, Nat.le_of_ble_eq_true rfl⟩ (fun H9 locs9 hP hD hS => ?_)
  have hP : va_P (dC, dI) vwCl [(k0, .inr (1, [.ref k_g, .int u, .int o, .int mi, .int xe, .long bi, .int fa, .int cu])), (k_g, .inl (cB_g, 8, .inr (.inl f))), (h0, .inr (0, [.ref h_f, .int u, .int o])), (h_f, .inl (cA_f, 8, .inr (.inl f)))] _ := hP
  have hD : va_D (fun q : Nat => s.heap.size ≤ q) [(k0, .inr (1, [.ref k_g, .int u, .int o, .int mi, .int xe, .long bi, .int fa, .int cu])), (k_g, .inl (cB_g, 8, .inr (.inl f))), (h0, .inr (0, [.ref h_f, .int u, .int o])), (h_f, .inl (cA_f, 8, .inr (.inl f)))] := hD
  refine lv_topi (fun y1 ey1 => ?_)
  refine lv_aload_n hx hb dL_law_691 rfl (lv_at hl 2 rfl) ?_
  refine xj_vi (As := []) (rest := [.int y1]) (Wd := mw_Y k0 k_g cB_g) (wr := [(h0, .inr (0, [.ref h_f, .int u, .int o])), (h_f, .inl (cA_f, 8, .inr (.inl f)))]) ⟨hx, hb, hml, hown, hts⟩ (mc_Y_lost l dC dI k0 k_g cB_g f u o mi xe bi fa cu (ho)) (cwV 0 hts gLY_lost rfl rfl rfl (by decide +kernel) ⟨Nat.le_of_ble_eq_true rfl, Nat.le_of_ble_eq_true rfl⟩) hP hK hD hS hA [0, 1] [2, 3] [1] rfl (by decide) rfl (by decide) (by decide) rfl (va_recv hK hP (ci := 1) (q0 := 0) rfl rfl) rfl hl.1 rfl (Nat.le_of_ble_eq_true rfl) dL_law_692 ⟨Nat.le_of_ble_eq_true rfl, Nat.le_of_ble_eq_true rfl⟩ (fun H9 locs9 hP hD hS => ?_)
  have hP : va_P (dC, dI) vwCl [(h0, .inr (0, [.ref h_f, .int u, .int o])), (h_f, .inl (cA_f, 8, .inr (.inl f))), (k0, .inr (1, [.ref k_g, .int u, .int o, .int mi, .int xe, .long bi, .int fa, .int cu])), (k_g, .inl (cB_g, 8, .inr (.inl f)))] _ := hP
  have hD : va_D (fun q : Nat => s.heap.size ≤ q) [(h0, .inr (0, [.ref h_f, .int u, .int o])), (h_f, .inl (cA_f, 8, .inr (.inl f))), (k0, .inr (1, [.ref k_g, .int u, .int o, .int mi, .int xe, .long bi, .int fa, .int cu])), (k_g, .inl (cB_g, 8, .inr (.inl f)))] := hD
  refine lv_topi (fun y2 ey2 => ?_)
  have hE : y1 = y2 := by rw [ey1, ey2]; exact rfl
  refine lv_icmp_eq (tgt := 700) hx hb dL_law_695 (by decide) (fun c9 => ?_) (fun c9 => absurd hE c9)
  exact K (f, u, o) (f, u, o, mi, xe, bi, fa, cu) ⟨rfl, hu, ho⟩ _ _ hP hD hS _ (lv_sub hl [0, 1, 2, 3] rfl)
