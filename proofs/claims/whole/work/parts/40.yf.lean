theorem ms_many (x : Int32) : mf_Y_many x = 56 ∨ mf_Y_many x = 24 := by
  unfold mf_Y_many; (repeat' split) <;> simp
theorem ms_ctr {v y : Int32} {k : Nat} (hk0 : v = nI k) (hk1 : k ≤ 58) (h : ¬ (y + (2 : Int32)) ≤ v) {p : Int32} (hy : y = mf_Y_many p) : k + 1 ≤ 58 := by
  have hy := hy ▸ ms_many p
  rcases Nat.lt_or_ge k 58 with q | q
  · exact q
  · have hk : k = 58 := by omega
    subst hk; subst hk0
    rcases hy with rfl | rfl <;> exact absurd (by decide) h
theorem ms_take_nz {g : Nat → Int64} {ak il mi xe : Int32} {bi : Int64} {fa cu p1 : Int32} {v : Int64} (h : mf_Y_isZero v = 0) : ¬ (mf_Y_take g ak il mi xe bi fa cu p1 v).2.2.2.2.2.1 = 0 := by
  obtain ⟨n, hn, rfl⟩ := nb_of v
  have hx := nx_ex_lt n
  have hz : nx_ex n ≠ 0 := by
    intro c
    rw [ny_isZero hn, if_pos c] at h
    exact absurd h (by decide)
  have h7 : Int64.toInt32 (xj_shr (lN n) (7 : Int32) &&& (255 : Int64)) = nI (nx_ex n) := by
    rw [show (7 : Int32) = nI 7 from rfl, show (255 : Int64) = lN (2 ^ 8 - 1) from rfl, nb_shrm hn (by decide) (by decide) (by decide)]
    exact lN_i _
  unfold mf_Y_take xj_bnd
  dsimp only
  rw [h7, if_neg (by rw [show (0 : Int32) = nI 0 from rfl, nI_eq (by omega) (by decide)]; exact hz)]
  intro h0
  have h1 := congrArg Int64.toBitVec h0
  rw [Int64.toBitVec_or] at h1
  exact absurd (BitVec.or_eq_zero_iff.mp h1).1 (by decide)
def ny_in (g : Nat → Int64) (p1 p2 : Int32) : Int64 := if p1 = (8 : Int32) then (g (Int32.toNatClampNeg p2)) else ((g (Int32.toNatClampNeg p2)) &&& (4294967295 : Int64))
theorem ms_nz {q9 q7 : (Nat → Int64) × Int32 × Int32 × Int32 × Int32 × Int64 × Int32 × Int32} {g ga : Nat → Int64} {y8 y3 a5 c5 : Int64} {y4 p1 p2 a1 a2 a3 a4 a6 a7 c1 c2 c3 c4 c6 c7 : Int32} {v : Int64}
    (e9 : q9 = mf_Y_take ga a1 a2 a3 a4 a5 a6 a7 p1 y8) (e8 : y8 = ny_in q7.1 p1 p2) (e7 : q7 = mf_Y_take g c1 c2 c3 c4 c5 c6 c7 p1 v) (e3 : y3 = ny_in g p1 p2) (e4 : y4 = mf_Y_isZero y3) (c : y4 = 0) : ¬ q9.2.2.2.2.2.1 = 0 := by
  rw [e9]
  refine ms_take_nz ?_
  have e : y8 = y3 := by rw [e8, e3, e7]; rfl
  rw [e, ← e4]; exact c

def ml_Y_quotient_126 (y11 : Int32) (q9 : (Nat → Int64) × Int32 × Int32 × Int32 × Int32 × Int64 × Int32 × Int32) : Nat → Int64 → Int64 → Int32 → Int64 × Int64 × Int32
  | 0, v14, v15, v16 => (v14, v15, v16)
  | n + 1, v14, v15, v16 => (if (y11 + (2 : Int32)) ≤ v16 then (v14, v15, v16) else (xj_bnd (xj_shl v14 (1 : Int32)) (fun y19 => (xj_bnd (xj_shl v15 (1 : Int32)) (fun y20 => (xj_bnd (if y19 < q9.2.2.2.2.2.1 then y20 else (xj_bnd (y19 - q9.2.2.2.2.2.1) (fun y22 => (xj_bnd (y20 + (1 : Int64)) (fun y23 => y23))))) (fun y22 => (xj_bnd (if y19 < q9.2.2.2.2.2.1 then y19 else (xj_bnd (y19 - q9.2.2.2.2.2.1) (fun y22 => (xj_bnd (y20 + (1 : Int64)) (fun y23 => y22))))) (fun y23 => (xj_bnd (v16 + (1 : Int32)) (fun y24 => (ml_Y_quotient_126 y11 q9 n y23 y22 y24))))))))))))
theorem ml_Y_quotient_126_s (y11 : Int32) (q9 : (Nat → Int64) × Int32 × Int32 × Int32 × Int32 × Int64 × Int32 × Int32) (n : Nat) (v14 : Int64) (v15 : Int64) (v16 : Int32) : ml_Y_quotient_126 y11 q9 (n + 1) v14 v15 v16 = (if (y11 + (2 : Int32)) ≤ v16 then (v14, v15, v16) else (xj_bnd (xj_shl v14 (1 : Int32)) (fun y19 => (xj_bnd (xj_shl v15 (1 : Int32)) (fun y20 => (xj_bnd (if y19 < q9.2.2.2.2.2.1 then y20 else (xj_bnd (y19 - q9.2.2.2.2.2.1) (fun y22 => (xj_bnd (y20 + (1 : Int64)) (fun y23 => y23))))) (fun y22 => (xj_bnd (if y19 < q9.2.2.2.2.2.1 then y19 else (xj_bnd (y19 - q9.2.2.2.2.2.1) (fun y22 => (xj_bnd (y20 + (1 : Int64)) (fun y23 => y22))))) (fun y23 => (xj_bnd (v16 + (1 : Int32)) (fun y24 => (ml_Y_quotient_126 y11 q9 n y23 y22 y24)))))))))))) := rfl
def mf_Y_quotient (g : Nat → Int64) (ak : Int32) (il : Int32) (mi : Int32) (xe : Int32) (bi : Int64) (fa : Int32) (cu : Int32) (p1 : Int32) (p2 : Int32) (p3 : Int32) (p4 : Int32) : Int32 × (Nat → Int64) × Int32 × Int32 × Int32 × Int32 × Int64 × Int32 × Int32 := (xj_bnd (mf_Y_two g ak il mi xe bi fa cu p1 p2 p3 p4) (fun y1 => (if 0 ≤ y1 then (xj_bnd (mf_Y_in g ak il mi xe bi fa cu p1 p2) (fun y3 => (xj_bnd (mf_Y_isZero y3) (fun y4 => (if y4 = 0 then (xj_bnd (mf_Y_in g ak il mi xe bi fa cu p1 p3) (fun y6 => (xj_bnd (mf_Y_take g ak il mi xe bi fa cu p1 y6) (fun q7 => (xj_bnd (mf_Y_in q7.1 q7.2.1 q7.2.2.1 q7.2.2.2.1 q7.2.2.2.2.1 q7.2.2.2.2.2.1 q7.2.2.2.2.2.2.1 q7.2.2.2.2.2.2.2 p1 p2) (fun y8 => (xj_bnd (mf_Y_take q7.1 q7.2.1 q7.2.2.1 q7.2.2.2.1 q7.2.2.2.2.1 q7.2.2.2.2.2.1 q7.2.2.2.2.2.2.1 q7.2.2.2.2.2.2.2 p1 y8) (fun q9 => (if q7.2.2.2.2.2.1 = (0 : Int64) then (xj_bnd (mf_Y_gives q9.1 q9.2.1 q9.2.2.1 q9.2.2.2.1 q9.2.2.2.2.1 q9.2.2.2.2.2.1 (0 : Int32) (0 : Int32) (0 : Int64) p4) (fun q33 => (q33.1, (q33.2.1, q33.2.2.1, q33.2.2.2.1, q33.2.2.2.2.1, q33.2.2.2.2.2.1, q33.2.2.2.2.2.2.1, q33.2.2.2.2.2.2.2.1, q33.2.2.2.2.2.2.2.2)))) else (xj_bnd (mf_Y_many p1) (fun y11 => (xj_bnd (q7.2.2.2.2.2.1 / q9.2.2.2.2.2.1) (fun y12 => (xj_bnd (q7.2.2.2.2.2.1 - q7.2.2.2.2.2.1 / q9.2.2.2.2.2.1 * q9.2.2.2.2.2.1) (fun y13 => (xj_bnd (ml_Y_quotient_126 y11 q9 59 y13 y12 (0 : Int32)) (fun q17 => (xj_bnd (if q7.2.2.2.1 = q9.2.2.2.1 then (0 : Int32) else (1 : Int32)) (fun y28 => (xj_bnd (if q17.1 = (0 : Int64) then (0 : Int32) else (1 : Int32)) (fun y30 => (xj_bnd (mf_Y_rounds q9.1 q9.2.1 q9.2.2.1 q9.2.2.2.1 q9.2.2.2.2.1 q9.2.2.2.2.2.1 (0 : Int32) (0 : Int32) p1 y28 q17.2.1 (((q7.2.2.2.2.1 - q9.2.2.2.2.1) - y11) - (2 : Int32)) y30) (fun q31 => (xj_bnd (mf_Y_gives q31.2.1 q31.2.2.1 q31.2.2.2.1 q31.2.2.2.2.1 q31.2.2.2.2.2.1 q31.2.2.2.2.2.2.1 q31.2.2.2.2.2.2.2.1 q31.2.2.2.2.2.2.2.2 q31.1 p4) (fun q32 => (q32.1, (q32.2.1, q32.2.2.1, q32.2.2.2.1, q32.2.2.2.2.1, q32.2.2.2.2.2.1, q32.2.2.2.2.2.2.1, q32.2.2.2.2.2.2.2.1, q32.2.2.2.2.2.2.2.2))))))))))))))))))))))))))) else ((-4 : Int32), (g, ak, il, mi, xe, bi, fa, cu))))))) else (y1, (g, ak, il, mi, xe, bi, fa, cu)))))
set_option maxHeartbeats 4000000 in
set_option maxRecDepth 100000 in
theorem mc_Y_quotient (l : Launch) (dC : Nat → ClassId) (dI : Nat → Nat → Nat) (k0 k_g : Nat) (cB_g : ClassId) (g : Nat → Int64) (ak : Int32) (il : Int32) (mi : Int32) (xe : Int32) (bi : Int64) (fa : Int32) (cu : Int32) (p1 : Int32) (p2 : Int32) (p3 : Int32) (p4 : Int32) : xj_Oi l (dC, dI) vwCl [(cB_g, .long)] (mw_Y k0 k_g cB_g) yY_quotient wsY_quotient ({ frames := 3, cells := 0, slots := 0, locals := 65 }) [.ref k0, .int p1, .int p2, .int p3, .int p4] (g, ak, il, mi, xe, bi, fa, cu) (mf_Y_quotient g ak il mi xe bi fa cu p1 p2 p3 p4) := by
  intro sz
  refine Met.ofW (cc := cY_quotient) (maxL := 16) (ret := (some .int)) (by decide) rfl ?_
  intro p e s m args below meth c s₁ B hml hv
  obtain ⟨rfl, hsz, hP, hK, hD0⟩ := hv
  have hx := B.exec
  have hb := B.bytes
  have hr := B.returns
  have hts := atoms_spec (ws := wsY_quotient) B.pre
  have hown : s.vm.findClass RX1 = some m.cls := findClass_of_methodNamed B.named
  have hlocks := B.notSynchronized
  subst hsz
  have hD := hD0.self (sz := s.heap.size)
  generalize hAe : va_A (mw_Y k0 k_g cB_g (g, ak, il, mi, xe, bi, fa, cu)) s.heap.size = A at hD ⊢
  have hA : ∀ q : Nat, s.heap.size ≤ q → A q := fun q h => by rw [← hAe]; exact Or.inr h
  have hS : va_S A s.heap s.heap [] := va_S.rf
  have hP : va_P (dC, dI) vwCl [(k0, .inr (1, [.ref k_g, .int ak, .int il, .int mi, .int xe, .long bi, .int fa, .int cu])), (k_g, .inl (cB_g, 8, .inr (.inl g)))] s.heap := hP
  have hD : va_D A [(k0, .inr (1, [.ref k_g, .int ak, .int il, .int mi, .int xe, .long bi, .int fa, .int cu])), (k_g, .inl (cB_g, 8, .inr (.inl g)))] := hD
  generalize hT : mf_Y_quotient g ak il mi xe bi fa cu p1 p2 p3 p4 = T
  have hF := hT.symm
  unfold mf_Y_quotient at hF
  have hl := lv_entry ([.ref k0, .int p1, .int p2, .int p3, .int p4]) (n := 16) (Nat.le_of_ble_eq_true rfl)
  rw [lg_entry_eq]
  generalize (lg_sl ([.ref k0, .int p1, .int p2, .int p3, .int p4]) ++ List.replicate (16 - (lg_sl ([.ref k0, .int p1, .int p2, .int p3, .int p4])).length) Slot.unset).toArray = ls at hl ⊢
  have hl : lv_has ls 16 [(0, .ref k0), (1, .int p1), (2, .int p2), (3, .int p3), (4, .int p4)] := hl
  refine lv_aload_n hx hb dY_quotient_0 rfl (lv_at hl 0 rfl) ?_
  refine lv_iload_n hx hb dY_quotient_1 rfl (lv_at hl 1 rfl) ?_
  refine lv_iload_n hx hb dY_quotient_2 rfl (lv_at hl 2 rfl) ?_
  refine lv_iload_n hx hb dY_quotient_3 rfl (lv_at hl 3 rfl) ?_
  refine lv_iload hx hb dY_quotient_4 (lv_at hl 4 rfl) ?_
  refine xj_vi (As := [.int p1, .int p2, .int p3, .int p4]) (rest := []) (Wd := mw_Y k0 k_g cB_g) (wr := []) ⟨hx, hb, hml, hown, hts⟩ (mc_Y_two l dC dI k0 k_g cB_g g ak il mi xe bi fa cu p1 p2 p3 p4) (cwV 4 hts (gY_two _) rfl rfl rfl (by decide +kernel) ⟨Nat.le_of_ble_eq_true rfl, Nat.le_of_ble_eq_true rfl⟩) hP hK hD hS hA [0, 1] [] [0] rfl (by decide) rfl (by decide) (by decide) rfl (va_recv hK hP (ci := 1) (q0 := 0) rfl rfl) rfl hl.1 rfl (Nat.le_of_ble_eq_true rfl) dY_quotient_6 ⟨Nat.zero_le _, Nat.zero_le _⟩ (fun H9 locs9 hP hD hS => ?_)
  have hP : va_P (dC, dI) vwCl [(k0, .inr (1, [.ref k_g, .int ak, .int il, .int mi, .int xe, .long bi, .int fa, .int cu])), (k_g, .inl (cB_g, 8, .inr (.inl g)))] _ := hP
  have hD : va_D A [(k0, .inr (1, [.ref k_g, .int ak, .int il, .int mi, .int xe, .long bi, .int fa, .int cu])), (k_g, .inl (cB_g, 8, .inr (.inl g)))] := hD
  refine lv_topi (fun y1 ey1 => ?_)
  replace hF := xj_bz hF ey1
  refine lv_istore (lv' := [(5, .int y1), (0, .ref k0), (1, .int p1), (2, .int p2), (3, .int p3), (4, .int p4)]) hx hb dY_quotient_9 hl (by decide) rfl (fun ls hl => ?_)
  refine lv_iload hx hb dY_quotient_11 (lv_at hl 0 rfl) ?_
  refine lv_if_ge (tgt := 19) hx hb dY_quotient_13 (by decide) (fun c2 => ?_) (fun c2 => ?_)
  · replace hF := xj_t hF c2
    refine lv_aload_n hx hb dY_quotient_19 rfl (lv_at hl 1 rfl) ?_
    refine lv_iload_n hx hb dY_quotient_20 rfl (lv_at hl 2 rfl) ?_
    refine lv_iload_n hx hb dY_quotient_21 rfl (lv_at hl 3 rfl) ?_
    refine xj_vl (As := [.int p1, .int p2]) (rest := []) (Wd := mw_Y k0 k_g cB_g) (wr := []) ⟨hx, hb, hml, hown, hts⟩ (mc_Y_in l dC dI k0 k_g cB_g g ak il mi xe bi fa cu p1 p2 ((ms_two (xj_ge ey1 c2)).1)) (cwV 2 hts (gY_in _) rfl rfl rfl (by decide +kernel) ⟨Nat.le_of_ble_eq_true rfl, Nat.le_of_ble_eq_true rfl⟩) hP hK hD hS hA [0, 1] [] [0] rfl (by decide) rfl (by decide) (by decide) rfl (va_recv hK hP (ci := 1) (q0 := 0) rfl rfl) rfl hl.1 rfl (Nat.le_of_ble_eq_true rfl) dY_quotient_22 ⟨Nat.zero_le _, Nat.zero_le _⟩ (fun H9 locs9 hP hD hS => ?_)
    have hP : va_P (dC, dI) vwCl [(k0, .inr (1, [.ref k_g, .int ak, .int il, .int mi, .int xe, .long bi, .int fa, .int cu])), (k_g, .inl (cB_g, 8, .inr (.inl g)))] _ := hP
    have hD : va_D A [(k0, .inr (1, [.ref k_g, .int ak, .int il, .int mi, .int xe, .long bi, .int fa, .int cu])), (k_g, .inl (cB_g, 8, .inr (.inl g)))] := hD
    refine lv_topl (fun y3 ey3 => ?_)
    replace hF := xj_bz hF ey3
    refine xj_si (As := [.long y3]) (rest := []) ⟨hx, hb, hml, hown, hts⟩ (mc_Y_isZero l y3) (va_cwS 1 hts (gY_isZero _) rfl rfl rfl (by decide +kernel) ⟨Nat.le_of_ble_eq_true rfl, Nat.le_of_ble_eq_true rfl⟩) hS hA rfl hl.1 rfl (Nat.le_of_ble_eq_true rfl) dY_quotient_25 ⟨Nat.zero_le _, Nat.zero_le _⟩ (fun H9 locs9 hk9 hS => ?_)
    have hP := xj_kept hP hk9
    refine lv_topi (fun y4 ey4 => ?_)
    replace hF := xj_bz hF ey4
    refine lv_if_eq (tgt := 34) hx hb dY_quotient_28 (by decide) (fun c5 => ?_) (fun c5 => ?_)
    · replace hF := xj_t hF c5
      refine lv_aload_n hx hb dY_quotient_34 rfl (lv_at hl 1 rfl) ?_
      refine lv_iload_n hx hb dY_quotient_35 rfl (lv_at hl 2 rfl) ?_
      refine lv_aload_n hx hb dY_quotient_36 rfl (lv_at hl 1 rfl) ?_
      refine lv_iload_n hx hb dY_quotient_37 rfl (lv_at hl 2 rfl) ?_
      refine lv_iload_n hx hb dY_quotient_38 rfl (lv_at hl 4 rfl) ?_
      refine xj_vl (As := [.int p1, .int p3]) (rest := [.int p1, .ref k0]) (Wd := mw_Y k0 k_g cB_g) (wr := []) ⟨hx, hb, hml, hown, hts⟩ (mc_Y_in l dC dI k0 k_g cB_g g ak il mi xe bi fa cu p1 p3 ((ms_two (xj_ge ey1 c2)).2.1)) (cwV 2 hts (gY_in _) rfl rfl rfl (by decide +kernel) ⟨Nat.le_of_ble_eq_true rfl, Nat.le_of_ble_eq_true rfl⟩) hP hK hD hS hA [0, 1] [] [0] rfl (by decide) rfl (by decide) (by decide) rfl (va_recv hK hP (ci := 1) (q0 := 0) rfl rfl) rfl hl.1 rfl (Nat.le_of_ble_eq_true rfl) dY_quotient_39 ⟨Nat.zero_le _, Nat.zero_le _⟩ (fun H9 locs9 hP hD hS => ?_)
      have hP : va_P (dC, dI) vwCl [(k0, .inr (1, [.ref k_g, .int ak, .int il, .int mi, .int xe, .long bi, .int fa, .int cu])), (k_g, .inl (cB_g, 8, .inr (.inl g)))] _ := hP
      have hD : va_D A [(k0, .inr (1, [.ref k_g, .int ak, .int il, .int mi, .int xe, .long bi, .int fa, .int cu])), (k_g, .inl (cB_g, 8, .inr (.inl g)))] := hD
      refine lv_topl (fun y6 ey6 => ?_)
      replace hF := xj_bz hF ey6
      obtain ⟨q7, eq7⟩ : ∃ z : (Nat → Int64) × Int32 × Int32 × Int32 × Int32 × Int64 × Int32 × Int32, z = (mf_Y_take g ak il mi xe bi fa cu p1 y6) := ⟨_, rfl⟩
      replace hF := xj_bz hF eq7
      refine xj_vv (r := q7) (As := [.int p1, .long y6]) (rest := []) (Wd := mw_Y k0 k_g cB_g) (wr := []) ⟨hx, hb, hml, hown, hts⟩ (by rw [eq7]; exact mc_Y_take l dC dI k0 k_g cB_g g ak il mi xe bi fa cu p1 y6) (cwV 2 hts (gY_take _) rfl rfl rfl (by decide +kernel) ⟨Nat.le_of_ble_eq_true rfl, Nat.le_of_ble_eq_true rfl⟩) hP hK hD hS hA [0, 1] [] [0] rfl (by decide) rfl (by decide) (by decide) rfl (va_recv hK hP (ci := 1) (q0 := 0) rfl rfl) rfl hl.1 rfl (Nat.le_of_ble_eq_true rfl) dY_quotient_42 ⟨Nat.zero_le _, Nat.zero_le _⟩ (fun H9 locs9 hP hD hS => ?_)
      have hP : va_P (dC, dI) vwCl [(k0, .inr (1, [.ref k_g, .int q7.2.1, .int q7.2.2.1, .int q7.2.2.2.1, .int q7.2.2.2.2.1, .long q7.2.2.2.2.2.1, .int q7.2.2.2.2.2.2.1, .int q7.2.2.2.2.2.2.2])), (k_g, .inl (cB_g, 8, .inr (.inl q7.1)))] _ := hP
      have hD : va_D A [(k0, .inr (1, [.ref k_g, .int q7.2.1, .int q7.2.2.1, .int q7.2.2.2.1, .int q7.2.2.2.2.1, .long q7.2.2.2.2.2.1, .int q7.2.2.2.2.2.2.1, .int q7.2.2.2.2.2.2.2])), (k_g, .inl (cB_g, 8, .inr (.inl q7.1)))] := hD
      refine lv_aload_n hx hb dY_quotient_45 rfl (lv_at hl 1 rfl) ?_
      refine va_get (D := (dC, dI)) (ci := 1) (v := .long q7.2.2.2.2.2.1) (C := RX1) (T := TX1) (N := 8) hx hb hts (fun w9 h9 => List.mem_cons_of_mem _ (inY w9 h9)) hown hK hP 0 rfl rfl 5 (by decide) (hts (.fieldLink RX1 44 "ExactFloatsModel" "bits" "J") (List.mem_cons_of_mem _ mY_43)) (fun _ h9 => h9) rfl dY_quotient_46 ?_
      refine lv_lstore (lv' := [(6, .long q7.2.2.2.2.2.1), (5, .int y1), (0, .ref k0), (1, .int p1), (2, .int p2), (3, .int p3), (4, .int p4)]) hx hb dY_quotient_49 hl (by decide) rfl (fun ls hl => ?_)
      refine lv_aload_n hx hb dY_quotient_51 rfl (lv_at hl 2 rfl) ?_
      refine va_get (D := (dC, dI)) (ci := 1) (v := .int q7.2.2.2.2.1) (C := RX1) (T := TX1) (N := 8) hx hb hts (fun w9 h9 => List.mem_cons_of_mem _ (inY w9 h9)) hown hK hP 0 rfl rfl 4 (by decide) (hts (.fieldLink RX1 34 "ExactFloatsModel" "exponent" "I") (List.mem_cons_of_mem _ mY_39)) (fun _ h9 => h9) rfl dY_quotient_52 ?_
      refine lv_istore (lv' := [(8, .int q7.2.2.2.2.1), (6, .long q7.2.2.2.2.2.1), (5, .int y1), (0, .ref k0), (1, .int p1), (2, .int p2), (3, .int p3), (4, .int p4)]) hx hb dY_quotient_55 hl (by decide) rfl (fun ls hl => ?_)
      refine lv_aload_n hx hb dY_quotient_57 rfl (lv_at hl 3 rfl) ?_
      refine va_get (D := (dC, dI)) (ci := 1) (v := .int q7.2.2.2.1) (C := RX1) (T := TX1) (N := 8) hx hb hts (fun w9 h9 => List.mem_cons_of_mem _ (inY w9 h9)) hown hK hP 0 rfl rfl 3 (by decide) (hts (.fieldLink RX1 29 "ExactFloatsModel" "minus" "Z") (List.mem_cons_of_mem _ mY_37)) (fun _ h9 => h9) rfl dY_quotient_58 ?_
      refine lv_istore (lv' := [(9, .int q7.2.2.2.1), (8, .int q7.2.2.2.2.1), (6, .long q7.2.2.2.2.2.1), (5, .int y1), (0, .ref k0), (1, .int p1), (2, .int p2), (3, .int p3), (4, .int p4)]) hx hb dY_quotient_61 hl (by decide) rfl (fun ls hl => ?_)
      refine lv_aload_n hx hb dY_quotient_63 rfl (lv_at hl 4 rfl) ?_
      refine lv_iload_n hx hb dY_quotient_64 rfl (lv_at hl 5 rfl) ?_
      refine lv_aload_n hx hb dY_quotient_65 rfl (lv_at hl 4 rfl) ?_
      refine lv_iload_n hx hb dY_quotient_66 rfl (lv_at hl 5 rfl) ?_
      refine lv_iload_n hx hb dY_quotient_67 rfl (lv_at hl 6 rfl) ?_
      refine xj_vl (As := [.int p1, .int p2]) (rest := [.int p1, .ref k0]) (Wd := mw_Y k0 k_g cB_g) (wr := []) ⟨hx, hb, hml, hown, hts⟩ (mc_Y_in l dC dI k0 k_g cB_g q7.1 q7.2.1 q7.2.2.1 q7.2.2.2.1 q7.2.2.2.2.1 q7.2.2.2.2.2.1 q7.2.2.2.2.2.2.1 q7.2.2.2.2.2.2.2 p1 p2 ((ms_two (xj_ge ey1 c2)).1)) (cwV 2 hts (gY_in _) rfl rfl rfl (by decide +kernel) ⟨Nat.le_of_ble_eq_true rfl, Nat.le_of_ble_eq_true rfl⟩) hP hK hD hS hA [0, 1] [] [0] rfl (by decide) rfl (by decide) (by decide) rfl (va_recv hK hP (ci := 1) (q0 := 0) rfl rfl) rfl hl.1 rfl (Nat.le_of_ble_eq_true rfl) dY_quotient_68 ⟨Nat.zero_le _, Nat.zero_le _⟩ (fun H9 locs9 hP hD hS => ?_)
      have hP : va_P (dC, dI) vwCl [(k0, .inr (1, [.ref k_g, .int q7.2.1, .int q7.2.2.1, .int q7.2.2.2.1, .int q7.2.2.2.2.1, .long q7.2.2.2.2.2.1, .int q7.2.2.2.2.2.2.1, .int q7.2.2.2.2.2.2.2])), (k_g, .inl (cB_g, 8, .inr (.inl q7.1)))] _ := hP
      have hD : va_D A [(k0, .inr (1, [.ref k_g, .int q7.2.1, .int q7.2.2.1, .int q7.2.2.2.1, .int q7.2.2.2.2.1, .long q7.2.2.2.2.2.1, .int q7.2.2.2.2.2.2.1, .int q7.2.2.2.2.2.2.2])), (k_g, .inl (cB_g, 8, .inr (.inl q7.1)))] := hD
      refine lv_topl (fun y8 ey8 => ?_)
      replace hF := xj_bz hF ey8
      obtain ⟨q9, eq9⟩ : ∃ z : (Nat → Int64) × Int32 × Int32 × Int32 × Int32 × Int64 × Int32 × Int32, z = (mf_Y_take q7.1 q7.2.1 q7.2.2.1 q7.2.2.2.1 q7.2.2.2.2.1 q7.2.2.2.2.2.1 q7.2.2.2.2.2.2.1 q7.2.2.2.2.2.2.2 p1 y8) := ⟨_, rfl⟩
      replace hF := xj_bz hF eq9
      refine xj_vv (r := q9) (As := [.int p1, .long y8]) (rest := []) (Wd := mw_Y k0 k_g cB_g) (wr := []) ⟨hx, hb, hml, hown, hts⟩ (by rw [eq9]; exact mc_Y_take l dC dI k0 k_g cB_g q7.1 q7.2.1 q7.2.2.1 q7.2.2.2.1 q7.2.2.2.2.1 q7.2.2.2.2.2.1 q7.2.2.2.2.2.2.1 q7.2.2.2.2.2.2.2 p1 y8) (cwV 2 hts (gY_take _) rfl rfl rfl (by decide +kernel) ⟨Nat.le_of_ble_eq_true rfl, Nat.le_of_ble_eq_true rfl⟩) hP hK hD hS hA [0, 1] [] [0] rfl (by decide) rfl (by decide) (by decide) rfl (va_recv hK hP (ci := 1) (q0 := 0) rfl rfl) rfl hl.1 rfl (Nat.le_of_ble_eq_true rfl) dY_quotient_71 ⟨Nat.zero_le _, Nat.zero_le _⟩ (fun H9 locs9 hP hD hS => ?_)
      have hP : va_P (dC, dI) vwCl [(k0, .inr (1, [.ref k_g, .int q9.2.1, .int q9.2.2.1, .int q9.2.2.2.1, .int q9.2.2.2.2.1, .long q9.2.2.2.2.2.1, .int q9.2.2.2.2.2.2.1, .int q9.2.2.2.2.2.2.2])), (k_g, .inl (cB_g, 8, .inr (.inl q9.1)))] _ := hP
      have hD : va_D A [(k0, .inr (1, [.ref k_g, .int q9.2.1, .int q9.2.2.1, .int q9.2.2.2.1, .int q9.2.2.2.2.1, .long q9.2.2.2.2.2.1, .int q9.2.2.2.2.2.2.1, .int q9.2.2.2.2.2.2.2])), (k_g, .inl (cB_g, 8, .inr (.inl q9.1)))] := hD
      refine lv_aload_n hx hb dY_quotient_74 rfl (lv_at hl 4 rfl) ?_
      refine lv_iconst (v := (0 : Int32)) hx hb dY_quotient_75 (by decide) ?_
      refine va_put (D := (dC, dI)) (ci := 1) (v := .int (0 : Int32)) (ty := .int) (C := RX1) (T := TX1) (N := 8) hx hb hts (fun w9 h9 => List.mem_cons_of_mem _ (inY w9 h9)) tyX1 tyX1_ok nmX1 hown hK hP hD hS 0 rfl rfl 6 (by decide) (hts (.fieldLink RX1 48 "ExactFloatsModel" "fault" "I") (List.mem_cons_of_mem _ mY_44)) (fun _ h9 => h9) rfl (by decide +kernel) rfl rfl (Nat.le_of_ble_eq_true rfl) dY_quotient_76 (fun H9 locs9 hP hD hS => ?_)
      have hP : va_P (dC, dI) vwCl [(k0, .inr (1, [.ref k_g, .int q9.2.1, .int q9.2.2.1, .int q9.2.2.2.1, .int q9.2.2.2.2.1, .long q9.2.2.2.2.2.1, .int (0 : Int32), .int q9.2.2.2.2.2.2.2])), (k_g, .inl (cB_g, 8, .inr (.inl q9.1)))] _ := hP
      have hD : va_D A [(k0, .inr (1, [.ref k_g, .int q9.2.1, .int q9.2.2.1, .int q9.2.2.2.1, .int q9.2.2.2.2.1, .long q9.2.2.2.2.2.1, .int (0 : Int32), .int q9.2.2.2.2.2.2.2])), (k_g, .inl (cB_g, 8, .inr (.inl q9.1)))] := hD
      refine lv_aload_n hx hb dY_quotient_79 rfl (lv_at hl 4 rfl) ?_
      refine lv_iconst (v := (0 : Int32)) hx hb dY_quotient_80 (by decide) ?_
      refine va_put (D := (dC, dI)) (ci := 1) (v := .int (0 : Int32)) (ty := .boolean) (C := RX1) (T := TX1) (N := 8) hx hb hts (fun w9 h9 => List.mem_cons_of_mem _ (inY w9 h9)) tyX1 tyX1_ok nmX1 hown hK hP hD hS 0 rfl rfl 7 (by decide) (hts (.fieldLink RX1 51 "ExactFloatsModel" "cut" "Z") (List.mem_cons_of_mem _ mY_45)) (fun _ h9 => h9) rfl (by decide +kernel) rfl rfl (Nat.le_of_ble_eq_true rfl) dY_quotient_81 (fun H9 locs9 hP hD hS => ?_)
      have hP : va_P (dC, dI) vwCl [(k0, .inr (1, [.ref k_g, .int q9.2.1, .int q9.2.2.1, .int q9.2.2.2.1, .int q9.2.2.2.2.1, .long q9.2.2.2.2.2.1, .int (0 : Int32), .int (0 : Int32)])), (k_g, .inl (cB_g, 8, .inr (.inl q9.1)))] _ := hP
      have hD : va_D A [(k0, .inr (1, [.ref k_g, .int q9.2.1, .int q9.2.2.1, .int q9.2.2.2.1, .int q9.2.2.2.2.1, .long q9.2.2.2.2.2.1, .int (0 : Int32), .int (0 : Int32)])), (k_g, .inl (cB_g, 8, .inr (.inl q9.1)))] := hD
      refine lv_lload hx hb dY_quotient_84 (lv_at hl 2 rfl) ?_
      refine lv_lconst (v := (0 : Int64)) hx hb dY_quotient_86 (by decide) ?_
      refine xj_l_ne (tgt := 99) hx hb dY_quotient_87 dY_quotient_88 (by decide) (fun c10 => ?_) (fun c10 => ?_)
      · replace hF := xj_f hF c10
        refine lv_iload_n hx hb dY_quotient_99 rfl (lv_at hl 5 rfl) ?_
        refine xj_si (As := [.int p1]) (rest := []) ⟨hx, hb, hml, hown, hts⟩ (mc_Y_many l p1) (va_cwS 1 hts (gY_many _) rfl rfl rfl (by decide +kernel) ⟨Nat.le_of_ble_eq_true rfl, Nat.le_of_ble_eq_true rfl⟩) hS hA rfl hl.1 rfl (Nat.le_of_ble_eq_true rfl) dY_quotient_100 ⟨Nat.zero_le _, Nat.zero_le _⟩ (fun H9 locs9 hk9 hS => ?_)
        have hP := xj_kept hP hk9
        refine lv_topi (fun y11 ey11 => ?_)
        replace hF := xj_bz hF ey11
        refine lv_istore (lv' := [(10, .int y11), (9, .int q7.2.2.2.1), (8, .int q7.2.2.2.2.1), (6, .long q7.2.2.2.2.2.1), (5, .int y1), (0, .ref k0), (1, .int p1), (2, .int p2), (3, .int p3), (4, .int p4)]) hx hb dY_quotient_103 hl (by decide) rfl (fun ls hl => ?_)
        refine lv_lload hx hb dY_quotient_105 (lv_at hl 3 rfl) ?_
        refine lv_aload_n hx hb dY_quotient_107 rfl (lv_at hl 5 rfl) ?_
        refine va_get (D := (dC, dI)) (ci := 1) (v := .long q9.2.2.2.2.2.1) (C := RX1) (T := TX1) (N := 8) hx hb hts (fun w9 h9 => List.mem_cons_of_mem _ (inY w9 h9)) hown hK hP 0 rfl rfl 5 (by decide) (hts (.fieldLink RX1 44 "ExactFloatsModel" "bits" "J") (List.mem_cons_of_mem _ mY_43)) (fun _ h9 => h9) rfl dY_quotient_108 ?_
        refine lv_ldiv hx hb dY_quotient_111 (ms_nz eq9 ey8 eq7 ey3 ey4 c5) ?_
        refine lv_topl (fun y12 ey12 => ?_)
        replace hF := xj_bz hF ey12
        refine lv_lstore (lv' := [(11, .long y12), (10, .int y11), (9, .int q7.2.2.2.1), (8, .int q7.2.2.2.2.1), (6, .long q7.2.2.2.2.2.1), (5, .int y1), (0, .ref k0), (1, .int p1), (2, .int p2), (3, .int p3), (4, .int p4)]) hx hb dY_quotient_112 hl (by decide) rfl (fun ls hl => ?_)
        refine lv_lload hx hb dY_quotient_114 (lv_at hl 4 rfl) ?_
        refine lv_aload_n hx hb dY_quotient_116 rfl (lv_at hl 6 rfl) ?_
        refine va_get (D := (dC, dI)) (ci := 1) (v := .long q9.2.2.2.2.2.1) (C := RX1) (T := TX1) (N := 8) hx hb hts (fun w9 h9 => List.mem_cons_of_mem _ (inY w9 h9)) hown hK hP 0 rfl rfl 5 (by decide) (hts (.fieldLink RX1 44 "ExactFloatsModel" "bits" "J") (List.mem_cons_of_mem _ mY_43)) (fun _ h9 => h9) rfl dY_quotient_117 ?_
        refine lv_lrem hx hb dY_quotient_120 (ms_nz eq9 ey8 eq7 ey3 ey4 c5) ?_
        refine lv_topl (fun y13 ey13 => ?_)
        replace hF := xj_bz hF ey13
        refine lv_lstore (lv' := [(13, .long y13), (11, .long y12), (10, .int y11), (9, .int q7.2.2.2.1), (8, .int q7.2.2.2.2.1), (6, .long q7.2.2.2.2.2.1), (5, .int y1), (0, .ref k0), (1, .int p1), (2, .int p2), (3, .int p3), (4, .int p4)]) hx hb dY_quotient_121 hl (by decide) rfl (fun ls hl => ?_)
        refine lv_iconst (v := (0 : Int32)) hx hb dY_quotient_123 (by decide) ?_
        refine lv_istore (lv' := [(15, .int (0 : Int32)), (13, .long y13), (11, .long y12), (10, .int y11), (9, .int q7.2.2.2.1), (8, .int q7.2.2.2.2.1), (6, .long q7.2.2.2.2.2.1), (5, .int y1), (0, .ref k0), (1, .int p1), (2, .int p2), (3, .int p3), (4, .int p4)]) hx hb dY_quotient_124 hl (by decide) rfl (fun ls hl => ?_)
        obtain ⟨q17, eq17⟩ : ∃ z : Int64 × Int64 × Int32, z = (ml_Y_quotient_126 y11 q9 59 y13 y12 (0 : Int32)) := ⟨_, rfl⟩
        replace hF := xj_bz hF eq17
        refine xj_join 178 (fun ls' st' => lv_has ls' 16 [(13, .long q17.1), (11, .long q17.2.1), (15, .int q17.2.2), (10, .int y11), (9, .int q7.2.2.2.1), (8, .int q7.2.2.2.2.1), (6, .long q7.2.2.2.2.2.1), (5, .int y1), (0, .ref k0), (1, .int p1), (2, .int p2), (3, .int p3), (4, .int p4)] ∧ st' = []) ?_ (fun K178 => ?_)
        · rintro ls st ⟨hl, rfl⟩
          refine lv_aload_n hx hb dY_quotient_178 rfl (lv_at hl 8 rfl) ?_
          refine lv_aload_n hx hb dY_quotient_179 rfl (lv_at hl 8 rfl) ?_
          refine lv_iload_n hx hb dY_quotient_180 rfl (lv_at hl 9 rfl) ?_
          refine lv_iload hx hb dY_quotient_181 (lv_at hl 4 rfl) ?_
          refine lv_aload_n hx hb dY_quotient_183 rfl (lv_at hl 8 rfl) ?_
          refine va_get (D := (dC, dI)) (ci := 1) (v := .int q9.2.2.2.1) (C := RX1) (T := TX1) (N := 8) hx hb hts (fun w9 h9 => List.mem_cons_of_mem _ (inY w9 h9)) hown hK hP 0 rfl rfl 3 (by decide) (hts (.fieldLink RX1 29 "ExactFloatsModel" "minus" "Z") (List.mem_cons_of_mem _ mY_37)) (fun _ h9 => h9) rfl dY_quotient_184 ?_
          obtain ⟨y28, ey28⟩ : ∃ z : Int32, z = (if q7.2.2.2.1 = q9.2.2.2.1 then (0 : Int32) else (1 : Int32)) := ⟨_, rfl⟩
          replace hF := xj_bz hF ey28
          refine xj_join 195 (fun ls' st' => lv_has ls' 16 [(13, .long q17.1), (11, .long q17.2.1), (15, .int q17.2.2), (10, .int y11), (9, .int q7.2.2.2.1), (8, .int q7.2.2.2.2.1), (6, .long q7.2.2.2.2.2.1), (5, .int y1), (0, .ref k0), (1, .int p1), (2, .int p2), (3, .int p3), (4, .int p4)] ∧ st' = [.int y28, .int p1, .ref k0, .ref k0]) ?_ (fun K195 => ?_)
          · rintro ls st ⟨hl, rfl⟩
            refine lv_lload hx hb dY_quotient_195 (lv_at hl 1 rfl) ?_
            refine lv_iload hx hb dY_quotient_197 (lv_at hl 5 rfl) ?_
            refine lv_aload_n hx hb dY_quotient_199 rfl (lv_at hl 8 rfl) ?_
            refine va_get (D := (dC, dI)) (ci := 1) (v := .int q9.2.2.2.2.1) (C := RX1) (T := TX1) (N := 8) hx hb hts (fun w9 h9 => List.mem_cons_of_mem _ (inY w9 h9)) hown hK hP 0 rfl rfl 4 (by decide) (hts (.fieldLink RX1 34 "ExactFloatsModel" "exponent" "I") (List.mem_cons_of_mem _ mY_39)) (fun _ h9 => h9) rfl dY_quotient_200 ?_
            refine lv_isub hx hb dY_quotient_203 ?_
            refine lv_iload hx hb dY_quotient_204 (lv_at hl 3 rfl) ?_
            refine lv_isub hx hb dY_quotient_206 ?_
            refine lv_iconst (v := (2 : Int32)) hx hb dY_quotient_207 (by decide) ?_
            refine lv_isub hx hb dY_quotient_208 ?_
            refine lv_lload hx hb dY_quotient_209 (lv_at hl 0 rfl) ?_
            refine lv_lconst (v := (0 : Int64)) hx hb dY_quotient_211 (by decide) ?_
            obtain ⟨y30, ey30⟩ : ∃ z : Int32, z = (if q17.1 = (0 : Int64) then (0 : Int32) else (1 : Int32)) := ⟨_, rfl⟩
            replace hF := xj_bz hF ey30
            refine xj_join 221 (fun ls' st' => lv_has ls' 16 [(13, .long q17.1), (11, .long q17.2.1), (15, .int q17.2.2), (10, .int y11), (9, .int q7.2.2.2.1), (8, .int q7.2.2.2.2.1), (6, .long q7.2.2.2.2.2.1), (5, .int y1), (0, .ref k0), (1, .int p1), (2, .int p2), (3, .int p3), (4, .int p4)] ∧ st' = [.int y30, .int (((q7.2.2.2.2.1 - q9.2.2.2.2.1) - y11) - (2 : Int32)), .long q17.2.1, .int y28, .int p1, .ref k0, .ref k0]) ?_ (fun K221 => ?_)
            · rintro ls st ⟨hl, rfl⟩
              obtain ⟨q31, eq31⟩ : ∃ z : Int64 × (Nat → Int64) × Int32 × Int32 × Int32 × Int32 × Int64 × Int32 × Int32, z = (mf_Y_rounds q9.1 q9.2.1 q9.2.2.1 q9.2.2.2.1 q9.2.2.2.2.1 q9.2.2.2.2.2.1 (0 : Int32) (0 : Int32) p1 y28 q17.2.1 (((q7.2.2.2.2.1 - q9.2.2.2.2.1) - y11) - (2 : Int32)) y30) := ⟨_, rfl⟩
              replace hF := xj_bz hF eq31
              refine xj_vl (r := q31) (As := [.int p1, .int y28, .long q17.2.1, .int (((q7.2.2.2.2.1 - q9.2.2.2.2.1) - y11) - (2 : Int32)), .int y30]) (rest := [.ref k0]) (Wd := mw_Y k0 k_g cB_g) (wr := []) ⟨hx, hb, hml, hown, hts⟩ (by rw [eq31]; exact mc_Y_rounds l dC dI k0 k_g cB_g q9.1 q9.2.1 q9.2.2.1 q9.2.2.2.1 q9.2.2.2.2.1 q9.2.2.2.2.2.1 (0 : Int32) (0 : Int32) p1 y28 q17.2.1 (((q7.2.2.2.2.1 - q9.2.2.2.2.1) - y11) - (2 : Int32)) y30 (by rw [ey30]; (repeat' split) <;> simp)) (cwV 5 hts (gY_rounds _) rfl rfl rfl (by decide +kernel) ⟨Nat.le_of_ble_eq_true rfl, Nat.le_of_ble_eq_true rfl⟩) hP hK hD hS hA [0, 1] [] [0] rfl (by decide) rfl (by decide) (by decide) rfl (va_recv hK hP (ci := 1) (q0 := 0) rfl rfl) rfl hl.1 rfl (Nat.le_of_ble_eq_true rfl) dY_quotient_221 ⟨Nat.zero_le _, Nat.zero_le _⟩ (fun H9 locs9 hP hD hS => ?_)
              have hP : va_P (dC, dI) vwCl [(k0, .inr (1, [.ref k_g, .int q31.2.2.1, .int q31.2.2.2.1, .int q31.2.2.2.2.1, .int q31.2.2.2.2.2.1, .long q31.2.2.2.2.2.2.1, .int q31.2.2.2.2.2.2.2.1, .int q31.2.2.2.2.2.2.2.2])), (k_g, .inl (cB_g, 8, .inr (.inl q31.2.1)))] _ := hP
              have hD : va_D A [(k0, .inr (1, [.ref k_g, .int q31.2.2.1, .int q31.2.2.2.1, .int q31.2.2.2.2.1, .int q31.2.2.2.2.2.1, .long q31.2.2.2.2.2.2.1, .int q31.2.2.2.2.2.2.2.1, .int q31.2.2.2.2.2.2.2.2])), (k_g, .inl (cB_g, 8, .inr (.inl q31.2.1)))] := hD
              refine lv_iload hx hb dY_quotient_224 (lv_at hl 12 rfl) ?_
              obtain ⟨q32, eq32⟩ : ∃ z : Int32 × (Nat → Int64) × Int32 × Int32 × Int32 × Int32 × Int64 × Int32 × Int32, z = (mf_Y_gives q31.2.1 q31.2.2.1 q31.2.2.2.1 q31.2.2.2.2.1 q31.2.2.2.2.2.1 q31.2.2.2.2.2.2.1 q31.2.2.2.2.2.2.2.1 q31.2.2.2.2.2.2.2.2 q31.1 p4) := ⟨_, rfl⟩
              replace hF := xj_bz hF eq32
              refine xj_vi (r := q32) (As := [.long q31.1, .int p4]) (rest := []) (Wd := mw_Y k0 k_g cB_g) (wr := []) ⟨hx, hb, hml, hown, hts⟩ (by rw [eq32]; exact mc_Y_gives l dC dI k0 k_g cB_g q31.2.1 q31.2.2.1 q31.2.2.2.1 q31.2.2.2.2.1 q31.2.2.2.2.2.1 q31.2.2.2.2.2.2.1 q31.2.2.2.2.2.2.2.1 q31.2.2.2.2.2.2.2.2 q31.1 p4 ((ms_two (xj_ge ey1 c2)).2.2) (by rw [eq31]; exact ms_cut_rounds (by rw [ey30]; (repeat' split) <;> simp))) (cwV 2 hts (gY_gives _) rfl rfl rfl (by decide +kernel) ⟨Nat.le_of_ble_eq_true rfl, Nat.le_of_ble_eq_true rfl⟩) hP hK hD hS hA [0, 1] [] [0] rfl (by decide) rfl (by decide) (by decide) rfl (va_recv hK hP (ci := 1) (q0 := 0) rfl rfl) rfl hl.1 rfl (Nat.le_of_ble_eq_true rfl) dY_quotient_226 ⟨Nat.zero_le _, Nat.zero_le _⟩ (fun H9 locs9 hP hD hS => ?_)
              have hP : va_P (dC, dI) vwCl [(k0, .inr (1, [.ref k_g, .int q32.2.2.1, .int q32.2.2.2.1, .int q32.2.2.2.2.1, .int q32.2.2.2.2.2.1, .long q32.2.2.2.2.2.2.1, .int q32.2.2.2.2.2.2.2.1, .int q32.2.2.2.2.2.2.2.2])), (k_g, .inl (cB_g, 8, .inr (.inl q32.2.1)))] _ := hP
              have hD : va_D A [(k0, .inr (1, [.ref k_g, .int q32.2.2.1, .int q32.2.2.2.1, .int q32.2.2.2.2.1, .int q32.2.2.2.2.2.1, .long q32.2.2.2.2.2.2.1, .int q32.2.2.2.2.2.2.2.1, .int q32.2.2.2.2.2.2.2.2])), (k_g, .inl (cB_g, 8, .inr (.inl q32.2.1)))] := hD
              exact W.iret (v := q32.1) hx hb hr (fun t ht hW => ⟨⟨_, (q32.2.1, q32.2.2.1, q32.2.2.2.1, q32.2.2.2.2.1, q32.2.2.2.2.2.1, q32.2.2.2.2.2.2.1, q32.2.2.2.2.2.2.2.1, q32.2.2.2.2.2.2.2.2), rfl, hF.symm, by rw [ht]; exact hP, hD⟩, hS.F ht⟩) hS.2.2 dY_quotient_229
            · refine xj_l_eq (tgt := 220) hx hb dY_quotient_212 dY_quotient_213 (by decide) (fun c29 => ?_) (fun c29 => ?_)
              · replace ey30 := xj_t ey30 c29
                refine lv_iconst (v := (0 : Int32)) hx hb dY_quotient_220 (by decide) ?_
                subst ey30
                exact K221 _ _ ⟨lv_sub hl [0, 1, 2, 3, 4, 5, 6, 7, 8, 9, 10, 11, 12] rfl, rfl⟩
              · replace ey30 := xj_f ey30 c29
                refine lv_iconst (v := (1 : Int32)) hx hb dY_quotient_216 (by decide) ?_
                refine lv_goto (tgt := 221) hx hb dY_quotient_217 (by decide) ?_
                subst ey30
                exact K221 _ _ ⟨lv_sub hl [0, 1, 2, 3, 4, 5, 6, 7, 8, 9, 10, 11, 12] rfl, rfl⟩
          · refine lv_icmp_eq (tgt := 194) hx hb dY_quotient_187 (by decide) (fun c27 => ?_) (fun c27 => ?_)
            · replace ey28 := xj_t ey28 c27
              refine lv_iconst (v := (0 : Int32)) hx hb dY_quotient_194 (by decide) ?_
              subst ey28
              exact K195 _ _ ⟨lv_sub hl [0, 1, 2, 3, 4, 5, 6, 7, 8, 9, 10, 11, 12] rfl, rfl⟩
            · replace ey28 := xj_f ey28 c27
              refine lv_iconst (v := (1 : Int32)) hx hb dY_quotient_190 (by decide) ?_
              refine lv_goto (tgt := 195) hx hb dY_quotient_191 (by decide) ?_
              subst ey28
              exact K195 _ _ ⟨lv_sub hl [0, 1, 2, 3, 4, 5, 6, 7, 8, 9, 10, 11, 12] rfl, rfl⟩
        · refine xj_loop 126 (fun n ls' st' => ∃ (v14 : Int64) (v15 : Int64) (v16 : Int32), q17 = ml_Y_quotient_126 y11 q9 n v14 v15 v16 ∧ (∃ kz : Nat, v16 = nI kz ∧ kz ≤ 58 ∧ kz + n = 59) ∧ lv_has ls' 16 [(13, .long v14), (11, .long v15), (15, .int v16), (10, .int y11), (9, .int q7.2.2.2.1), (8, .int q7.2.2.2.2.1), (6, .long q7.2.2.2.2.2.1), (5, .int y1), (0, .ref k0), (1, .int p1), (2, .int p2), (3, .int p3), (4, .int p4)] ∧ st' = []) 59 ⟨y13, y12, (0 : Int32), eq17, ⟨0, nI_0.symm, by omega, by omega⟩, lv_sub hl [1, 2, 0, 3, 4, 5, 6, 7, 8, 9, 10, 11, 12] rfl, rfl⟩ ?_ ?_
          · rintro n ih ls st ⟨v14, v15, v16, hq, ⟨kz, hk0, hk1, hk2⟩, hl, rfl⟩
            have hq := hq.trans (ml_Y_quotient_126_s  y11 q9 n v14 v15 v16)
            refine lv_iload hx hb dY_quotient_126 (lv_at hl 2 rfl) ?_
            refine lv_iload hx hb dY_quotient_128 (lv_at hl 3 rfl) ?_
            refine lv_iconst (v := (2 : Int32)) hx hb dY_quotient_130 (by decide) ?_
            refine lv_iadd hx hb dY_quotient_131 ?_
            refine lv_icmp_ge (tgt := 178) hx hb dY_quotient_132 (by decide) (fun c18 => ?_) (fun c18 => ?_)
            · replace hq := xj_t hq c18
              subst hq
              exact K178 _ _ ⟨lv_sub hl [0, 1, 2, 3, 4, 5, 6, 7, 8, 9, 10, 11, 12] rfl, rfl⟩
            · replace hq := xj_f hq c18
              refine lv_lload hx hb dY_quotient_135 (lv_at hl 0 rfl) ?_
              refine lv_iconst (v := (1 : Int32)) hx hb dY_quotient_137 (by decide) ?_
              refine lv_lshl (v := (xj_shl v14 (1 : Int32))) hx hb dY_quotient_138 rfl ?_
              refine lv_topl (fun y19 ey19 => ?_)
              replace hq := xj_bz hq ey19
              refine lv_lstore (lv' := [(13, .long y19), (11, .long v15), (15, .int v16), (10, .int y11), (9, .int q7.2.2.2.1), (8, .int q7.2.2.2.2.1), (6, .long q7.2.2.2.2.2.1), (5, .int y1), (0, .ref k0), (1, .int p1), (2, .int p2), (3, .int p3), (4, .int p4)]) hx hb dY_quotient_139 hl (by decide) rfl (fun ls hl => ?_)
              refine lv_lload hx hb dY_quotient_141 (lv_at hl 1 rfl) ?_
              refine lv_iconst (v := (1 : Int32)) hx hb dY_quotient_143 (by decide) ?_
              refine lv_lshl (v := (xj_shl v15 (1 : Int32))) hx hb dY_quotient_144 rfl ?_
              refine lv_topl (fun y20 ey20 => ?_)
              replace hq := xj_bz hq ey20
              refine lv_lstore (lv' := [(11, .long y20), (13, .long y19), (15, .int v16), (10, .int y11), (9, .int q7.2.2.2.1), (8, .int q7.2.2.2.2.1), (6, .long q7.2.2.2.2.2.1), (5, .int y1), (0, .ref k0), (1, .int p1), (2, .int p2), (3, .int p3), (4, .int p4)]) hx hb dY_quotient_145 hl (by decide) rfl (fun ls hl => ?_)
              refine lv_lload hx hb dY_quotient_147 (lv_at hl 1 rfl) ?_
              refine lv_aload_n hx hb dY_quotient_149 rfl (lv_at hl 8 rfl) ?_
              refine va_get (D := (dC, dI)) (ci := 1) (v := .long q9.2.2.2.2.2.1) (C := RX1) (T := TX1) (N := 8) hx hb hts (fun w9 h9 => List.mem_cons_of_mem _ (inY w9 h9)) hown hK hP 0 rfl rfl 5 (by decide) (hts (.fieldLink RX1 44 "ExactFloatsModel" "bits" "J") (List.mem_cons_of_mem _ mY_43)) (fun _ h9 => h9) rfl dY_quotient_150 ?_
              obtain ⟨y22, ey22⟩ : ∃ z : Int64, z = (if y19 < q9.2.2.2.2.2.1 then y20 else (xj_bnd (y19 - q9.2.2.2.2.2.1) (fun y22 => (xj_bnd (y20 + (1 : Int64)) (fun y23 => y23))))) := ⟨_, rfl⟩
              replace hq := xj_bz hq ey22
              obtain ⟨y23, ey23⟩ : ∃ z : Int64, z = (if y19 < q9.2.2.2.2.2.1 then y19 else (xj_bnd (y19 - q9.2.2.2.2.2.1) (fun y22 => (xj_bnd (y20 + (1 : Int64)) (fun y23 => y22))))) := ⟨_, rfl⟩
              replace hq := xj_bz hq ey23
              refine xj_join 172 (fun ls' st' => lv_has ls' 16 [(11, .long y22), (13, .long y23), (15, .int v16), (10, .int y11), (9, .int q7.2.2.2.1), (8, .int q7.2.2.2.2.1), (6, .long q7.2.2.2.2.2.1), (5, .int y1), (0, .ref k0), (1, .int p1), (2, .int p2), (3, .int p3), (4, .int p4)] ∧ st' = []) ?_ (fun K172 => ?_)
              · rintro ls st ⟨hl, rfl⟩
                obtain ⟨y24, ey24⟩ : ∃ z : Int32, z = (v16 + (1 : Int32)) := ⟨_, rfl⟩
                replace hq := xj_bz hq ey24
                refine lv_iinc (v := y24) (lv' := [(15, .int y24), (11, .long y22), (13, .long y23), (10, .int y11), (9, .int q7.2.2.2.1), (8, .int q7.2.2.2.2.1), (6, .long q7.2.2.2.2.2.1), (5, .int y1), (0, .ref k0), (1, .int p1), (2, .int p2), (3, .int p3), (4, .int p4)]) hx hb dY_quotient_172 hl (k := 2) rfl (by rw [ey24]; rfl) (by decide) rfl (fun ls hl => ?_)
                refine lv_goto (tgt := 126) hx hb dY_quotient_175 (by decide) ?_
                exact ih _ _ ⟨y23, y22, y24, hq, ⟨kz + 1, by rw [ey24, hk0]; exact nI_1 kz, ms_ctr hk0 hk1 (by assumption) (by assumption), by omega⟩, lv_sub hl [2, 1, 0, 3, 4, 5, 6, 7, 8, 9, 10, 11, 12] rfl, rfl⟩
              · refine xj_l_lt (tgt := 172) hx hb dY_quotient_153 dY_quotient_154 (by decide) (fun c21 => ?_) (fun c21 => ?_)
                · replace ey22 := xj_t ey22 c21
                  replace ey23 := xj_t ey23 c21
                  subst ey22
                  subst ey23
                  exact K172 _ _ ⟨lv_sub hl [0, 1, 2, 3, 4, 5, 6, 7, 8, 9, 10, 11, 12] rfl, rfl⟩
                · replace ey22 := xj_f ey22 c21
                  replace ey23 := xj_f ey23 c21
                  refine lv_lload hx hb dY_quotient_157 (lv_at hl 1 rfl) ?_
                  refine lv_aload_n hx hb dY_quotient_159 rfl (lv_at hl 8 rfl) ?_
                  refine va_get (D := (dC, dI)) (ci := 1) (v := .long q9.2.2.2.2.2.1) (C := RX1) (T := TX1) (N := 8) hx hb hts (fun w9 h9 => List.mem_cons_of_mem _ (inY w9 h9)) hown hK hP 0 rfl rfl 5 (by decide) (hts (.fieldLink RX1 44 "ExactFloatsModel" "bits" "J") (List.mem_cons_of_mem _ mY_43)) (fun _ h9 => h9) rfl dY_quotient_160 ?_
                  refine lv_lsub hx hb dY_quotient_163 ?_
                  refine lv_topl (fun y25 ey25 => ?_)
                  replace ey22 := xj_bz ey22 ey25
                  replace ey23 := xj_bz ey23 ey25
                  refine lv_lstore (lv' := [(13, .long y25), (11, .long y20), (15, .int v16), (10, .int y11), (9, .int q7.2.2.2.1), (8, .int q7.2.2.2.2.1), (6, .long q7.2.2.2.2.2.1), (5, .int y1), (0, .ref k0), (1, .int p1), (2, .int p2), (3, .int p3), (4, .int p4)]) hx hb dY_quotient_164 hl (by decide) rfl (fun ls hl => ?_)
                  refine lv_lload hx hb dY_quotient_166 (lv_at hl 1 rfl) ?_
                  refine lv_lconst (v := (1 : Int64)) hx hb dY_quotient_168 (by decide) ?_
                  refine lv_ladd hx hb dY_quotient_169 ?_
                  refine lv_topl (fun y26 ey26 => ?_)
                  replace ey22 := xj_bz ey22 ey26
                  replace ey23 := xj_bz ey23 ey26
                  refine lv_lstore (lv' := [(11, .long y26), (13, .long y25), (15, .int v16), (10, .int y11), (9, .int q7.2.2.2.1), (8, .int q7.2.2.2.2.1), (6, .long q7.2.2.2.2.2.1), (5, .int y1), (0, .ref k0), (1, .int p1), (2, .int p2), (3, .int p3), (4, .int p4)]) hx hb dY_quotient_170 hl (by decide) rfl (fun ls hl => ?_)
                  subst ey22
                  subst ey23
                  exact K172 _ _ ⟨lv_sub hl [0, 1, 2, 3, 4, 5, 6, 7, 8, 9, 10, 11, 12] rfl, rfl⟩
          · rintro ls st ⟨v14, v15, v16, hq, ⟨kz, hk0, hk1, hk2⟩, hl, rfl⟩
            omega
      · replace hF := xj_t hF c10
        refine lv_aload_n hx hb dY_quotient_91 rfl (lv_at hl 4 rfl) ?_
        refine lv_lconst (v := (0 : Int64)) hx hb dY_quotient_92 (by decide) ?_
        refine lv_iload hx hb dY_quotient_93 (lv_at hl 8 rfl) ?_
        obtain ⟨q33, eq33⟩ : ∃ z : Int32 × (Nat → Int64) × Int32 × Int32 × Int32 × Int32 × Int64 × Int32 × Int32, z = (mf_Y_gives q9.1 q9.2.1 q9.2.2.1 q9.2.2.2.1 q9.2.2.2.2.1 q9.2.2.2.2.2.1 (0 : Int32) (0 : Int32) (0 : Int64) p4) := ⟨_, rfl⟩
        replace hF := xj_bz hF eq33
        refine xj_vi (r := q33) (As := [.long (0 : Int64), .int p4]) (rest := []) (Wd := mw_Y k0 k_g cB_g) (wr := []) ⟨hx, hb, hml, hown, hts⟩ (by rw [eq33]; exact mc_Y_gives l dC dI k0 k_g cB_g q9.1 q9.2.1 q9.2.2.1 q9.2.2.2.1 q9.2.2.2.2.1 q9.2.2.2.2.2.1 (0 : Int32) (0 : Int32) (0 : Int64) p4 ((ms_two (xj_ge ey1 c2)).2.2) (Or.inl rfl)) (cwV 2 hts (gY_gives _) rfl rfl rfl (by decide +kernel) ⟨Nat.le_of_ble_eq_true rfl, Nat.le_of_ble_eq_true rfl⟩) hP hK hD hS hA [0, 1] [] [0] rfl (by decide) rfl (by decide) (by decide) rfl (va_recv hK hP (ci := 1) (q0 := 0) rfl rfl) rfl hl.1 rfl (Nat.le_of_ble_eq_true rfl) dY_quotient_95 ⟨Nat.zero_le _, Nat.zero_le _⟩ (fun H9 locs9 hP hD hS => ?_)
        have hP : va_P (dC, dI) vwCl [(k0, .inr (1, [.ref k_g, .int q33.2.2.1, .int q33.2.2.2.1, .int q33.2.2.2.2.1, .int q33.2.2.2.2.2.1, .long q33.2.2.2.2.2.2.1, .int q33.2.2.2.2.2.2.2.1, .int q33.2.2.2.2.2.2.2.2])), (k_g, .inl (cB_g, 8, .inr (.inl q33.2.1)))] _ := hP
        have hD : va_D A [(k0, .inr (1, [.ref k_g, .int q33.2.2.1, .int q33.2.2.2.1, .int q33.2.2.2.2.1, .int q33.2.2.2.2.2.1, .long q33.2.2.2.2.2.2.1, .int q33.2.2.2.2.2.2.2.1, .int q33.2.2.2.2.2.2.2.2])), (k_g, .inl (cB_g, 8, .inr (.inl q33.2.1)))] := hD
        exact W.iret (v := q33.1) hx hb hr (fun t ht hW => ⟨⟨_, (q33.2.1, q33.2.2.1, q33.2.2.2.1, q33.2.2.2.2.1, q33.2.2.2.2.2.1, q33.2.2.2.2.2.2.1, q33.2.2.2.2.2.2.2.1, q33.2.2.2.2.2.2.2.2), rfl, hF.symm, by rw [ht]; exact hP, hD⟩, hS.F ht⟩) hS.2.2 dY_quotient_98
    · replace hF := xj_f hF c5
      refine lv_bipush (v := (-4 : Int32)) hx hb dY_quotient_31 (by decide) ?_
      exact W.iret (v := (-4 : Int32)) hx hb hr (fun t ht hW => ⟨⟨_, (g, ak, il, mi, xe, bi, fa, cu), rfl, hF.symm, by rw [ht]; exact hP, hD⟩, hS.F ht⟩) hS.2.2 dY_quotient_33
  · replace hF := xj_f hF c2
    refine lv_iload hx hb dY_quotient_16 (lv_at hl 0 rfl) ?_
    exact W.iret (v := y1) hx hb hr (fun t ht hW => ⟨⟨_, (g, ak, il, mi, xe, bi, fa, cu), rfl, hF.symm, by rw [ht]; exact hP, hD⟩, hS.F ht⟩) hS.2.2 dY_quotient_18
def mf_Y_whole (g : Nat → Int64) (ak : Int32) (il : Int32) (mi : Int32) (xe : Int32) (bi : Int64) (fa : Int32) (cu : Int32) (p1 : Int32) (p2 : Int32) (p3 : Int32) (p4 : Int32) (p5 : Int32) : Int32 × (Nat → Int64) × Int32 × Int32 × Int32 × Int32 × Int64 × Int32 × Int32 := (xj_bnd (mf_Y_one g ak il mi xe bi fa cu p1 p2 p5) (fun y1 => (if y1 = (-5 : Int32) then ((-5 : Int32), (g, ak, il, mi, xe, bi, fa, cu)) else (xj_bnd (if 0 ≤ y1 then (xj_bnd (mf_Y_in g ak il mi xe bi fa cu p1 p2) (fun y6 => (xj_bnd (mf_Y_take g ak il mi xe bi fa cu p1 y6) (fun q7 => (xj_bnd ((q7.2.2.2.2.1 - (128 : Int32)) - (56 : Int32)) (fun y8 => (xj_bnd (if y8 ≤ 0 then (0 : Int32) else (if q7.2.2.2.2.2.1 = (0 : Int64) then (0 : Int32) else (1 : Int32))) (fun y10 => (xj_bnd (if y8 < 0 then (if y8 < (-56 : Int32) then (0 : Int64) else (xj_bnd (xj_shr q7.2.2.2.2.2.1 (-y8)) (fun y13 => (if p4 = 0 then y13 else (xj_bnd (y13 + ((xj_shr q7.2.2.2.2.2.1 ((-y8) - (1 : Int32))) &&& (1 : Int64))) (fun y15 => y15)))))) else (xj_bnd (if y8 ≤ (63 : Int32) then (xj_shl q7.2.2.2.2.2.1 y8) else (0 : Int64)) (fun y17 => y17))) (fun y12 => (xj_bnd (if q7.2.2.2.1 = 0 then y12 else (xj_bnd (-y12) (fun y14 => y14))) (fun y14 => (xj_bnd (xj_shr (xj_shl y14 ((64 : Int32) - ((8 : Int32) * p3))) ((64 : Int32) - ((8 : Int32) * p3))) (fun y15 => (xj_bnd (if (0 : Int64) ≤ y15 then (0 : Int32) else (8 : Int32)) (fun y17 => (xj_bnd (if y15 = (0 : Int64) then (4 : Int32) else (0 : Int32)) (fun y19 => (xj_bnd (if y10 = 0 then (if y15 = y14 then (0 : Int32) else (2 : Int32)) else (2 : Int32)) (fun y21 => (((y17 ||| y19) ||| y21), ((vp_updL q7.1 (Int32.toNatClampNeg p5) y15), q7.2.1, q7.2.2.1, q7.2.2.2.1, q7.2.2.2.2.1, q7.2.2.2.2.2.1, q7.2.2.2.2.2.2.1, q7.2.2.2.2.2.2.2)))))))))))))))))))))) else (y1, (g, ak, il, mi, xe, bi, fa, cu))) (fun k4 => (if p3 = (1 : Int32) then k4 else (if p3 = (2 : Int32) then k4 else (if p3 = (4 : Int32) then k4 else ((-5 : Int32), (g, ak, il, mi, xe, bi, fa, cu))))))))))
set_option maxHeartbeats 4000000 in
set_option maxRecDepth 100000 in
theorem mc_Y_whole (l : Launch) (dC : Nat → ClassId) (dI : Nat → Nat → Nat) (k0 k_g : Nat) (cB_g : ClassId) (g : Nat → Int64) (ak : Int32) (il : Int32) (mi : Int32) (xe : Int32) (bi : Int64) (fa : Int32) (cu : Int32) (p1 : Int32) (p2 : Int32) (p3 : Int32) (p4 : Int32) (p5 : Int32) : xj_Oi l (dC, dI) vwCl [(cB_g, .long)] (mw_Y k0 k_g cB_g) yY_whole wsY_whole ({ frames := 2, cells := 0, slots := 0, locals := 46 }) [.ref k0, .int p1, .int p2, .int p3, .int p4, .int p5] (g, ak, il, mi, xe, bi, fa, cu) (mf_Y_whole g ak il mi xe bi fa cu p1 p2 p3 p4 p5) := by
  intro sz
  refine Met.ofW (cc := cY_whole) (maxL := 13) (ret := (some .int)) (by decide) rfl ?_
  intro p e s m args below meth c s₁ B hml hv
  obtain ⟨rfl, hsz, hP, hK, hD0⟩ := hv
  have hx := B.exec
  have hb := B.bytes
  have hr := B.returns
  have hts := atoms_spec (ws := wsY_whole) B.pre
  have hown : s.vm.findClass RX1 = some m.cls := findClass_of_methodNamed B.named
  have hlocks := B.notSynchronized
  subst hsz
  have hD := hD0.self (sz := s.heap.size)
  generalize hAe : va_A (mw_Y k0 k_g cB_g (g, ak, il, mi, xe, bi, fa, cu)) s.heap.size = A at hD ⊢
  have hA : ∀ q : Nat, s.heap.size ≤ q → A q := fun q h => by rw [← hAe]; exact Or.inr h
  have hS : va_S A s.heap s.heap [] := va_S.rf
  have hP : va_P (dC, dI) vwCl [(k0, .inr (1, [.ref k_g, .int ak, .int il, .int mi, .int xe, .long bi, .int fa, .int cu])), (k_g, .inl (cB_g, 8, .inr (.inl g)))] s.heap := hP
  have hD : va_D A [(k0, .inr (1, [.ref k_g, .int ak, .int il, .int mi, .int xe, .long bi, .int fa, .int cu])), (k_g, .inl (cB_g, 8, .inr (.inl g)))] := hD
  generalize hT : mf_Y_whole g ak il mi xe bi fa cu p1 p2 p3 p4 p5 = T
  have hF := hT.symm
  unfold mf_Y_whole at hF
  have hl := lv_entry ([.ref k0, .int p1, .int p2, .int p3, .int p4, .int p5]) (n := 13) (Nat.le_of_ble_eq_true rfl)
  rw [lg_entry_eq]
  generalize (lg_sl ([.ref k0, .int p1, .int p2, .int p3, .int p4, .int p5]) ++ List.replicate (13 - (lg_sl ([.ref k0, .int p1, .int p2, .int p3, .int p4, .int p5])).length) Slot.unset).toArray = ls at hl ⊢
  have hl : lv_has ls 13 [(0, .ref k0), (1, .int p1), (2, .int p2), (3, .int p3), (4, .int p4), (5, .int p5)] := hl
  refine lv_aload_n hx hb dY_whole_0 rfl (lv_at hl 0 rfl) ?_
  refine lv_iload_n hx hb dY_whole_1 rfl (lv_at hl 1 rfl) ?_
  refine lv_iload_n hx hb dY_whole_2 rfl (lv_at hl 2 rfl) ?_
  refine lv_iload hx hb dY_whole_3 (lv_at hl 5 rfl) ?_
  refine xj_vi (As := [.int p1, .int p2, .int p5]) (rest := []) (Wd := mw_Y k0 k_g cB_g) (wr := []) ⟨hx, hb, hml, hown, hts⟩ (mc_Y_one l dC dI k0 k_g cB_g g ak il mi xe bi fa cu p1 p2 p5) (cwV 3 hts (gY_one _) rfl rfl rfl (by decide +kernel) ⟨Nat.le_of_ble_eq_true rfl, Nat.le_of_ble_eq_true rfl⟩) hP hK hD hS hA [0, 1] [] [0] rfl (by decide) rfl (by decide) (by decide) rfl (va_recv hK hP (ci := 1) (q0 := 0) rfl rfl) rfl hl.1 rfl (Nat.le_of_ble_eq_true rfl) dY_whole_5 ⟨Nat.zero_le _, Nat.zero_le _⟩ (fun H9 locs9 hP hD hS => ?_)
  have hP : va_P (dC, dI) vwCl [(k0, .inr (1, [.ref k_g, .int ak, .int il, .int mi, .int xe, .long bi, .int fa, .int cu])), (k_g, .inl (cB_g, 8, .inr (.inl g)))] _ := hP
  have hD : va_D A [(k0, .inr (1, [.ref k_g, .int ak, .int il, .int mi, .int xe, .long bi, .int fa, .int cu])), (k_g, .inl (cB_g, 8, .inr (.inl g)))] := hD
  refine lv_topi (fun y1 ey1 => ?_)
  replace hF := xj_bz hF ey1
  refine lv_istore (lv' := [(6, .int y1), (0, .ref k0), (1, .int p1), (2, .int p2), (3, .int p3), (4, .int p4), (5, .int p5)]) hx hb dY_whole_8 hl (by decide) rfl (fun ls hl => ?_)
  refine lv_iload hx hb dY_whole_10 (lv_at hl 0 rfl) ?_
  refine lv_bipush (v := (-5 : Int32)) hx hb dY_whole_12 (by decide) ?_
  refine lv_icmp_eq (tgt := 32) hx hb dY_whole_14 (by decide) (fun c2 => ?_) (fun c2 => ?_)
  · replace hF := xj_t hF c2
    refine lv_bipush (v := (-5 : Int32)) hx hb dY_whole_32 (by decide) ?_
    exact W.iret (v := (-5 : Int32)) hx hb hr (fun t ht hW => ⟨⟨_, (g, ak, il, mi, xe, bi, fa, cu), rfl, hF.symm, by rw [ht]; exact hP, hD⟩, hS.F ht⟩) hS.2.2 dY_whole_34
  · replace hF := xj_f hF c2
    refine lv_iload_n hx hb dY_whole_17 rfl (lv_at hl 4 rfl) ?_
    refine lv_iconst (v := (1 : Int32)) hx hb dY_whole_18 (by decide) ?_
    obtain ⟨k4, ek4, hF⟩ := xj_b hF
    refine xj_join 35 (fun ls' st' => T = k4 ∧ lv_has ls' 13 [(6, .int y1), (0, .ref k0), (1, .int p1), (2, .int p2), (3, .int p3), (4, .int p4), (5, .int p5)] ∧ st' = []) ?_ (fun K35 => ?_)
    · rintro ls st ⟨hF, hl, rfl⟩
      have hF := hF.trans ek4
      refine lv_iload hx hb dY_whole_35 (lv_at hl 0 rfl) ?_
      refine lv_if_ge (tgt := 43) hx hb dY_whole_37 (by decide) (fun c5 => ?_) (fun c5 => ?_)
      · replace hF := xj_t hF c5
        refine lv_aload_n hx hb dY_whole_43 rfl (lv_at hl 1 rfl) ?_
        refine lv_iload_n hx hb dY_whole_44 rfl (lv_at hl 2 rfl) ?_
        refine lv_aload_n hx hb dY_whole_45 rfl (lv_at hl 1 rfl) ?_
        refine lv_iload_n hx hb dY_whole_46 rfl (lv_at hl 2 rfl) ?_
        refine lv_iload_n hx hb dY_whole_47 rfl (lv_at hl 3 rfl) ?_
        refine xj_vl (As := [.int p1, .int p2]) (rest := [.int p1, .ref k0]) (Wd := mw_Y k0 k_g cB_g) (wr := []) ⟨hx, hb, hml, hown, hts⟩ (mc_Y_in l dC dI k0 k_g cB_g g ak il mi xe bi fa cu p1 p2 ((ms_one (xj_ge ey1 c5)).1)) (cwV 2 hts (gY_in _) rfl rfl rfl (by decide +kernel) ⟨Nat.le_of_ble_eq_true rfl, Nat.le_of_ble_eq_true rfl⟩) hP hK hD hS hA [0, 1] [] [0] rfl (by decide) rfl (by decide) (by decide) rfl (va_recv hK hP (ci := 1) (q0 := 0) rfl rfl) rfl hl.1 rfl (Nat.le_of_ble_eq_true rfl) dY_whole_48 ⟨Nat.zero_le _, Nat.zero_le _⟩ (fun H9 locs9 hP hD hS => ?_)
        have hP : va_P (dC, dI) vwCl [(k0, .inr (1, [.ref k_g, .int ak, .int il, .int mi, .int xe, .long bi, .int fa, .int cu])), (k_g, .inl (cB_g, 8, .inr (.inl g)))] _ := hP
        have hD : va_D A [(k0, .inr (1, [.ref k_g, .int ak, .int il, .int mi, .int xe, .long bi, .int fa, .int cu])), (k_g, .inl (cB_g, 8, .inr (.inl g)))] := hD
        refine lv_topl (fun y6 ey6 => ?_)
        replace hF := xj_bz hF ey6
        obtain ⟨q7, eq7⟩ : ∃ z : (Nat → Int64) × Int32 × Int32 × Int32 × Int32 × Int64 × Int32 × Int32, z = (mf_Y_take g ak il mi xe bi fa cu p1 y6) := ⟨_, rfl⟩
        replace hF := xj_bz hF eq7
        refine xj_vv (r := q7) (As := [.int p1, .long y6]) (rest := []) (Wd := mw_Y k0 k_g cB_g) (wr := []) ⟨hx, hb, hml, hown, hts⟩ (by rw [eq7]; exact mc_Y_take l dC dI k0 k_g cB_g g ak il mi xe bi fa cu p1 y6) (cwV 2 hts (gY_take _) rfl rfl rfl (by decide +kernel) ⟨Nat.le_of_ble_eq_true rfl, Nat.le_of_ble_eq_true rfl⟩) hP hK hD hS hA [0, 1] [] [0] rfl (by decide) rfl (by decide) (by decide) rfl (va_recv hK hP (ci := 1) (q0 := 0) rfl rfl) rfl hl.1 rfl (Nat.le_of_ble_eq_true rfl) dY_whole_51 ⟨Nat.zero_le _, Nat.zero_le _⟩ (fun H9 locs9 hP hD hS => ?_)
        have hP : va_P (dC, dI) vwCl [(k0, .inr (1, [.ref k_g, .int q7.2.1, .int q7.2.2.1, .int q7.2.2.2.1, .int q7.2.2.2.2.1, .long q7.2.2.2.2.2.1, .int q7.2.2.2.2.2.2.1, .int q7.2.2.2.2.2.2.2])), (k_g, .inl (cB_g, 8, .inr (.inl q7.1)))] _ := hP
        have hD : va_D A [(k0, .inr (1, [.ref k_g, .int q7.2.1, .int q7.2.2.1, .int q7.2.2.2.1, .int q7.2.2.2.2.1, .long q7.2.2.2.2.2.1, .int q7.2.2.2.2.2.2.1, .int q7.2.2.2.2.2.2.2])), (k_g, .inl (cB_g, 8, .inr (.inl q7.1)))] := hD
        refine lv_aload_n hx hb dY_whole_54 rfl (lv_at hl 1 rfl) ?_
        refine va_get (D := (dC, dI)) (ci := 1) (v := .int q7.2.2.2.2.1) (C := RX1) (T := TX1) (N := 8) hx hb hts (fun w9 h9 => List.mem_cons_of_mem _ (inY w9 h9)) hown hK hP 0 rfl rfl 4 (by decide) (hts (.fieldLink RX1 34 "ExactFloatsModel" "exponent" "I") (List.mem_cons_of_mem _ mY_39)) (fun _ h9 => h9) rfl dY_whole_55 ?_
        refine lv_sipush (v := (128 : Int32)) hx hb dY_whole_58 (by decide) ?_
        refine lv_isub hx hb dY_whole_61 ?_
        refine lv_bipush (v := (56 : Int32)) hx hb dY_whole_62 (by decide) ?_
        refine lv_isub hx hb dY_whole_64 ?_
        refine lv_topi (fun y8 ey8 => ?_)
        replace hF := xj_bz hF ey8
        refine lv_istore (lv' := [(7, .int y8), (6, .int y1), (0, .ref k0), (1, .int p1), (2, .int p2), (3, .int p3), (4, .int p4), (5, .int p5)]) hx hb dY_whole_65 hl (by decide) rfl (fun ls hl => ?_)
        refine lv_lconst (v := (0 : Int64)) hx hb dY_whole_67 (by decide) ?_
        refine lv_lstore (lv' := [(8, .long (0 : Int64)), (7, .int y8), (6, .int y1), (0, .ref k0), (1, .int p1), (2, .int p2), (3, .int p3), (4, .int p4), (5, .int p5)]) hx hb dY_whole_68 hl (by decide) rfl (fun ls hl => ?_)
        refine lv_iload hx hb dY_whole_70 (lv_at hl 1 rfl) ?_
        obtain ⟨y10, ey10⟩ : ∃ z : Int32, z = (if y8 ≤ 0 then (0 : Int32) else (if q7.2.2.2.2.2.1 = (0 : Int64) then (0 : Int32) else (1 : Int32))) := ⟨_, rfl⟩
        replace hF := xj_bz hF ey10
        refine xj_join 89 (fun ls' st' => lv_has ls' 13 [(8, .long (0 : Int64)), (7, .int y8), (6, .int y1), (0, .ref k0), (1, .int p1), (2, .int p2), (3, .int p3), (4, .int p4), (5, .int p5)] ∧ st' = [.int y10]) ?_ (fun K89 => ?_)
        · rintro ls st ⟨hl, rfl⟩
          refine lv_istore (lv' := [(10, .int y10), (8, .long (0 : Int64)), (7, .int y8), (6, .int y1), (0, .ref k0), (1, .int p1), (2, .int p2), (3, .int p3), (4, .int p4), (5, .int p5)]) hx hb dY_whole_89 hl (by decide) rfl (fun ls hl => ?_)
          refine lv_iload hx hb dY_whole_91 (lv_at hl 2 rfl) ?_
          obtain ⟨y12, ey12⟩ : ∃ z : Int64, z = (if y8 < 0 then (if y8 < (-56 : Int32) then (0 : Int64) else (xj_bnd (xj_shr q7.2.2.2.2.2.1 (-y8)) (fun y13 => (if p4 = 0 then y13 else (xj_bnd (y13 + ((xj_shr q7.2.2.2.2.2.1 ((-y8) - (1 : Int32))) &&& (1 : Int64))) (fun y15 => y15)))))) else (xj_bnd (if y8 ≤ (63 : Int32) then (xj_shl q7.2.2.2.2.2.1 y8) else (0 : Int64)) (fun y17 => y17))) := ⟨_, rfl⟩
          replace hF := xj_bz hF ey12
          refine xj_join 158 (fun ls' st' => lv_has ls' 13 [(10, .int y10), (8, .long y12), (7, .int y8), (6, .int y1), (0, .ref k0), (1, .int p1), (2, .int p2), (3, .int p3), (4, .int p4), (5, .int p5)] ∧ st' = []) ?_ (fun K158 => ?_)
          · rintro ls st ⟨hl, rfl⟩
            refine lv_aload_n hx hb dY_whole_158 rfl (lv_at hl 4 rfl) ?_
            refine va_get (D := (dC, dI)) (ci := 1) (v := .int q7.2.2.2.1) (C := RX1) (T := TX1) (N := 8) hx hb hts (fun w9 h9 => List.mem_cons_of_mem _ (inY w9 h9)) hown hK hP 0 rfl rfl 3 (by decide) (hts (.fieldLink RX1 29 "ExactFloatsModel" "minus" "Z") (List.mem_cons_of_mem _ mY_37)) (fun _ h9 => h9) rfl dY_whole_159 ?_
            obtain ⟨y14, ey14⟩ : ∃ z : Int64, z = (if q7.2.2.2.1 = 0 then y12 else (xj_bnd (-y12) (fun y14 => y14))) := ⟨_, rfl⟩
            replace hF := xj_bz hF ey14
            refine xj_join 170 (fun ls' st' => lv_has ls' 13 [(10, .int y10), (8, .long y14), (7, .int y8), (6, .int y1), (0, .ref k0), (1, .int p1), (2, .int p2), (3, .int p3), (4, .int p4), (5, .int p5)] ∧ st' = []) ?_ (fun K170 => ?_)
            · rintro ls st ⟨hl, rfl⟩
              refine lv_lload hx hb dY_whole_170 (lv_at hl 1 rfl) ?_
              refine lv_bipush (v := (64 : Int32)) hx hb dY_whole_172 (by decide) ?_
              refine lv_bipush (v := (8 : Int32)) hx hb dY_whole_174 (by decide) ?_
              refine lv_iload_n hx hb dY_whole_176 rfl (lv_at hl 7 rfl) ?_
              refine lv_imul hx hb dY_whole_177 ?_
              refine lv_isub hx hb dY_whole_178 ?_
              refine lv_lshl (v := (xj_shl y14 ((64 : Int32) - ((8 : Int32) * p3)))) hx hb dY_whole_179 rfl ?_
              refine lv_bipush (v := (64 : Int32)) hx hb dY_whole_180 (by decide) ?_
              refine lv_bipush (v := (8 : Int32)) hx hb dY_whole_182 (by decide) ?_
              refine lv_iload_n hx hb dY_whole_184 rfl (lv_at hl 7 rfl) ?_
              refine lv_imul hx hb dY_whole_185 ?_
              refine lv_isub hx hb dY_whole_186 ?_
              refine lv_lshr (v := (xj_shr (xj_shl y14 ((64 : Int32) - ((8 : Int32) * p3))) ((64 : Int32) - ((8 : Int32) * p3)))) hx hb dY_whole_187 rfl ?_
              refine lv_topl (fun y15 ey15 => ?_)
              replace hF := xj_bz hF ey15
              refine lv_lstore (lv' := [(11, .long y15), (10, .int y10), (8, .long y14), (7, .int y8), (6, .int y1), (0, .ref k0), (1, .int p1), (2, .int p2), (3, .int p3), (4, .int p4), (5, .int p5)]) hx hb dY_whole_188 hl (by decide) rfl (fun ls hl => ?_)
              refine lv_aload_n hx hb dY_whole_190 rfl (lv_at hl 5 rfl) ?_
              refine va_get (D := (dC, dI)) (ci := 1) (v := .ref k_g) (C := RX1) (T := TX1) (N := 8) hx hb hts (fun w9 h9 => List.mem_cons_of_mem _ (inY w9 h9)) hown hK hP 0 rfl rfl 0 (by decide) (hts (.fieldLink RX1 7 "ExactFloatsModel" "register" "[J") (List.mem_cons_of_mem _ mY_29)) (fun _ h9 => h9) rfl dY_whole_191 ?_
              refine lv_iload hx hb dY_whole_194 (lv_at hl 10 rfl) ?_
              refine lv_lload hx hb dY_whole_196 (lv_at hl 0 rfl) ?_
              refine va_last hx hb hK hP hD hS 1 0 rfl rfl ((ms_one (xj_ge ey1 c5)).2) dY_whole_198 (fun H9 locs9 hP hD hS => ?_)
              have hP : va_P (dC, dI) vwCl [(k0, .inr (1, [.ref k_g, .int q7.2.1, .int q7.2.2.1, .int q7.2.2.2.1, .int q7.2.2.2.2.1, .long q7.2.2.2.2.2.1, .int q7.2.2.2.2.2.2.1, .int q7.2.2.2.2.2.2.2])), (k_g, .inl (cB_g, 8, .inr (.inl (vp_updL q7.1 (Int32.toNatClampNeg p5) y15))))] _ := hP
              have hD : va_D A [(k0, .inr (1, [.ref k_g, .int q7.2.1, .int q7.2.2.1, .int q7.2.2.2.1, .int q7.2.2.2.2.1, .long q7.2.2.2.2.2.1, .int q7.2.2.2.2.2.2.1, .int q7.2.2.2.2.2.2.2])), (k_g, .inl (cB_g, 8, .inr (.inl (vp_updL q7.1 (Int32.toNatClampNeg p5) y15))))] := hD
              refine lv_lload hx hb dY_whole_199 (lv_at hl 0 rfl) ?_
              refine lv_lconst (v := (0 : Int64)) hx hb dY_whole_201 (by decide) ?_
              obtain ⟨y17, ey17⟩ : ∃ z : Int32, z = (if (0 : Int64) ≤ y15 then (0 : Int32) else (8 : Int32)) := ⟨_, rfl⟩
              replace hF := xj_bz hF ey17
              refine xj_join 212 (fun ls' st' => lv_has ls' 13 [(11, .long y15), (10, .int y10), (8, .long y14), (7, .int y8), (6, .int y1), (0, .ref k0), (1, .int p1), (2, .int p2), (3, .int p3), (4, .int p4), (5, .int p5)] ∧ st' = [.int y17]) ?_ (fun K212 => ?_)
              · rintro ls st ⟨hl, rfl⟩
                refine lv_lload hx hb dY_whole_212 (lv_at hl 0 rfl) ?_
                refine lv_lconst (v := (0 : Int64)) hx hb dY_whole_214 (by decide) ?_
                obtain ⟨y19, ey19⟩ : ∃ z : Int32, z = (if y15 = (0 : Int64) then (4 : Int32) else (0 : Int32)) := ⟨_, rfl⟩
                replace hF := xj_bz hF ey19
                refine xj_join 224 (fun ls' st' => lv_has ls' 13 [(11, .long y15), (10, .int y10), (8, .long y14), (7, .int y8), (6, .int y1), (0, .ref k0), (1, .int p1), (2, .int p2), (3, .int p3), (4, .int p4), (5, .int p5)] ∧ st' = [.int y19, .int y17]) ?_ (fun K224 => ?_)
                · rintro ls st ⟨hl, rfl⟩
                  refine lv_ior hx hb dY_whole_224 ?_
                  refine lv_iload hx hb dY_whole_225 (lv_at hl 1 rfl) ?_
                  obtain ⟨y21, ey21⟩ : ∃ z : Int32, z = (if y10 = 0 then (if y15 = y14 then (0 : Int32) else (2 : Int32)) else (2 : Int32)) := ⟨_, rfl⟩
                  replace hF := xj_bz hF ey21
                  refine xj_join 243 (fun ls' st' => lv_has ls' 13 [(11, .long y15), (10, .int y10), (8, .long y14), (7, .int y8), (6, .int y1), (0, .ref k0), (1, .int p1), (2, .int p2), (3, .int p3), (4, .int p4), (5, .int p5)] ∧ st' = [.int y21, .int (y17 ||| y19)]) ?_ (fun K243 => ?_)
                  · rintro ls st ⟨hl, rfl⟩
                    refine lv_ior hx hb dY_whole_243 ?_
                    exact W.iret (v := ((y17 ||| y19) ||| y21)) hx hb hr (fun t ht hW => ⟨⟨_, ((vp_updL q7.1 (Int32.toNatClampNeg p5) y15), q7.2.1, q7.2.2.1, q7.2.2.2.1, q7.2.2.2.2.1, q7.2.2.2.2.2.1, q7.2.2.2.2.2.2.1, q7.2.2.2.2.2.2.2), rfl, hF.symm, by rw [ht]; exact hP, hD⟩, hS.F ht⟩) hS.2.2 dY_whole_244
                  · refine lv_if_ne (tgt := 238) hx hb dY_whole_227 (by decide) (fun c20 => ?_) (fun c20 => ?_)
                    · replace ey21 := xj_f ey21 c20
                      refine lv_iconst (v := (2 : Int32)) hx hb dY_whole_238 (by decide) ?_
                      refine lv_goto (tgt := 243) hx hb dY_whole_239 (by decide) ?_
                      subst ey21
                      exact K243 _ _ ⟨lv_sub hl [0, 1, 2, 3, 4, 5, 6, 7, 8, 9, 10] rfl, rfl⟩
                    · replace ey21 := xj_t ey21 c20
                      refine lv_lload hx hb dY_whole_230 (lv_at hl 0 rfl) ?_
                      refine lv_lload hx hb dY_whole_232 (lv_at hl 2 rfl) ?_
                      refine xj_l_eq (tgt := 242) hx hb dY_whole_234 dY_whole_235 (by decide) (fun c22 => ?_) (fun c22 => ?_)
                      · replace ey21 := xj_t ey21 c22
                        refine lv_iconst (v := (0 : Int32)) hx hb dY_whole_242 (by decide) ?_
                        subst ey21
                        exact K243 _ _ ⟨lv_sub hl [0, 1, 2, 3, 4, 5, 6, 7, 8, 9, 10] rfl, rfl⟩
                      · replace ey21 := xj_f ey21 c22
                        refine lv_iconst (v := (2 : Int32)) hx hb dY_whole_238 (by decide) ?_
                        refine lv_goto (tgt := 243) hx hb dY_whole_239 (by decide) ?_
                        subst ey21
                        exact K243 _ _ ⟨lv_sub hl [0, 1, 2, 3, 4, 5, 6, 7, 8, 9, 10] rfl, rfl⟩
                · refine xj_l_ne (tgt := 223) hx hb dY_whole_215 dY_whole_216 (by decide) (fun c18 => ?_) (fun c18 => ?_)
                  · replace ey19 := xj_f ey19 c18
                    refine lv_iconst (v := (0 : Int32)) hx hb dY_whole_223 (by decide) ?_
                    subst ey19
                    exact K224 _ _ ⟨lv_sub hl [0, 1, 2, 3, 4, 5, 6, 7, 8, 9, 10] rfl, rfl⟩
                  · replace ey19 := xj_t ey19 c18
                    refine lv_iconst (v := (4 : Int32)) hx hb dY_whole_219 (by decide) ?_
                    refine lv_goto (tgt := 224) hx hb dY_whole_220 (by decide) ?_
                    subst ey19
                    exact K224 _ _ ⟨lv_sub hl [0, 1, 2, 3, 4, 5, 6, 7, 8, 9, 10] rfl, rfl⟩
              · refine xj_l_ge (tgt := 211) hx hb dY_whole_202 dY_whole_203 (by decide) (fun c16 => ?_) (fun c16 => ?_)
                · replace ey17 := xj_t ey17 c16
                  refine lv_iconst (v := (0 : Int32)) hx hb dY_whole_211 (by decide) ?_
                  subst ey17
                  exact K212 _ _ ⟨lv_sub hl [0, 1, 2, 3, 4, 5, 6, 7, 8, 9, 10] rfl, rfl⟩
                · replace ey17 := xj_f ey17 c16
                  refine lv_bipush (v := (8 : Int32)) hx hb dY_whole_206 (by decide) ?_
                  refine lv_goto (tgt := 212) hx hb dY_whole_208 (by decide) ?_
                  subst ey17
                  exact K212 _ _ ⟨lv_sub hl [0, 1, 2, 3, 4, 5, 6, 7, 8, 9, 10] rfl, rfl⟩
            · refine lv_if_eq (tgt := 170) hx hb dY_whole_162 (by decide) (fun c13 => ?_) (fun c13 => ?_)
              · replace ey14 := xj_t ey14 c13
                subst ey14
                exact K170 _ _ ⟨lv_sub hl [0, 1, 2, 3, 4, 5, 6, 7, 8, 9] rfl, rfl⟩
              · replace ey14 := xj_f ey14 c13
                refine lv_lload hx hb dY_whole_165 (lv_at hl 1 rfl) ?_
                refine lv_lneg hx hb dY_whole_167 ?_
                refine lv_topl (fun y23 ey23 => ?_)
                replace ey14 := xj_bz ey14 ey23
                refine lv_lstore (lv' := [(8, .long y23), (10, .int y10), (7, .int y8), (6, .int y1), (0, .ref k0), (1, .int p1), (2, .int p2), (3, .int p3), (4, .int p4), (5, .int p5)]) hx hb dY_whole_168 hl (by decide) rfl (fun ls hl => ?_)
                subst ey14
                exact K170 _ _ ⟨lv_sub hl [1, 0, 2, 3, 4, 5, 6, 7, 8, 9] rfl, rfl⟩
          · refine lv_if_lt (tgt := 119) hx hb dY_whole_93 (by decide) (fun c11 => ?_) (fun c11 => ?_)
            · replace ey12 := xj_t ey12 c11
              refine lv_iload hx hb dY_whole_119 (lv_at hl 2 rfl) ?_
              refine lv_bipush (v := (-56 : Int32)) hx hb dY_whole_121 (by decide) ?_
              refine lv_icmp_lt (tgt := 158) hx hb dY_whole_123 (by decide) (fun c24 => ?_) (fun c24 => ?_)
              · replace ey12 := xj_t ey12 c24
                subst ey12
                exact K158 _ _ ⟨lv_sub hl [0, 1, 2, 3, 4, 5, 6, 7, 8, 9] rfl, rfl⟩
              · replace ey12 := xj_f ey12 c24
                refine lv_aload_n hx hb dY_whole_126 rfl (lv_at hl 4 rfl) ?_
                refine va_get (D := (dC, dI)) (ci := 1) (v := .long q7.2.2.2.2.2.1) (C := RX1) (T := TX1) (N := 8) hx hb hts (fun w9 h9 => List.mem_cons_of_mem _ (inY w9 h9)) hown hK hP 0 rfl rfl 5 (by decide) (hts (.fieldLink RX1 44 "ExactFloatsModel" "bits" "J") (List.mem_cons_of_mem _ mY_43)) (fun _ h9 => h9) rfl dY_whole_127 ?_
                refine lv_iload hx hb dY_whole_130 (lv_at hl 2 rfl) ?_
                refine lv_ineg hx hb dY_whole_132 ?_
                refine lv_lshr (v := (xj_shr q7.2.2.2.2.2.1 (-y8))) hx hb dY_whole_133 rfl ?_
                refine lv_topl (fun y25 ey25 => ?_)
                replace ey12 := xj_bz ey12 ey25
                refine lv_lstore (lv' := [(8, .long y25), (10, .int y10), (7, .int y8), (6, .int y1), (0, .ref k0), (1, .int p1), (2, .int p2), (3, .int p3), (4, .int p4), (5, .int p5)]) hx hb dY_whole_134 hl (by decide) rfl (fun ls hl => ?_)
                refine lv_iload hx hb dY_whole_136 (lv_at hl 8 rfl) ?_
                refine lv_if_eq (tgt := 158) hx hb dY_whole_138 (by decide) (fun c26 => ?_) (fun c26 => ?_)
                · replace ey12 := xj_t ey12 c26
                  subst ey12
                  exact K158 _ _ ⟨lv_sub hl [1, 0, 2, 3, 4, 5, 6, 7, 8, 9] rfl, rfl⟩
                · replace ey12 := xj_f ey12 c26
                  refine lv_lload hx hb dY_whole_141 (lv_at hl 0 rfl) ?_
                  refine lv_aload_n hx hb dY_whole_143 rfl (lv_at hl 4 rfl) ?_
                  refine va_get (D := (dC, dI)) (ci := 1) (v := .long q7.2.2.2.2.2.1) (C := RX1) (T := TX1) (N := 8) hx hb hts (fun w9 h9 => List.mem_cons_of_mem _ (inY w9 h9)) hown hK hP 0 rfl rfl 5 (by decide) (hts (.fieldLink RX1 44 "ExactFloatsModel" "bits" "J") (List.mem_cons_of_mem _ mY_43)) (fun _ h9 => h9) rfl dY_whole_144 ?_
                  refine lv_iload hx hb dY_whole_147 (lv_at hl 2 rfl) ?_
                  refine lv_ineg hx hb dY_whole_149 ?_
                  refine lv_iconst (v := (1 : Int32)) hx hb dY_whole_150 (by decide) ?_
                  refine lv_isub hx hb dY_whole_151 ?_
                  refine lv_lshr (v := (xj_shr q7.2.2.2.2.2.1 ((-y8) - (1 : Int32)))) hx hb dY_whole_152 rfl ?_
                  refine lv_lconst (v := (1 : Int64)) hx hb dY_whole_153 (by decide) ?_
                  refine lv_land hx hb dY_whole_154 ?_
                  refine lv_ladd hx hb dY_whole_155 ?_
                  refine lv_topl (fun y27 ey27 => ?_)
                  replace ey12 := xj_bz ey12 ey27
                  refine lv_lstore (lv' := [(8, .long y27), (10, .int y10), (7, .int y8), (6, .int y1), (0, .ref k0), (1, .int p1), (2, .int p2), (3, .int p3), (4, .int p4), (5, .int p5)]) hx hb dY_whole_156 hl (by decide) rfl (fun ls hl => ?_)
                  subst ey12
                  exact K158 _ _ ⟨lv_sub hl [1, 0, 2, 3, 4, 5, 6, 7, 8, 9] rfl, rfl⟩
            · replace ey12 := xj_f ey12 c11
              refine lv_iload hx hb dY_whole_96 (lv_at hl 2 rfl) ?_
              refine lv_bipush (v := (63 : Int32)) hx hb dY_whole_98 (by decide) ?_
              obtain ⟨y29, ey29⟩ : ∃ z : Int64, z = (if y8 ≤ (63 : Int32) then (xj_shl q7.2.2.2.2.2.1 y8) else (0 : Int64)) := ⟨_, rfl⟩
              replace ey12 := xj_bz ey12 ey29
              refine xj_join 114 (fun ls' st' => lv_has ls' 13 [(10, .int y10), (8, .long (0 : Int64)), (7, .int y8), (6, .int y1), (0, .ref k0), (1, .int p1), (2, .int p2), (3, .int p3), (4, .int p4), (5, .int p5)] ∧ st' = [.long y29]) ?_ (fun K114 => ?_)
              · rintro ls st ⟨hl, rfl⟩
                refine lv_lstore (lv' := [(8, .long y29), (10, .int y10), (7, .int y8), (6, .int y1), (0, .ref k0), (1, .int p1), (2, .int p2), (3, .int p3), (4, .int p4), (5, .int p5)]) hx hb dY_whole_114 hl (by decide) rfl (fun ls hl => ?_)
                refine lv_goto (tgt := 158) hx hb dY_whole_116 (by decide) ?_
                subst ey12
                exact K158 _ _ ⟨lv_sub hl [1, 0, 2, 3, 4, 5, 6, 7, 8, 9] rfl, rfl⟩
              · refine lv_icmp_le (tgt := 107) hx hb dY_whole_100 (by decide) (fun c28 => ?_) (fun c28 => ?_)
                · replace ey29 := xj_t ey29 c28
                  refine lv_aload_n hx hb dY_whole_107 rfl (lv_at hl 4 rfl) ?_
                  refine va_get (D := (dC, dI)) (ci := 1) (v := .long q7.2.2.2.2.2.1) (C := RX1) (T := TX1) (N := 8) hx hb hts (fun w9 h9 => List.mem_cons_of_mem _ (inY w9 h9)) hown hK hP 0 rfl rfl 5 (by decide) (hts (.fieldLink RX1 44 "ExactFloatsModel" "bits" "J") (List.mem_cons_of_mem _ mY_43)) (fun _ h9 => h9) rfl dY_whole_108 ?_
                  refine lv_iload hx hb dY_whole_111 (lv_at hl 2 rfl) ?_
                  refine lv_lshl (v := (xj_shl q7.2.2.2.2.2.1 y8)) hx hb dY_whole_113 rfl ?_
                  subst ey29
                  exact K114 _ _ ⟨lv_sub hl [0, 1, 2, 3, 4, 5, 6, 7, 8, 9] rfl, rfl⟩
                · replace ey29 := xj_f ey29 c28
                  refine lv_lconst (v := (0 : Int64)) hx hb dY_whole_103 (by decide) ?_
                  refine lv_goto (tgt := 114) hx hb dY_whole_104 (by decide) ?_
                  subst ey29
                  exact K114 _ _ ⟨lv_sub hl [0, 1, 2, 3, 4, 5, 6, 7, 8, 9] rfl, rfl⟩
        · refine lv_if_le (tgt := 88) hx hb dY_whole_72 (by decide) (fun c9 => ?_) (fun c9 => ?_)
          · replace ey10 := xj_t ey10 c9
            refine lv_iconst (v := (0 : Int32)) hx hb dY_whole_88 (by decide) ?_
            subst ey10
            exact K89 _ _ ⟨lv_sub hl [0, 1, 2, 3, 4, 5, 6, 7, 8] rfl, rfl⟩
          · replace ey10 := xj_f ey10 c9
            refine lv_aload_n hx hb dY_whole_75 rfl (lv_at hl 3 rfl) ?_
            refine va_get (D := (dC, dI)) (ci := 1) (v := .long q7.2.2.2.2.2.1) (C := RX1) (T := TX1) (N := 8) hx hb hts (fun w9 h9 => List.mem_cons_of_mem _ (inY w9 h9)) hown hK hP 0 rfl rfl 5 (by decide) (hts (.fieldLink RX1 44 "ExactFloatsModel" "bits" "J") (List.mem_cons_of_mem _ mY_43)) (fun _ h9 => h9) rfl dY_whole_76 ?_
            refine lv_lconst (v := (0 : Int64)) hx hb dY_whole_79 (by decide) ?_
            refine xj_l_eq (tgt := 88) hx hb dY_whole_80 dY_whole_81 (by decide) (fun c30 => ?_) (fun c30 => ?_)
            · replace ey10 := xj_t ey10 c30
              refine lv_iconst (v := (0 : Int32)) hx hb dY_whole_88 (by decide) ?_
              subst ey10
              exact K89 _ _ ⟨lv_sub hl [0, 1, 2, 3, 4, 5, 6, 7, 8] rfl, rfl⟩
            · replace ey10 := xj_f ey10 c30
              refine lv_iconst (v := (1 : Int32)) hx hb dY_whole_84 (by decide) ?_
              refine lv_goto (tgt := 89) hx hb dY_whole_85 (by decide) ?_
              subst ey10
              exact K89 _ _ ⟨lv_sub hl [0, 1, 2, 3, 4, 5, 6, 7, 8] rfl, rfl⟩
      · replace hF := xj_f hF c5
        refine lv_iload hx hb dY_whole_40 (lv_at hl 0 rfl) ?_
        exact W.iret (v := y1) hx hb hr (fun t ht hW => ⟨⟨_, (g, ak, il, mi, xe, bi, fa, cu), rfl, hF.symm, by rw [ht]; exact hP, hD⟩, hS.F ht⟩) hS.2.2 dY_whole_42
    · refine lv_icmp_eq (tgt := 35) hx hb dY_whole_19 (by decide) (fun c3 => ?_) (fun c3 => ?_)
      · replace hF := xj_t hF c3
        exact K35 _ _ ⟨hF, lv_sub hl [0, 1, 2, 3, 4, 5, 6] rfl, rfl⟩
      · replace hF := xj_f hF c3
        refine lv_iload_n hx hb dY_whole_22 rfl (lv_at hl 4 rfl) ?_
        refine lv_iconst (v := (2 : Int32)) hx hb dY_whole_23 (by decide) ?_
        refine lv_icmp_eq (tgt := 35) hx hb dY_whole_24 (by decide) (fun c31 => ?_) (fun c31 => ?_)
        · replace hF := xj_t hF c31
          exact K35 _ _ ⟨hF, lv_sub hl [0, 1, 2, 3, 4, 5, 6] rfl, rfl⟩
        · replace hF := xj_f hF c31
          refine lv_iload_n hx hb dY_whole_27 rfl (lv_at hl 4 rfl) ?_
          refine lv_iconst (v := (4 : Int32)) hx hb dY_whole_28 (by decide) ?_
          refine lv_icmp_eq (tgt := 35) hx hb dY_whole_29 (by decide) (fun c32 => ?_) (fun c32 => ?_)
          · replace hF := xj_t hF c32
            exact K35 _ _ ⟨hF, lv_sub hl [0, 1, 2, 3, 4, 5, 6] rfl, rfl⟩
          · replace hF := xj_f hF c32
            refine lv_bipush (v := (-5 : Int32)) hx hb dY_whole_32 (by decide) ?_
            exact W.iret (v := (-5 : Int32)) hx hb hr (fun t ht hW => ⟨⟨_, (g, ak, il, mi, xe, bi, fa, cu), rfl, hF.symm, by rw [ht]; exact hP, hD⟩, hS.F ht⟩) hS.2.2 dY_whole_34
