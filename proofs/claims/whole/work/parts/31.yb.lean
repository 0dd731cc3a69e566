def ml_Y_rounds_27 (p3 : Int64) : Nat → Int32 → Int32
  | 0, v3 => v3
  | n + 1, v3 => (if (63 : Int32) ≤ v3 then v3 else (if (xj_shr p3 v3) = (0 : Int64) then v3 else (xj_bnd (v3 + (1 : Int32)) (fun y7 => (ml_Y_rounds_27 p3 n y7)))))
theorem ml_Y_rounds_27_s (p3 : Int64) (n : Nat) (v3 : Int32) : ml_Y_rounds_27 p3 (n + 1) v3 = (if (63 : Int32) ≤ v3 then v3 else (if (xj_shr p3 v3) = (0 : Int64) then v3 else (xj_bnd (v3 + (1 : Int32)) (fun y7 => (ml_Y_rounds_27 p3 n y7))))) := rfl
def mf_Y_rounds (g : Nat → Int64) (ak : Int32) (il : Int32) (mi : Int32) (xe : Int32) (bi : Int64) (fa : Int32) (cu : Int32) (p1 : Int32) (p2 : Int32) (p3 : Int64) (p4 : Int32) (p5 : Int32) : Int64 × (Nat → Int64) × Int32 × Int32 × Int32 × Int32 × Int64 × Int32 × Int32 := (if p3 = (0 : Int64) then ((0 : Int64), (g, ak, il, mi, xe, bi, (0 : Int32), (0 : Int32))) else (xj_bnd (mf_Y_many p1) (fun y2 => (xj_bnd (ml_Y_rounds_27 p3 64 (0 : Int32)) (fun q4 => (xj_bnd (q4 - y2) (fun y8 => (xj_bnd (if y8 ≤ 0 then (xj_bnd (xj_shl p3 (-y8)) (fun y10 => y10)) else (xj_bnd ((xj_shr p3 y8) + ((xj_shr p3 (y8 - (1 : Int32))) &&& (1 : Int64))) (fun y11 => (xj_bnd (if p5 = 0 then (if (p3 &&& ((xj_shl (1 : Int64) y8) - (1 : Int64))) = (0 : Int64) then (0 : Int32) else (1 : Int32)) else (1 : Int32)) (fun y13 => y11))))) (fun y10 => (xj_bnd (if y8 ≤ 0 then (xj_bnd (xj_shl p3 (-y8)) (fun y10 => p5)) else (xj_bnd ((xj_shr p3 y8) + ((xj_shr p3 (y8 - (1 : Int32))) &&& (1 : Int64))) (fun y11 => (xj_bnd (if p5 = 0 then (if (p3 &&& ((xj_shl (1 : Int64) y8) - (1 : Int64))) = (0 : Int64) then (0 : Int32) else (1 : Int32)) else (1 : Int32)) (fun y13 => y13))))) (fun y11 => (xj_bnd (if (xj_shr y10 y2) = (0 : Int64) then y10 else (xj_bnd (xj_shr y10 (1 : Int32)) (fun y13 => (xj_bnd (y8 + (1 : Int32)) (fun y14 => y13))))) (fun y13 => (xj_bnd (if (xj_shr y10 y2) = (0 : Int64) then y8 else (xj_bnd (xj_shr y10 (1 : Int32)) (fun y13 => (xj_bnd (y8 + (1 : Int32)) (fun y14 => y14))))) (fun y14 => (xj_bnd (((p4 + y14) + y2) + (128 : Int32)) (fun y15 => (if y15 ≤ (255 : Int32) then (if (1 : Int32) ≤ y15 then (xj_bnd (if p1 = (8 : Int32) then y13 else (xj_shl y13 (32 : Int32))) (fun y19 => (xj_bnd (y19 &&& (36028797018963967 : Int64)) (fun y20 => (xj_bnd (if p2 = 0 then (0 : Int64) else (32768 : Int64)) (fun y22 => (xj_bnd (((y22 ||| (xj_shl (Int32.toInt64 y15) (7 : Int32))) ||| (xj_shr y20 (48 : Int32))) ||| (xj_shl ((xj_shr y20 (32 : Int32)) &&& (65535 : Int64)) (16 : Int32))) (fun y23 => (if p1 = (8 : Int32) then (((y23 ||| (xj_shl ((xj_shr y20 (16 : Int32)) &&& (65535 : Int64)) (32 : Int32))) ||| (xj_shl (y20 &&& (65535 : Int64)) (48 : Int32))), (g, ak, il, mi, xe, bi, (0 : Int32), y11)) else (y23, (g, ak, il, mi, xe, bi, (0 : Int32), y11))))))))))) else (xj_bnd (if ak = 0 then (0 : Int32) else (-3 : Int32)) (fun y26 => ((0 : Int64), (g, ak, il, mi, xe, bi, y26, (1 : Int32)))))) else ((0 : Int64), (g, ak, il, mi, xe, bi, (-2 : Int32), y11))))))))))))))))))))
set_option maxHeartbeats 4000000 in
set_option maxRecDepth 100000 in
theorem mc_Y_rounds (l : Launch) (dC : Nat → ClassId) (dI : Nat → Nat → Nat) (k0 k_g : Nat) (cB_g : ClassId) (g : Nat → Int64) (ak : Int32) (il : Int32) (mi : Int32) (xe : Int32) (bi : Int64) (fa : Int32) (cu : Int32) (p1 : Int32) (p2 : Int32) (p3 : Int64) (p4 : Int32) (p5 : Int32) (hb5 : p5 = 0 ∨ p5 = 1) : xj_Ol l (dC, dI) vwCl [(cB_g, .long)] (mw_Y k0 k_g cB_g) yY_rounds wsY_rounds ({ frames := 1, cells := 0, slots := 0, locals := 20 }) [.ref k0, .int p1, .int p2, .long p3, .int p4, .int p5] (g, ak, il, mi, xe, bi, fa, cu) (mf_Y_rounds g ak il mi xe bi fa cu p1 p2 p3 p4 p5) := by
  intro sz
  refine Met.ofW (cc := cY_rounds) (maxL := 17) (ret := (some .long)) (by decide) rfl ?_
  intro p e s m args below meth c s₁ B hml hv
  obtain ⟨rfl, hsz, hP, hK, hD0⟩ := hv
  have hx := B.exec
  have hb := B.bytes
  have hr := B.returns
  have hts := atoms_spec (ws := wsY_rounds) B.pre
  have hown : s.vm.findClass RX1 = some m.cls := findClass_of_methodNamed B.named
  have hlocks := B.notSynchronized
  subst hsz
  have hD := hD0.self (sz := s.heap.size)
  generalize hAe : va_A (mw_Y k0 k_g cB_g (g, ak, il, mi, xe, bi, fa, cu)) s.heap.size = A at hD ⊢
  have hA : ∀ q : Nat, s.heap.size ≤ q → A q := fun q h => by rw [← hAe]; exact Or.inr h
  have hS : va_S A s.heap s.heap [] := va_S.rf
  have hP : va_P (dC, dI) vwCl [(k0, .inr (1, [.ref k_g, .int ak, .int il, .int mi, .int xe, .long bi, .int fa, .int cu])), (k_g, .inl (cB_g, 8, .inr (.inl g)))] s.heap := hP
  have hD : va_D A [(k0, .inr (1, [.ref k_g, .int ak, .int il, .int mi, .int xe, .long bi, .int fa, .int cu])), (k_g, .inl (cB_g, 8, .inr (.inl g)))] := hD
  generalize hT : mf_Y_rounds g ak il mi xe bi fa cu p1 p2 p3 p4 p5 = T
  have hF := hT.symm
  unfold mf_Y_rounds at hF
  have hl := lv_entry ([.ref k0, .int p1, .int p2, .long p3, .int p4, .int p5]) (n := 17) (Nat.le_of_ble_eq_true rfl)
  rw [lg_entry_eq]
  generalize (lg_sl ([.ref k0, .int p1, .int p2, .long p3, .int p4, .int p5]) ++ List.replicate (17 - (lg_sl ([.ref k0, .int p1, .int p2, .long p3, .int p4, .int p5])).length) Slot.unset).toArray = ls at hl ⊢
  have hl : lv_has ls 17 [(0, .ref k0), (1, .int p1), (2, .int p2), (3, .long p3), (5, .int p4), (6, .int p5)] := hl
  refine lv_aload_n hx hb dY_rounds_0 rfl (lv_at hl 0 rfl) ?_
  refine lv_iconst (v := (0 : Int32)) hx hb dY_rounds_1 (by decide) ?_
  refine va_put (D := (dC, dI)) (ci := 1) (v := .int (0 : Int32)) (ty := .int) (C := RX1) (T := TX1) (N := 8) hx hb hts (fun w9 h9 => List.mem_cons_of_mem _ (inY w9 h9)) tyX1 tyX1_ok nmX1 hown hK hP hD hS 0 rfl rfl 6 (by decide) (hts (.fieldLink RX1 48 "ExactFloatsModel" "fault" "I") (List.mem_cons_of_mem _ mY_44)) (fun _ h9 => h9) rfl (by decide +kernel) rfl rfl (Nat.le_of_ble_eq_true rfl) dY_rounds_2 (fun H9 locs9 hP hD hS => ?_)
  have hP : va_P (dC, dI) vwCl [(k0, .inr (1, [.ref k_g, .int ak, .int il, .int mi, .int xe, .long bi, .int (0 : Int32), .int cu])), (k_g, .inl (cB_g, 8, .inr (.inl g)))] _ := hP
  have hD : va_D A [(k0, .inr (1, [.ref k_g, .int ak, .int il, .int mi, .int xe, .long bi, .int (0 : Int32), .int cu])), (k_g, .inl (cB_g, 8, .inr (.inl g)))] := hD
  refine lv_aload_n hx hb dY_rounds_5 rfl (lv_at hl 0 rfl) ?_
  refine lv_iconst (v := (0 : Int32)) hx hb dY_rounds_6 (by decide) ?_
  refine va_put (D := (dC, dI)) (ci := 1) (v := .int (0 : Int32)) (ty := .boolean) (C := RX1) (T := TX1) (N := 8) hx hb hts (fun w9 h9 => List.mem_cons_of_mem _ (inY w9 h9)) tyX1 tyX1_ok nmX1 hown hK hP hD hS 0 rfl rfl 7 (by decide) (hts (.fieldLink RX1 51 "ExactFloatsModel" "cut" "Z") (List.mem_cons_of_mem _ mY_45)) (fun _ h9 => h9) rfl (by decide +kernel) rfl rfl (Nat.le_of_ble_eq_true rfl) dY_rounds_7 (fun H9 locs9 hP hD hS => ?_)
  have hP : va_P (dC, dI) vwCl [(k0, .inr (1, [.ref k_g, .int ak, .int il, .int mi, .int xe, .long bi, .int (0 : Int32), .int (0 : Int32)])), (k_g, .inl (cB_g, 8, .inr (.inl g)))] _ := hP
  have hD : va_D A [(k0, .inr (1, [.ref k_g, .int ak, .int il, .int mi, .int xe, .long bi, .int (0 : Int32), .int (0 : Int32)])), (k_g, .inl (cB_g, 8, .inr (.inl g)))] := hD
  refine lv_lload_n hx hb dY_rounds_10 rfl (lv_at hl 3 rfl) ?_
  refine lv_lconst (v := (0 : Int64)) hx hb dY_rounds_11 (by decide) ?_
  refine xj_l_ne (tgt := 18) hx hb dY_rounds_12 dY_rounds_13 (by decide) (fun c1 => ?_) (fun c1 => ?_)
  · replace hF := xj_f hF c1
    refine lv_iload_n hx hb dY_rounds_18 rfl (lv_at hl 1 rfl) ?_
    refine xj_si (As := [.int p1]) (rest := []) ⟨hx, hb, hml, hown, hts⟩ (mc_Y_many l p1) (va_cwS 1 hts (gY_many _) rfl rfl rfl (by decide +kernel) ⟨Nat.le_of_ble_eq_true rfl, Nat.le_of_ble_eq_true rfl⟩) hS hA rfl hl.1 rfl (Nat.le_of_ble_eq_true rfl) dY_rounds_19 ⟨Nat.zero_le _, Nat.zero_le _⟩ (fun H9 locs9 hk9 hS => ?_)
    have hP := xj_kept hP hk9
    refine lv_topi (fun y2 ey2 => ?_)
    replace hF := xj_bz hF ey2
    refine lv_istore (lv' := [(7, .int y2), (0, .ref k0), (1, .int p1), (2, .int p2), (3, .long p3), (5, .int p4), (6, .int p5)]) hx hb dY_rounds_22 hl (by decide) rfl (fun ls hl => ?_)
    refine lv_iconst (v := (0 : Int32)) hx hb dY_rounds_24 (by decide) ?_
    refine lv_istore (lv' := [(8, .int (0 : Int32)), (7, .int y2), (0, .ref k0), (1, .int p1), (2, .int p2), (3, .long p3), (5, .int p4), (6, .int p5)]) hx hb dY_rounds_25 hl (by decide) rfl (fun ls hl => ?_)
    obtain ⟨q4, eq4⟩ : ∃ z : Int32, z = (ml_Y_rounds_27 p3 64 (0 : Int32)) := ⟨_, rfl⟩
    replace hF := xj_bz hF eq4
    refine xj_join 49 (fun ls' st' => lv_has ls' 17 [(8, .int q4), (7, .int y2), (0, .ref k0), (1, .int p1), (2, .int p2), (3, .long p3), (5, .int p4), (6, .int p5)] ∧ st' = []) ?_ (fun K49 => ?_)
    · rintro ls st ⟨hl, rfl⟩
      refine lv_iload hx hb dY_rounds_49 (lv_at hl 0 rfl) ?_
      refine lv_iload hx hb dY_rounds_51 (lv_at hl 1 rfl) ?_
      refine lv_isub hx hb dY_rounds_53 ?_
      refine lv_topi (fun y8 ey8 => ?_)
      replace hF := xj_bz hF ey8
      refine lv_istore (lv' := [(9, .int y8), (8, .int q4), (7, .int y2), (0, .ref k0), (1, .int p1), (2, .int p2), (3, .long p3), (5, .int p4), (6, .int p5)]) hx hb dY_rounds_54 hl (by decide) rfl (fun ls hl => ?_)
      refine lv_iload hx hb dY_rounds_56 (lv_at hl 0 rfl) ?_
      obtain ⟨y10, ey10⟩ : ∃ z : Int64, z = (if y8 ≤ 0 then (xj_bnd (xj_shl p3 (-y8)) (fun y10 => y10)) else (xj_bnd ((xj_shr p3 y8) + ((xj_shr p3 (y8 - (1 : Int32))) &&& (1 : Int64))) (fun y11 => (xj_bnd (if p5 = 0 then (if (p3 &&& ((xj_shl (1 : Int64) y8) - (1 : Int64))) = (0 : Int64) then (0 : Int32) else (1 : Int32)) else (1 : Int32)) (fun y13 => y11))))) := ⟨_, rfl⟩
      replace hF := xj_bz hF ey10
      obtain ⟨y11, ey11⟩ : ∃ z : Int32, z = (if y8 ≤ 0 then (xj_bnd (xj_shl p3 (-y8)) (fun y10 => p5)) else (xj_bnd ((xj_shr p3 y8) + ((xj_shr p3 (y8 - (1 : Int32))) &&& (1 : Int64))) (fun y11 => (xj_bnd (if p5 = 0 then (if (p3 &&& ((xj_shl (1 : Int64) y8) - (1 : Int64))) = (0 : Int64) then (0 : Int32) else (1 : Int32)) else (1 : Int32)) (fun y13 => y13))))) := ⟨_, rfl⟩
      replace hF := xj_bz hF ey11
      refine xj_joinH 119 (fun H' locs' ls' st' => va_P (dC, dI) vwCl [(k0, .inr (1, [.ref k_g, .int ak, .int il, .int mi, .int xe, .long bi, .int (0 : Int32), .int y11])), (k_g, .inl (cB_g, 8, .inr (.inl g)))] H' ∧ va_D A [(k0, .inr (1, [.ref k_g, .int ak, .int il, .int mi, .int xe, .long bi, .int (0 : Int32), .int y11])), (k_g, .inl (cB_g, 8, .inr (.inl g)))] ∧ va_S A s.heap H' locs' ∧ lv_has ls' 17 [(10, .long y10), (9, .int y8), (8, .int q4), (7, .int y2), (0, .ref k0), (1, .int p1), (2, .int p2), (3, .long p3), (5, .int p4), (6, .int p5)] ∧ st' = []) ?_ (fun K119 => ?_)
      · rintro H9 locs9 ls st ⟨hP, hD, hS, hl, rfl⟩
        refine lv_lload hx hb dY_rounds_119 (lv_at hl 0 rfl) ?_
        refine lv_iload hx hb dY_rounds_121 (lv_at hl 3 rfl) ?_
        refine lv_lshr (v := (xj_shr y10 y2)) hx hb dY_rounds_123 rfl ?_
        refine lv_lconst (v := (0 : Int64)) hx hb dY_rounds_124 (by decide) ?_
        obtain ⟨y13, ey13⟩ : ∃ z : Int64, z = (if (xj_shr y10 y2) = (0 : Int64) then y10 else (xj_bnd (xj_shr y10 (1 : Int32)) (fun y13 => (xj_bnd (y8 + (1 : Int32)) (fun y14 => y13))))) := ⟨_, rfl⟩
        replace hF := xj_bz hF ey13
        obtain ⟨y14, ey14⟩ : ∃ z : Int32, z = (if (xj_shr y10 y2) = (0 : Int64) then y8 else (xj_bnd (xj_shr y10 (1 : Int32)) (fun y13 => (xj_bnd (y8 + (1 : Int32)) (fun y14 => y14))))) := ⟨_, rfl⟩
        replace hF := xj_bz hF ey14
        refine xj_join 138 (fun ls' st' => lv_has ls' 17 [(10, .long y13), (9, .int y14), (8, .int q4), (7, .int y2), (0, .ref k0), (1, .int p1), (2, .int p2), (3, .long p3), (5, .int p4), (6, .int p5)] ∧ st' = []) ?_ (fun K138 => ?_)
        · rintro ls st ⟨hl, rfl⟩
          refine lv_iload hx hb dY_rounds_138 (lv_at hl 8 rfl) ?_
          refine lv_iload hx hb dY_rounds_140 (lv_at hl 1 rfl) ?_
          refine lv_iadd hx hb dY_rounds_142 ?_
          refine lv_iload hx hb dY_rounds_143 (lv_at hl 3 rfl) ?_
          refine lv_iadd hx hb dY_rounds_145 ?_
          refine lv_sipush (v := (128 : Int32)) hx hb dY_rounds_146 (by decide) ?_
          refine lv_iadd hx hb dY_rounds_149 ?_
          refine lv_topi (fun y15 ey15 => ?_)
          replace hF := xj_bz hF ey15
          refine lv_istore (lv' := [(12, .int y15), (10, .long y13), (9, .int y14), (8, .int q4), (7, .int y2), (0, .ref k0), (1, .int p1), (2, .int p2), (3, .long p3), (5, .int p4), (6, .int p5)]) hx hb dY_rounds_150 hl (by decide) rfl (fun ls hl => ?_)
          refine lv_iload hx hb dY_rounds_152 (lv_at hl 0 rfl) ?_
          refine lv_sipush (v := (255 : Int32)) hx hb dY_rounds_154 (by decide) ?_
          refine lv_icmp_le (tgt := 168) hx hb dY_rounds_157 (by decide) (fun c16 => ?_) (fun c16 => ?_)
          · replace hF := xj_t hF c16
            refine lv_iload hx hb dY_rounds_168 (lv_at hl 0 rfl) ?_
            refine lv_iconst (v := (1 : Int32)) hx hb dY_rounds_170 (by decide) ?_
            refine lv_icmp_ge (tgt := 194) hx hb dY_rounds_171 (by decide) (fun c17 => ?_) (fun c17 => ?_)
            · replace hF := xj_t hF c17
              refine lv_iload_n hx hb dY_rounds_194 rfl (lv_at hl 6 rfl) ?_
              refine lv_bipush (v := (8 : Int32)) hx hb dY_rounds_195 (by decide) ?_
              obtain ⟨y19, ey19⟩ : ∃ z : Int64, z = (if p1 = (8 : Int32) then y13 else (xj_shl y13 (32 : Int32))) := ⟨_, rfl⟩
              replace hF := xj_bz hF ey19
              refine xj_join 210 (fun ls' st' => lv_has ls' 17 [(12, .int y15), (10, .long y13), (9, .int y14), (8, .int q4), (7, .int y2), (0, .ref k0), (1, .int p1), (2, .int p2), (3, .long p3), (5, .int p4), (6, .int p5)] ∧ st' = [.long y19]) ?_ (fun K210 => ?_)
              · rintro ls st ⟨hl, rfl⟩
                refine lv_ldc2 (own := RX1) (v := (36028797018963967 : Int64)) hx hb hown (hts (.constantLong RX1 58 (36028797018963967 : Int64)) (List.mem_cons_of_mem _ mY_48)) dY_rounds_210 ?_
                refine lv_land hx hb dY_rounds_213 ?_
                refine lv_topl (fun y20 ey20 => ?_)
                replace hF := xj_bz hF ey20
                refine lv_lstore (lv' := [(13, .long y20), (12, .int y15), (10, .long y13), (9, .int y14), (8, .int q4), (7, .int y2), (0, .ref k0), (1, .int p1), (2, .int p2), (3, .long p3), (5, .int p4), (6, .int p5)]) hx hb dY_rounds_214 hl (by decide) rfl (fun ls hl => ?_)
                refine lv_iload_n hx hb dY_rounds_216 rfl (lv_at hl 8 rfl) ?_
                obtain ⟨y22, ey22⟩ : ∃ z : Int64, z = (if p2 = 0 then (0 : Int64) else (32768 : Int64)) := ⟨_, rfl⟩
                replace hF := xj_bz hF ey22
                refine xj_join 227 (fun ls' st' => lv_has ls' 17 [(13, .long y20), (12, .int y15), (10, .long y13), (9, .int y14), (8, .int q4), (7, .int y2), (0, .ref k0), (1, .int p1), (2, .int p2), (3, .long p3), (5, .int p4), (6, .int p5)] ∧ st' = [.long y22]) ?_ (fun K227 => ?_)
                · rintro ls st ⟨hl, rfl⟩
                  refine lv_iload hx hb dY_rounds_227 (lv_at hl 1 rfl) ?_
                  refine lv_i2l (v := (Int32.toInt64 y15)) hx hb dY_rounds_229 rfl ?_
                  refine lv_bipush (v := (7 : Int32)) hx hb dY_rounds_230 (by decide) ?_
                  refine lv_lshl (v := (xj_shl (Int32.toInt64 y15) (7 : Int32))) hx hb dY_rounds_232 rfl ?_
                  refine lv_lor hx hb dY_rounds_233 ?_
                  refine lv_lload hx hb dY_rounds_234 (lv_at hl 0 rfl) ?_
                  refine lv_bipush (v := (48 : Int32)) hx hb dY_rounds_236 (by decide) ?_
                  refine lv_lshr (v := (xj_shr y20 (48 : Int32))) hx hb dY_rounds_238 rfl ?_
                  refine lv_lor hx hb dY_rounds_239 ?_
                  refine lv_lload hx hb dY_rounds_240 (lv_at hl 0 rfl) ?_
                  refine lv_bipush (v := (32 : Int32)) hx hb dY_rounds_242 (by decide) ?_
                  refine lv_lshr (v := (xj_shr y20 (32 : Int32))) hx hb dY_rounds_244 rfl ?_
                  refine lv_ldc2 (own := RX1) (v := (65535 : Int64)) hx hb hown (hts (.constantLong RX1 40 (65535 : Int64)) (List.mem_cons_of_mem _ mY_41)) dY_rounds_245 ?_
                  refine lv_land hx hb dY_rounds_248 ?_
                  refine lv_bipush (v := (16 : Int32)) hx hb dY_rounds_249 (by decide) ?_
                  refine lv_lshl (v := (xj_shl ((xj_shr y20 (32 : Int32)) &&& (65535 : Int64)) (16 : Int32))) hx hb dY_rounds_251 rfl ?_
                  refine lv_lor hx hb dY_rounds_252 ?_
                  refine lv_topl (fun y23 ey23 => ?_)
                  replace hF := xj_bz hF ey23
                  refine lv_lstore (lv' := [(15, .long y23), (13, .long y20), (12, .int y15), (10, .long y13), (9, .int y14), (8, .int q4), (7, .int y2), (0, .ref k0), (1, .int p1), (2, .int p2), (3, .long p3), (5, .int p4), (6, .int p5)]) hx hb dY_rounds_253 hl (by decide) rfl (fun ls hl => ?_)
                  refine lv_iload_n hx hb dY_rounds_255 rfl (lv_at hl 8 rfl) ?_
                  refine lv_bipush (v := (8 : Int32)) hx hb dY_rounds_256 (by decide) ?_
                  refine lv_icmp_ne (tgt := 289) hx hb dY_rounds_258 (by decide) (fun c24 => ?_) (fun c24 => ?_)
                  · replace hF := xj_f hF c24
                    refine lv_lload hx hb dY_rounds_289 (lv_at hl 0 rfl) ?_
                    exact W.lret (v := y23) hx hb hr (fun t ht hW => ⟨⟨_, (g, ak, il, mi, xe, bi, (0 : Int32), y11), rfl, hF.symm, by rw [ht]; exact hP, hD⟩, hS.F ht⟩) hS.2.2 dY_rounds_291
                  · replace hF := xj_t hF c24
                    refine lv_lload hx hb dY_rounds_261 (lv_at hl 0 rfl) ?_
                    refine lv_lload hx hb dY_rounds_263 (lv_at hl 1 rfl) ?_
                    refine lv_bipush (v := (16 : Int32)) hx hb dY_rounds_265 (by decide) ?_
                    refine lv_lshr (v := (xj_shr y20 (16 : Int32))) hx hb dY_rounds_267 rfl ?_
                    refine lv_ldc2 (own := RX1) (v := (65535 : Int64)) hx hb hown (hts (.constantLong RX1 40 (65535 : Int64)) (List.mem_cons_of_mem _ mY_41)) dY_rounds_268 ?_
                    refine lv_land hx hb dY_rounds_271 ?_
                    refine lv_bipush (v := (32 : Int32)) hx hb dY_rounds_272 (by decide) ?_
                    refine lv_lshl (v := (xj_shl ((xj_shr y20 (16 : Int32)) &&& (65535 : Int64)) (32 : Int32))) hx hb dY_rounds_274 rfl ?_
                    refine lv_lor hx hb dY_rounds_275 ?_
                    refine lv_lload hx hb dY_rounds_276 (lv_at hl 1 rfl) ?_
                    refine lv_ldc2 (own := RX1) (v := (65535 : Int64)) hx hb hown (hts (.constantLong RX1 40 (65535 : Int64)) (List.mem_cons_of_mem _ mY_41)) dY_rounds_278 ?_
                    refine lv_land hx hb dY_rounds_281 ?_
                    refine lv_bipush (v := (48 : Int32)) hx hb dY_rounds_282 (by decide) ?_
                    refine lv_lshl (v := (xj_shl (y20 &&& (65535 : Int64)) (48 : Int32))) hx hb dY_rounds_284 rfl ?_
                    refine lv_lor hx hb dY_rounds_285 ?_
                    refine lv_goto (tgt := 291) hx hb dY_rounds_286 (by decide) ?_
                    exact W.lret (v := ((y23 ||| (xj_shl ((xj_shr y20 (16 : Int32)) &&& (65535 : Int64)) (32 : Int32))) ||| (xj_shl (y20 &&& (65535 : Int64)) (48 : Int32)))) hx hb hr (fun t ht hW => ⟨⟨_, (g, ak, il, mi, xe, bi, (0 : Int32), y11), rfl, hF.symm, by rw [ht]; exact hP, hD⟩, hS.F ht⟩) hS.2.2 dY_rounds_291
                · refine lv_if_eq (tgt := 226) hx hb dY_rounds_217 (by decide) (fun c21 => ?_) (fun c21 => ?_)
                  · replace ey22 := xj_t ey22 c21
                    refine lv_lconst (v := (0 : Int64)) hx hb dY_rounds_226 (by decide) ?_
                    subst ey22
                    exact K227 _ _ ⟨lv_sub hl [0, 1, 2, 3, 4, 5, 6, 7, 8, 9, 10, 11] rfl, rfl⟩
                  · replace ey22 := xj_f ey22 c21
                    refine lv_ldc2 (own := RX1) (v := (32768 : Int64)) hx hb hown (hts (.constantLong RX1 21 (32768 : Int64)) (List.mem_cons_of_mem _ mY_33)) dY_rounds_220 ?_
                    refine lv_goto (tgt := 227) hx hb dY_rounds_223 (by decide) ?_
                    subst ey22
                    exact K227 _ _ ⟨lv_sub hl [0, 1, 2, 3, 4, 5, 6, 7, 8, 9, 10, 11] rfl, rfl⟩
              · refine lv_icmp_ne (tgt := 205) hx hb dY_rounds_197 (by decide) (fun c18 => ?_) (fun c18 => ?_)
                · replace ey19 := xj_f ey19 c18
                  refine lv_lload hx hb dY_rounds_205 (lv_at hl 1 rfl) ?_
                  refine lv_bipush (v := (32 : Int32)) hx hb dY_rounds_207 (by decide) ?_
                  refine lv_lshl (v := (xj_shl y13 (32 : Int32))) hx hb dY_rounds_209 rfl ?_
                  subst ey19
                  exact K210 _ _ ⟨lv_sub hl [0, 1, 2, 3, 4, 5, 6, 7, 8, 9, 10] rfl, rfl⟩
                · replace ey19 := xj_t ey19 c18
                  refine lv_lload hx hb dY_rounds_200 (lv_at hl 1 rfl) ?_
                  refine lv_goto (tgt := 210) hx hb dY_rounds_202 (by decide) ?_
                  subst ey19
                  exact K210 _ _ ⟨lv_sub hl [0, 1, 2, 3, 4, 5, 6, 7, 8, 9, 10] rfl, rfl⟩
            · replace hF := xj_f hF c17
              refine lv_aload_n hx hb dY_rounds_174 rfl (lv_at hl 5 rfl) ?_
              refine va_get (D := (dC, dI)) (ci := 1) (v := .int ak) (C := RX1) (T := TX1) (N := 8) hx hb hts (fun w9 h9 => List.mem_cons_of_mem _ (inY w9 h9)) hown hK hP 0 rfl rfl 1 (by decide) (hts (.fieldLink RX1 13 "ExactFloatsModel" "asked" "Z") (List.mem_cons_of_mem _ mY_30)) (fun _ h9 => h9) rfl dY_rounds_175 ?_
              obtain ⟨y26, ey26⟩ : ∃ z : Int32, z = (if ak = 0 then (0 : Int32) else (-3 : Int32)) := ⟨_, rfl⟩
              replace hF := xj_bz hF ey26
              refine xj_joinH 187 (fun H' locs' ls' st' => va_P (dC, dI) vwCl [(k0, .inr (1, [.ref k_g, .int ak, .int il, .int mi, .int xe, .long bi, .int y26, .int y11])), (k_g, .inl (cB_g, 8, .inr (.inl g)))] H' ∧ va_D A [(k0, .inr (1, [.ref k_g, .int ak, .int il, .int mi, .int xe, .long bi, .int y26, .int y11])), (k_g, .inl (cB_g, 8, .inr (.inl g)))] ∧ va_S A s.heap H' locs' ∧ lv_has ls' 17 [(12, .int y15), (10, .long y13), (9, .int y14), (8, .int q4), (7, .int y2), (0, .ref k0), (1, .int p1), (2, .int p2), (3, .long p3), (5, .int p4), (6, .int p5)] ∧ st' = []) ?_ (fun K187 => ?_)
              · rintro H9 locs9 ls st ⟨hP, hD, hS, hl, rfl⟩
                refine lv_aload_n hx hb dY_rounds_187 rfl (lv_at hl 5 rfl) ?_
                refine lv_iconst (v := (1 : Int32)) hx hb dY_rounds_188 (by decide) ?_
                refine va_put (D := (dC, dI)) (ci := 1) (v := .int (1 : Int32)) (ty := .boolean) (C := RX1) (T := TX1) (N := 8) hx hb hts (fun w9 h9 => List.mem_cons_of_mem _ (inY w9 h9)) tyX1 tyX1_ok nmX1 hown hK hP hD hS 0 rfl rfl 7 (by decide) (hts (.fieldLink RX1 51 "ExactFloatsModel" "cut" "Z") (List.mem_cons_of_mem _ mY_45)) (fun _ h9 => h9) rfl (by decide +kernel) rfl rfl (Nat.le_of_ble_eq_true rfl) dY_rounds_189 (fun H9 locs9 hP hD hS => ?_)
                have hP : va_P (dC, dI) vwCl [(k0, .inr (1, [.ref k_g, .int ak, .int il, .int mi, .int xe, .long bi, .int y26, .int (1 : Int32)])), (k_g, .inl (cB_g, 8, .inr (.inl g)))] _ := hP
                have hD : va_D A [(k0, .inr (1, [.ref k_g, .int ak, .int il, .int mi, .int xe, .long bi, .int y26, .int (1 : Int32)])), (k_g, .inl (cB_g, 8, .inr (.inl g)))] := hD
                refine lv_lconst (v := (0 : Int64)) hx hb dY_rounds_192 (by decide) ?_
                exact W.lret (v := (0 : Int64)) hx hb hr (fun t ht hW => ⟨⟨_, (g, ak, il, mi, xe, bi, y26, (1 : Int32)), rfl, hF.symm, by rw [ht]; exact hP, hD⟩, hS.F ht⟩) hS.2.2 dY_rounds_193
              · refine lv_if_eq (tgt := 187) hx hb dY_rounds_178 (by decide) (fun c25 => ?_) (fun c25 => ?_)
                · replace ey26 := xj_t ey26 c25
                  subst ey26
                  exact K187 _ _ _ _ ⟨hP, hD, hS, lv_sub hl [0, 1, 2, 3, 4, 5, 6, 7, 8, 9, 10] rfl, rfl⟩
                · replace ey26 := xj_f ey26 c25
                  refine lv_aload_n hx hb dY_rounds_181 rfl (lv_at hl 5 rfl) ?_
                  refine lv_bipush (v := (-3 : Int32)) hx hb dY_rounds_182 (by decide) ?_
                  refine va_put (D := (dC, dI)) (ci := 1) (v := .int (-3 : Int32)) (ty := .int) (C := RX1) (T := TX1) (N := 8) hx hb hts (fun w9 h9 => List.mem_cons_of_mem _ (inY w9 h9)) tyX1 tyX1_ok nmX1 hown hK hP hD hS 0 rfl rfl 6 (by decide) (hts (.fieldLink RX1 48 "ExactFloatsModel" "fault" "I") (List.mem_cons_of_mem _ mY_44)) (fun _ h9 => h9) rfl (by decide +kernel) rfl rfl (Nat.le_of_ble_eq_true rfl) dY_rounds_184 (fun H9 locs9 hP hD hS => ?_)
                  have hP : va_P (dC, dI) vwCl [(k0, .inr (1, [.ref k_g, .int ak, .int il, .int mi, .int xe, .long bi, .int (-3 : Int32), .int y11])), (k_g, .inl (cB_g, 8, .inr (.inl g)))] _ := hP
                  have hD : va_D A [(k0, .inr (1, [.ref k_g, .int ak, .int il, .int mi, .int xe, .long bi, .int (-3 : Int32), .int y11])), (k_g, .inl (cB_g, 8, .inr (.inl g)))] := hD
                  subst ey26
                  exact K187 _ _ _ _ ⟨hP, hD, hS, lv_sub hl [0, 1, 2, 3, 4, 5, 6, 7, 8, 9, 10] rfl, rfl⟩
          · replace hF := xj_f hF c16
            refine lv_aload_n hx hb dY_rounds_160 rfl (lv_at hl 5 rfl) ?_
            refine lv_bipush (v := (-2 : Int32)) hx hb dY_rounds_161 (by decide) ?_
            refine va_put (D := (dC, dI)) (ci := 1) (v := .int (-2 : Int32)) (ty := .int) (C := RX1) (T := TX1) (N := 8) hx hb hts (fun w9 h9 => List.mem_cons_of_mem _ (inY w9 h9)) tyX1 tyX1_ok nmX1 hown hK hP hD hS 0 rfl rfl 6 (by decide) (hts (.fieldLink RX1 48 "ExactFloatsModel" "fault" "I") (List.mem_cons_of_mem _ mY_44)) (fun _ h9 => h9) rfl (by decide +kernel) rfl rfl (Nat.le_of_ble_eq_true rfl) dY_rounds_163 (fun H9 locs9 hP hD hS => ?_)
            have hP : va_P (dC, dI) vwCl [(k0, .inr (1, [.ref k_g, .int ak, .int il, .int mi, .int xe, .long bi, .int (-2 : Int32), .int y11])), (k_g, .inl (cB_g, 8, .inr (.inl g)))] _ := hP
            have hD : va_D A [(k0, .inr (1, [.ref k_g, .int ak, .int il, .int mi, .int xe, .long bi, .int (-2 : Int32), .int y11])), (k_g, .inl (cB_g, 8, .inr (.inl g)))] := hD
            refine lv_lconst (v := (0 : Int64)) hx hb dY_rounds_166 (by decide) ?_
            exact W.lret (v := (0 : Int64)) hx hb hr (fun t ht hW => ⟨⟨_, (g, ak, il, mi, xe, bi, (-2 : Int32), y11), rfl, hF.symm, by rw [ht]; exact hP, hD⟩, hS.F ht⟩) hS.2.2 dY_rounds_167
        · refine xj_l_eq (tgt := 138) hx hb dY_rounds_125 dY_rounds_126 (by decide) (fun c12 => ?_) (fun c12 => ?_)
          · replace ey13 := xj_t ey13 c12
            replace ey14 := xj_t ey14 c12
            subst ey13
            subst ey14
            exact K138 _ _ ⟨lv_sub hl [0, 1, 2, 3, 4, 5, 6, 7, 8, 9] rfl, rfl⟩
          · replace ey13 := xj_f ey13 c12
            replace ey14 := xj_f ey14 c12
            refine lv_lload hx hb dY_rounds_129 (lv_at hl 0 rfl) ?_
            refine lv_iconst (v := (1 : Int32)) hx hb dY_rounds_131 (by decide) ?_
            refine lv_lshr (v := (xj_shr y10 (1 : Int32))) hx hb dY_rounds_132 rfl ?_
            refine lv_topl (fun y27 ey27 => ?_)
            replace ey13 := xj_bz ey13 ey27
            replace ey14 := xj_bz ey14 ey27
            refine lv_lstore (lv' := [(10, .long y27), (9, .int y8), (8, .int q4), (7, .int y2), (0, .ref k0), (1, .int p1), (2, .int p2), (3, .long p3), (5, .int p4), (6, .int p5)]) hx hb dY_rounds_133 hl (by decide) rfl (fun ls hl => ?_)
            obtain ⟨y28, ey28⟩ : ∃ z : Int32, z = (y8 + (1 : Int32)) := ⟨_, rfl⟩
            replace ey13 := xj_bz ey13 ey28
            replace ey14 := xj_bz ey14 ey28
            refine lv_iinc (v := y28) (lv' := [(9, .int y28), (10, .long y27), (8, .int q4), (7, .int y2), (0, .ref k0), (1, .int p1), (2, .int p2), (3, .long p3), (5, .int p4), (6, .int p5)]) hx hb dY_rounds_135 hl (k := 1) rfl (by rw [ey28]; rfl) (by decide) rfl (fun ls hl => ?_)
            subst ey13
            subst ey14
            exact K138 _ _ ⟨lv_sub hl [1, 0, 2, 3, 4, 5, 6, 7, 8, 9] rfl, rfl⟩
      · refine lv_if_le (tgt := 106) hx hb dY_rounds_58 (by decide) (fun c9 => ?_) (fun c9 => ?_)
        · replace ey10 := xj_t ey10 c9
          replace ey11 := xj_t ey11 c9
          refine lv_lload_n hx hb dY_rounds_106 rfl (lv_at hl 6 rfl) ?_
          refine lv_iload hx hb dY_rounds_107 (lv_at hl 0 rfl) ?_
          refine lv_ineg hx hb dY_rounds_109 ?_
          refine lv_lshl (v := (xj_shl p3 (-y8))) hx hb dY_rounds_110 rfl ?_
          refine lv_topl (fun y29 ey29 => ?_)
          replace ey10 := xj_bz ey10 ey29
          replace ey11 := xj_bz ey11 ey29
          refine lv_lstore (lv' := [(10, .long y29), (9, .int y8), (8, .int q4), (7, .int y2), (0, .ref k0), (1, .int p1), (2, .int p2), (3, .long p3), (5, .int p4), (6, .int p5)]) hx hb dY_rounds_111 hl (by decide) rfl (fun ls hl => ?_)
          refine lv_aload_n hx hb dY_rounds_113 rfl (lv_at hl 4 rfl) ?_
          refine lv_iload hx hb dY_rounds_114 (lv_at hl 9 rfl) ?_
          refine va_put (D := (dC, dI)) (ci := 1) (v := .int p5) (ty := .boolean) (C := RX1) (T := TX1) (N := 8) hx hb hts (fun w9 h9 => List.mem_cons_of_mem _ (inY w9 h9)) tyX1 tyX1_ok nmX1 hown hK hP hD hS 0 rfl rfl 7 (by decide) (hts (.fieldLink RX1 51 "ExactFloatsModel" "cut" "Z") (List.mem_cons_of_mem _ mY_45)) (fun _ h9 => h9) rfl (by decide +kernel) (xj_nb (hb5)) (xj_fb (hb5)) (Nat.le_of_ble_eq_true rfl) dY_rounds_116 (fun H9 locs9 hP hD hS => ?_)
          have hP : va_P (dC, dI) vwCl [(k0, .inr (1, [.ref k_g, .int ak, .int il, .int mi, .int xe, .long bi, .int (0 : Int32), .int p5])), (k_g, .inl (cB_g, 8, .inr (.inl g)))] _ := hP
          have hD : va_D A [(k0, .inr (1, [.ref k_g, .int ak, .int il, .int mi, .int xe, .long bi, .int (0 : Int32), .int p5])), (k_g, .inl (cB_g, 8, .inr (.inl g)))] := hD
          subst ey10
          subst ey11
          exact K119 _ _ _ _ ⟨hP, hD, hS, lv_sub hl [0, 1, 2, 3, 4, 5, 6, 7, 8, 9] rfl, rfl⟩
        · replace ey10 := xj_f ey10 c9
          replace ey11 := xj_f ey11 c9
          refine lv_lload_n hx hb dY_rounds_61 rfl (lv_at hl 6 rfl) ?_
          refine lv_iload hx hb dY_rounds_62 (lv_at hl 0 rfl) ?_
          refine lv_lshr (v := (xj_shr p3 y8)) hx hb dY_rounds_64 rfl ?_
          refine lv_lload_n hx hb dY_rounds_65 rfl (lv_at hl 6 rfl) ?_
          refine lv_iload hx hb dY_rounds_66 (lv_at hl 0 rfl) ?_
          refine lv_iconst (v := (1 : Int32)) hx hb dY_rounds_68 (by decide) ?_
          refine lv_isub hx hb dY_rounds_69 ?_
          refine lv_lshr (v := (xj_shr p3 (y8 - (1 : Int32)))) hx hb dY_rounds_70 rfl ?_
          refine lv_lconst (v := (1 : Int64)) hx hb dY_rounds_71 (by decide) ?_
          refine lv_land hx hb dY_rounds_72 ?_
          refine lv_ladd hx hb dY_rounds_73 ?_
          refine lv_topl (fun y30 ey30 => ?_)
          replace ey10 := xj_bz ey10 ey30
          replace ey11 := xj_bz ey11 ey30
          refine lv_lstore (lv' := [(10, .long y30), (9, .int y8), (8, .int q4), (7, .int y2), (0, .ref k0), (1, .int p1), (2, .int p2), (3, .long p3), (5, .int p4), (6, .int p5)]) hx hb dY_rounds_74 hl (by decide) rfl (fun ls hl => ?_)
          refine lv_aload_n hx hb dY_rounds_76 rfl (lv_at hl 4 rfl) ?_
          refine lv_iload hx hb dY_rounds_77 (lv_at hl 9 rfl) ?_
          obtain ⟨y32, ey32⟩ : ∃ z : Int32, z = (if p5 = 0 then (if (p3 &&& ((xj_shl (1 : Int64) y8) - (1 : Int64))) = (0 : Int64) then (0 : Int32) else (1 : Int32)) else (1 : Int32)) := ⟨_, rfl⟩
          replace ey10 := xj_bz ey10 ey32
          replace ey11 := xj_bz ey11 ey32
          refine xj_join 100 (fun ls' st' => lv_has ls' 17 [(10, .long y30), (9, .int y8), (8, .int q4), (7, .int y2), (0, .ref k0), (1, .int p1), (2, .int p2), (3, .long p3), (5, .int p4), (6, .int p5)] ∧ st' = [.int y32, .ref k0]) ?_ (fun K100 => ?_)
          · rintro ls st ⟨hl, rfl⟩
            refine va_put (D := (dC, dI)) (ci := 1) (v := .int y32) (ty := .boolean) (C := RX1) (T := TX1) (N := 8) hx hb hts (fun w9 h9 => List.mem_cons_of_mem _ (inY w9 h9)) tyX1 tyX1_ok nmX1 hown hK hP hD hS 0 rfl rfl 7 (by decide) (hts (.fieldLink RX1 51 "ExactFloatsModel" "cut" "Z") (List.mem_cons_of_mem _ mY_45)) (fun _ h9 => h9) rfl (by decide +kernel) (xj_nb (by rw [ey32]; (repeat' split) <;> simp)) (xj_fb (by rw [ey32]; (repeat' split) <;> simp)) (Nat.le_of_ble_eq_true rfl) dY_rounds_100 (fun H9 locs9 hP hD hS => ?_)
            have hP : va_P (dC, dI) vwCl [(k0, .inr (1, [.ref k_g, .int ak, .int il, .int mi, .int xe, .long bi, .int (0 : Int32), .int y32])), (k_g, .inl (cB_g, 8, .inr (.inl g)))] _ := hP
            have hD : va_D A [(k0, .inr (1, [.ref k_g, .int ak, .int il, .int mi, .int xe, .long bi, .int (0 : Int32), .int y32])), (k_g, .inl (cB_g, 8, .inr (.inl g)))] := hD
            refine lv_goto (tgt := 119) hx hb dY_rounds_103 (by decide) ?_
            subst ey10
            subst ey11
            exact K119 _ _ _ _ ⟨hP, hD, hS, lv_sub hl [0, 1, 2, 3, 4, 5, 6, 7, 8, 9] rfl, rfl⟩
          · refine lv_if_ne (tgt := 95) hx hb dY_rounds_79 (by decide) (fun c31 => ?_) (fun c31 => ?_)
            · replace ey32 := xj_f ey32 c31
              refine lv_iconst (v := (1 : Int32)) hx hb dY_rounds_95 (by decide) ?_
              refine lv_goto (tgt := 100) hx hb dY_rounds_96 (by decide) ?_
              subst ey32
              exact K100 _ _ ⟨lv_sub hl [0, 1, 2, 3, 4, 5, 6, 7, 8, 9] rfl, rfl⟩
            · replace ey32 := xj_t ey32 c31
              refine lv_lload_n hx hb dY_rounds_82 rfl (lv_at hl 7 rfl) ?_
              refine lv_lconst (v := (1 : Int64)) hx hb dY_rounds_83 (by decide) ?_
              refine lv_iload hx hb dY_rounds_84 (lv_at hl 1 rfl) ?_
              refine lv_lshl (v := (xj_shl (1 : Int64) y8)) hx hb dY_rounds_86 rfl ?_
              refine lv_lconst (v := (1 : Int64)) hx hb dY_rounds_87 (by decide) ?_
              refine lv_lsub hx hb dY_rounds_88 ?_
              refine lv_land hx hb dY_rounds_89 ?_
              refine lv_lconst (v := (0 : Int64)) hx hb dY_rounds_90 (by decide) ?_
              refine xj_l_eq (tgt := 99) hx hb dY_rounds_91 dY_rounds_92 (by decide) (fun c33 => ?_) (fun c33 => ?_)
              · replace ey32 := xj_t ey32 c33
                refine lv_iconst (v := (0 : Int32)) hx hb dY_rounds_99 (by decide) ?_
                subst ey32
                exact K100 _ _ ⟨lv_sub hl [0, 1, 2, 3, 4, 5, 6, 7, 8, 9] rfl, rfl⟩
              · replace ey32 := xj_f ey32 c33
                refine lv_iconst (v := (1 : Int32)) hx hb dY_rounds_95 (by decide) ?_
                refine lv_goto (tgt := 100) hx hb dY_rounds_96 (by decide) ?_
                subst ey32
                exact K100 _ _ ⟨lv_sub hl [0, 1, 2, 3, 4, 5, 6, 7, 8, 9] rfl, rfl⟩
    · refine xj_loop 27 (fun n ls' st' => ∃ (v3 : Int32), q4 = ml_Y_rounds_27 p3 n v3 ∧ (∃ kz : Nat, v3 = nI kz ∧ kz ≤ 63 ∧ kz + n = 64) ∧ lv_has ls' 17 [(8, .int v3), (7, .int y2), (0, .ref k0), (1, .int p1), (2, .int p2), (3, .long p3), (5, .int p4), (6, .int p5)] ∧ st' = []) 64 ⟨(0 : Int32), eq4, ⟨0, nI_0.symm, by omega, by omega⟩, lv_sub hl [0, 1, 2, 3, 4, 5, 6, 7] rfl, rfl⟩ ?_ ?_
      · rintro n ih ls st ⟨v3, hq, ⟨kz, hk0, hk1, hk2⟩, hl, rfl⟩
        have hq := hq.trans (ml_Y_rounds_27_s  p3 n v3)
        refine lv_iload hx hb dY_rounds_27 (lv_at hl 0 rfl) ?_
        refine lv_bipush (v := (63 : Int32)) hx hb dY_rounds_29 (by decide) ?_
        refine lv_icmp_ge (tgt := 49) hx hb dY_rounds_31 (by decide) (fun c5 => ?_) (fun c5 => ?_)
        · replace hq := xj_t hq c5
          subst hq
          exact K49 _ _ ⟨lv_sub hl [0, 1, 2, 3, 4, 5, 6, 7] rfl, rfl⟩
        · replace hq := xj_f hq c5
          refine lv_lload_n hx hb dY_rounds_34 rfl (lv_at hl 5 rfl) ?_
          refine lv_iload hx hb dY_rounds_35 (lv_at hl 0 rfl) ?_
          refine lv_lshr (v := (xj_shr p3 v3)) hx hb dY_rounds_37 rfl ?_
          refine lv_lconst (v := (0 : Int64)) hx hb dY_rounds_38 (by decide) ?_
          refine xj_l_eq (tgt := 49) hx hb dY_rounds_39 dY_rounds_40 (by decide) (fun c6 => ?_) (fun c6 => ?_)
          · replace hq := xj_t hq c6
            subst hq
            exact K49 _ _ ⟨lv_sub hl [0, 1, 2, 3, 4, 5, 6, 7] rfl, rfl⟩
          · replace hq := xj_f hq c6
            obtain ⟨y7, ey7⟩ : ∃ z : Int32, z = (v3 + (1 : Int32)) := ⟨_, rfl⟩
            replace hq := xj_bz hq ey7
            refine lv_iinc (v := y7) (lv' := [(8, .int y7), (7, .int y2), (0, .ref k0), (1, .int p1), (2, .int p2), (3, .long p3), (5, .int p4), (6, .int p5)]) hx hb dY_rounds_43 hl (k := 0) rfl (by rw [ey7]; rfl) (by decide) rfl (fun ls hl => ?_)
            refine lv_goto (tgt := 27) hx hb dY_rounds_46 (by decide) ?_
            exact ih _ _ ⟨y7, hq, ⟨kz + 1, by rw [ey7, hk0]; exact nI_1 kz, xj_ctr (B := 63) hk0 rfl (by decide) hk1 (by assumption), by omega⟩, lv_sub hl [0, 1, 2, 3, 4, 5, 6, 7] rfl, rfl⟩
      · rintro ls st ⟨v3, hq, ⟨kz, hk0, hk1, hk2⟩, hl, rfl⟩
        omega
  · replace hF := xj_t hF c1
    refine lv_lconst (v := (0 : Int64)) hx hb dY_rounds_16 (by decide) ?_
    exact W.lret (v := (0 : Int64)) hx hb hr (fun t ht hW => ⟨⟨_, (g, ak, il, mi, xe, bi, (0 : Int32), (0 : Int32)), rfl, hF.symm, by rw [ht]; exact hP, hD⟩, hS.F ht⟩) hS.2.2 dY_rounds_17
theorem ms_cut_rounds {g : Nat → Int64} {ak il mi xe : Int32} {bi : Int64} {fa cu p1 p2 : Int32} {p3 : Int64} {p4 p5 : Int32} (h : p5 = 0 ∨ p5 = 1) : (mf_Y_rounds g ak il mi xe bi fa cu p1 p2 p3 p4 p5).2.2.2.2.2.2.2.2 = 0 ∨ (mf_Y_rounds g ak il mi xe bi fa cu p1 p2 p3 p4 p5).2.2.2.2.2.2.2.2 = 1 := by
  unfold mf_Y_rounds xj_bnd
  dsimp only
  (repeat' split) <;> first | exact h | (simp; done)

