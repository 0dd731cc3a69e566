def ml_X0_storeRounded_25 : Nat → Int64 → Int32 → Int32 → Int64 × Int32 × Int32
  | 0, v2, v3, v4 => (v2, v3, v4)
  | n + 1, v2, v3, v4 => (if (63 : Int32) ≤ v4 then (v2, v3, v4) else (if (4611686018427387904 : Int64) ≤ v2 then (v2, v3, v4) else (xj_bnd (xj_shl v2 (1 : Int32)) (fun y8 => (xj_bnd (v3 + (-1 : Int32)) (fun y9 => (xj_bnd (v4 + (1 : Int32)) (fun y10 => (ml_X0_storeRounded_25 n y8 y9 y10)))))))))
theorem ml_X0_storeRounded_25_s (n : Nat) (v2 : Int64) (v3 : Int32) (v4 : Int32) : ml_X0_storeRounded_25 (n + 1) v2 v3 v4 = (if (63 : Int32) ≤ v4 then (v2, v3, v4) else (if (4611686018427387904 : Int64) ≤ v2 then (v2, v3, v4) else (xj_bnd (xj_shl v2 (1 : Int32)) (fun y8 => (xj_bnd (v3 + (-1 : Int32)) (fun y9 => (xj_bnd (v4 + (1 : Int32)) (fun y10 => (ml_X0_storeRounded_25 n y8 y9 y10))))))))) := rfl
def mf_X0_storeRounded (f : Nat → Int64) (u : Int32) (o : Int32) (p1 : Int32) (p2 : Int32) (p3 : Int32) (p4 : Int32) (p5 : Int64) : Int32 × (Nat → Int64) × Int32 × Int32 := (if p5 = (0 : Int64) then (xj_bnd (mf_X0_storeZero f u o p2 (0 : Int32)) (fun q27 => (q27.1, (q27.2.1, q27.2.2.1, q27.2.2.2)))) else (xj_bnd (ml_X0_storeRounded_25 64 p5 p4 (0 : Int32)) (fun q5 => (xj_bnd (if p1 = (4 : Int32) then (39 : Int32) else (7 : Int32)) (fun y12 => (xj_bnd (if (q5.1 &&& ((xj_shl (1 : Int64) y12) - (1 : Int64))) = (0 : Int64) then (0 : Int32) else (1 : Int32)) (fun y14 => (xj_bnd (xj_shl (xj_ush (q5.1 + (xj_shl (1 : Int64) (y12 - (1 : Int32)))) y12) y12) (fun y15 => (xj_bnd (if (0 : Int64) ≤ y15 then y15 else (xj_bnd (xj_ush y15 (1 : Int32)) (fun y17 => (xj_bnd (q5.2.1 + (1 : Int32)) (fun y18 => y17))))) (fun y17 => (xj_bnd (if (0 : Int64) ≤ y15 then q5.2.1 else (xj_bnd (xj_ush y15 (1 : Int32)) (fun y17 => (xj_bnd (q5.2.1 + (1 : Int32)) (fun y18 => y18))))) (fun y18 => (if y18 ≤ (255 : Int32) then (if (1 : Int32) ≤ y18 then (xj_bnd (mf_X0_bitsOf p3 y18 ((xj_ush y17 (7 : Int32)) &&& (36028797018963967 : Int64))) (fun y21 => (if p3 = 0 then ((0 : Int32), ((vp_updL f (Int32.toNatClampNeg p2) y21), u, y14)) else ((8 : Int32), ((vp_updL f (Int32.toNatClampNeg p2) y21), u, y14))))) else (if u = 0 then (xj_bnd (mf_X0_storeZero f u o p2 (1 : Int32)) (fun q24 => (q24.1, (q24.2.1, q24.2.2.1, q24.2.2.2)))) else ((-3 : Int32), (f, u, o)))) else ((-2 : Int32), (f, u, o))))))))))))))))
set_option maxHeartbeats 4000000 in
set_option maxRecDepth 100000 in
theorem mc_X0_storeRounded (l : Launch) (dC : Nat → ClassId) (dI : Nat → Nat → Nat) (h0 h_f : Nat) (cA_f : ClassId) (f : Nat → Int64) (u : Int32) (o : Int32) (p1 : Int32) (p2 : Int32) (p3 : Int32) (p4 : Int32) (p5 : Int64) (hin2 : vp_in p2 8) : xj_Oi l (dC, dI) vwCl [(cA_f, .long)] (mw_X0 h0 h_f cA_f) yX0_storeRounded wsX0_storeRounded ({ frames := 1, cells := 0, slots := 0, locals := 23 }) [.ref h0, .int p1, .int p2, .int p3, .int p4, .long p5] (f, u, o) (mf_X0_storeRounded f u o p1 p2 p3 p4 p5) := by
  intro sz
  refine Met.ofW (cc := cX0_storeRounded) (maxL := 12) (ret := (some .int)) (by decide) rfl ?_
  intro p e s m args below meth c s₁ B hml hv
  obtain ⟨rfl, hsz, hP, hK, hD0⟩ := hv
  have hx := B.exec
  have hb := B.bytes
  have hr := B.returns
  have hts := atoms_spec (ws := wsX0_storeRounded) B.pre
  have hown : s.vm.findClass RX0 = some m.cls := findClass_of_methodNamed B.named
  have hlocks := B.notSynchronized
  subst hsz
  have hD := hD0.self (sz := s.heap.size)
  generalize hAe : va_A (mw_X0 h0 h_f cA_f (f, u, o)) s.heap.size = A at hD ⊢
  have hA : ∀ q : Nat, s.heap.size ≤ q → A q := fun q h => by rw [← hAe]; exact Or.inr h
  have hS : va_S A s.heap s.heap [] := va_S.rf
  have hP : va_P (dC, dI) vwCl [(h0, .inr (0, [.ref h_f, .int u, .int o])), (h_f, .inl (cA_f, 8, .inr (.inl f)))] s.heap := hP
  have hD : va_D A [(h0, .inr (0, [.ref h_f, .int u, .int o])), (h_f, .inl (cA_f, 8, .inr (.inl f)))] := hD
  generalize hT : mf_X0_storeRounded f u o p1 p2 p3 p4 p5 = T
  have hF := hT.symm
  unfold mf_X0_storeRounded at hF
  have hl := lv_entry ([.ref h0, .int p1, .int p2, .int p3, .int p4, .long p5]) (n := 12) (Nat.le_of_ble_eq_true rfl)
  rw [lg_entry_eq]
  generalize (lg_sl ([.ref h0, .int p1, .int p2, .int p3, .int p4, .long p5]) ++ List.replicate (12 - (lg_sl ([.ref h0, .int p1, .int p2, .int p3, .int p4, .long p5])).length) Slot.unset).toArray = ls at hl ⊢
  have hl : lv_has ls 12 [(0, .ref h0), (1, .int p1), (2, .int p2), (3, .int p3), (4, .int p4), (5, .long p5)] := hl
  refine lv_lload hx hb dX0_storeRounded_0 (lv_at hl 5 rfl) ?_
  refine lv_lconst (v := (0 : Int64)) hx hb dX0_storeRounded_2 (by decide) ?_
  refine xj_l_ne (tgt := 14) hx hb dX0_storeRounded_3 dX0_storeRounded_4 (by decide) (fun c1 => ?_) (fun c1 => ?_)
  · replace hF := xj_f hF c1
    refine lv_iload hx hb dX0_storeRounded_14 (lv_at hl 4 rfl) ?_
    refine lv_istore (lv' := [(7, .int p4), (0, .ref h0), (1, .int p1), (2, .int p2), (3, .int p3), (4, .int p4), (5, .long p5)]) hx hb dX0_storeRounded_16 hl (by decide) rfl (fun ls hl => ?_)
    refine lv_lload hx hb dX0_storeRounded_18 (lv_at hl 6 rfl) ?_
    refine lv_lstore (lv' := [(8, .long p5), (7, .int p4), (0, .ref h0), (1, .int p1), (2, .int p2), (3, .int p3), (4, .int p4), (5, .long p5)]) hx hb dX0_storeRounded_20 hl (by decide) rfl (fun ls hl => ?_)
    refine lv_iconst (v := (0 : Int32)) hx hb dX0_storeRounded_22 (by decide) ?_
    refine lv_istore (lv' := [(10, .int (0 : Int32)), (8, .long p5), (7, .int p4), (0, .ref h0), (1, .int p1), (2, .int p2), (3, .int p3), (4, .int p4), (5, .long p5)]) hx hb dX0_storeRounded_23 hl (by decide) rfl (fun ls hl => ?_)
    obtain ⟨q5, eq5⟩ : ∃ z : Int64 × Int32 × Int32, z = (ml_X0_storeRounded_25 64 p5 p4 (0 : Int32)) := ⟨_, rfl⟩
    replace hF := xj_bz hF eq5
    refine xj_join 56 (fun ls' st' => lv_has ls' 12 [(8, .long q5.1), (7, .int q5.2.1), (10, .int q5.2.2), (0, .ref h0), (1, .int p1), (2, .int p2), (3, .int p3), (4, .int p4), (5, .long p5)] ∧ st' = []) ?_ (fun K56 => ?_)
    · rintro ls st ⟨hl, rfl⟩
      refine lv_iload_n hx hb dX0_storeRounded_56 rfl (lv_at hl 4 rfl) ?_
      refine lv_iconst (v := (4 : Int32)) hx hb dX0_storeRounded_57 (by decide) ?_
      obtain ⟨y12, ey12⟩ : ∃ z : Int32, z = (if p1 = (4 : Int32) then (39 : Int32) else (7 : Int32)) := ⟨_, rfl⟩
      replace hF := xj_bz hF ey12
      refine xj_join 68 (fun ls' st' => lv_has ls' 12 [(8, .long q5.1), (7, .int q5.2.1), (10, .int q5.2.2), (0, .ref h0), (1, .int p1), (2, .int p2), (3, .int p3), (4, .int p4), (5, .long p5)] ∧ st' = [.int y12]) ?_ (fun K68 => ?_)
      · rintro ls st ⟨hl, rfl⟩
        refine lv_istore (lv' := [(10, .int y12), (8, .long q5.1), (7, .int q5.2.1), (0, .ref h0), (1, .int p1), (2, .int p2), (3, .int p3), (4, .int p4), (5, .long p5)]) hx hb dX0_storeRounded_68 hl (by decide) rfl (fun ls hl => ?_)
        refine lv_lload hx hb dX0_storeRounded_70 (lv_at hl 1 rfl) ?_
        refine lv_lconst (v := (1 : Int64)) hx hb dX0_storeRounded_72 (by decide) ?_
        refine lv_iload hx hb dX0_storeRounded_73 (lv_at hl 0 rfl) ?_
        refine lv_lshl (v := (xj_shl (1 : Int64) y12)) hx hb dX0_storeRounded_75 rfl ?_
        refine lv_lconst (v := (1 : Int64)) hx hb dX0_storeRounded_76 (by decide) ?_
        refine lv_lsub hx hb dX0_storeRounded_77 ?_
        refine lv_land hx hb dX0_storeRounded_78 ?_
        refine lv_lconst (v := (0 : Int64)) hx hb dX0_storeRounded_79 (by decide) ?_
        obtain ⟨y14, ey14⟩ : ∃ z : Int32, z = (if (q5.1 &&& ((xj_shl (1 : Int64) y12) - (1 : Int64))) = (0 : Int64) then (0 : Int32) else (1 : Int32)) := ⟨_, rfl⟩
        replace hF := xj_bz hF ey14
        refine xj_join 89 (fun ls' st' => lv_has ls' 12 [(10, .int y12), (8, .long q5.1), (7, .int q5.2.1), (0, .ref h0), (1, .int p1), (2, .int p2), (3, .int p3), (4, .int p4), (5, .long p5)] ∧ st' = [.int y14]) ?_ (fun K89 => ?_)
        · rintro ls st ⟨hl, rfl⟩
          refine lv_istore (lv' := [(11, .int y14), (10, .int y12), (8, .long q5.1), (7, .int q5.2.1), (0, .ref h0), (1, .int p1), (2, .int p2), (3, .int p3), (4, .int p4), (5, .long p5)]) hx hb dX0_storeRounded_89 hl (by decide) rfl (fun ls hl => ?_)
          refine lv_lload hx hb dX0_storeRounded_91 (lv_at hl 2 rfl) ?_
          refine lv_lconst (v := (1 : Int64)) hx hb dX0_storeRounded_93 (by decide) ?_
          refine lv_iload hx hb dX0_storeRounded_94 (lv_at hl 1 rfl) ?_
          refine lv_iconst (v := (1 : Int32)) hx hb dX0_storeRounded_96 (by decide) ?_
          refine lv_isub hx hb dX0_storeRounded_97 ?_
          refine lv_lshl (v := (xj_shl (1 : Int64) (y12 - (1 : Int32)))) hx hb dX0_storeRounded_98 rfl ?_
          refine lv_ladd hx hb dX0_storeRounded_99 ?_
          refine lv_iload hx hb dX0_storeRounded_100 (lv_at hl 1 rfl) ?_
          refine lv_lushr (v := (xj_ush (q5.1 + (xj_shl (1 : Int64) (y12 - (1 : Int32)))) y12)) hx hb dX0_storeRounded_102 rfl ?_
          refine lv_iload hx hb dX0_storeRounded_103 (lv_at hl 1 rfl) ?_
          refine lv_lshl (v := (xj_shl (xj_ush (q5.1 + (xj_shl (1 : Int64) (y12 - (1 : Int32)))) y12) y12)) hx hb dX0_storeRounded_105 rfl ?_
          refine lv_topl (fun y15 ey15 => ?_)
          replace hF := xj_bz hF ey15
          refine lv_lstore (lv' := [(8, .long y15), (11, .int y14), (10, .int y12), (7, .int q5.2.1), (0, .ref h0), (1, .int p1), (2, .int p2), (3, .int p3), (4, .int p4), (5, .long p5)]) hx hb dX0_storeRounded_106 hl (by decide) rfl (fun ls hl => ?_)
          refine lv_lload hx hb dX0_storeRounded_108 (lv_at hl 0 rfl) ?_
          refine lv_lconst (v := (0 : Int64)) hx hb dX0_storeRounded_110 (by decide) ?_
          obtain ⟨y17, ey17⟩ : ∃ z : Int64, z = (if (0 : Int64) ≤ y15 then y15 else (xj_bnd (xj_ush y15 (1 : Int32)) (fun y17 => (xj_bnd (q5.2.1 + (1 : Int32)) (fun y18 => y17))))) := ⟨_, rfl⟩
          replace hF := xj_bz hF ey17
          obtain ⟨y18, ey18⟩ : ∃ z : Int32, z = (if (0 : Int64) ≤ y15 then q5.2.1 else (xj_bnd (xj_ush y15 (1 : Int32)) (fun y17 => (xj_bnd (q5.2.1 + (1 : Int32)) (fun y18 => y18))))) := ⟨_, rfl⟩
          replace hF := xj_bz hF ey18
          refine xj_join 124 (fun ls' st' => lv_has ls' 12 [(8, .long y17), (11, .int y14), (10, .int y12), (7, .int y18), (0, .ref h0), (1, .int p1), (2, .int p2), (3, .int p3), (4, .int p4), (5, .long p5)] ∧ st' = []) ?_ (fun K124 => ?_)
          · rintro ls st ⟨hl, rfl⟩
            refine lv_iload hx hb dX0_storeRounded_124 (lv_at hl 3 rfl) ?_
            refine lv_sipush (v := (255 : Int32)) hx hb dX0_storeRounded_126 (by decide) ?_
            refine lv_icmp_le (tgt := 135) hx hb dX0_storeRounded_129 (by decide) (fun c19 => ?_) (fun c19 => ?_)
            · replace hF := xj_t hF c19
              refine lv_iload hx hb dX0_storeRounded_135 (lv_at hl 3 rfl) ?_
              refine lv_iconst (v := (1 : Int32)) hx hb dX0_storeRounded_137 (by decide) ?_
              refine lv_icmp_ge (tgt := 160) hx hb dX0_storeRounded_138 (by decide) (fun c20 => ?_) (fun c20 => ?_)
              · replace hF := xj_t hF c20
                refine lv_aload_n hx hb dX0_storeRounded_160 rfl (lv_at hl 4 rfl) ?_
                refine va_get (D := (dC, dI)) (ci := 0) (v := .ref h_f) (C := RX0) (T := TX0) (N := 3) hx hb hts (by decide +kernel) hown hK hP 0 rfl rfl 0 (by decide) (hts (.fieldLink RX0 9 "ExactFloats" "registers" "[J") (by decide +kernel)) (fun _ h9 => h9) rfl dX0_storeRounded_161 ?_
                refine lv_iload_n hx hb dX0_storeRounded_164 rfl (lv_at hl 6 rfl) ?_
                refine lv_iload_n hx hb dX0_storeRounded_165 rfl (lv_at hl 7 rfl) ?_
                refine lv_iload hx hb dX0_storeRounded_166 (lv_at hl 3 rfl) ?_
                refine lv_lload hx hb dX0_storeRounded_168 (lv_at hl 0 rfl) ?_
                refine lv_bipush (v := (7 : Int32)) hx hb dX0_storeRounded_170 (by decide) ?_
                refine lv_lushr (v := (xj_ush y17 (7 : Int32))) hx hb dX0_storeRounded_172 rfl ?_
                refine lv_ldc2 (own := RX0) (v := (36028797018963967 : Int64)) hx hb hown (hts (.constantLong RX0 89 (36028797018963967 : Int64)) (by decide +kernel)) dX0_storeRounded_173 ?_
                refine lv_land hx hb dX0_storeRounded_176 ?_
                refine xj_sl (As := [.int p3, .int y18, .long ((xj_ush y17 (7 : Int32)) &&& (36028797018963967 : Int64))]) (rest := [.int p2, .ref h_f]) ⟨hx, hb, hml, hown, hts⟩ (mc_X0_bitsOf l p3 y18 ((xj_ush y17 (7 : Int32)) &&& (36028797018963967 : Int64))) (va_cwS 3 hts gX0_storeRounded_X0_bitsOf rfl rfl rfl (by decide +kernel) ⟨Nat.le_of_ble_eq_true rfl, Nat.le_of_ble_eq_true rfl⟩) hS hA rfl hl.1 rfl (Nat.le_of_ble_eq_true rfl) dX0_storeRounded_177 ⟨Nat.zero_le _, Nat.zero_le _⟩ (fun H9 locs9 hk9 hS => ?_)
                have hP := xj_kept hP hk9
                refine lv_topl (fun y21 ey21 => ?_)
                replace hF := xj_bz hF ey21
                refine va_last hx hb hK hP hD hS 1 0 rfl rfl (hin2) dX0_storeRounded_180 (fun H9 locs9 hP hD hS => ?_)
                have hP : va_P (dC, dI) vwCl [(h0, .inr (0, [.ref h_f, .int u, .int o])), (h_f, .inl (cA_f, 8, .inr (.inl (vp_updL f (Int32.toNatClampNeg p2) y21))))] _ := hP
                have hD : va_D A [(h0, .inr (0, [.ref h_f, .int u, .int o])), (h_f, .inl (cA_f, 8, .inr (.inl (vp_updL f (Int32.toNatClampNeg p2) y21))))] := hD
                refine lv_aload_n hx hb dX0_storeRounded_181 rfl (lv_at hl 4 rfl) ?_
                refine lv_iload hx hb dX0_storeRounded_182 (lv_at hl 1 rfl) ?_
                refine va_put (D := (dC, dI)) (ci := 0) (v := .int y14) (ty := .boolean) (C := RX0) (T := TX0) (N := 3) hx hb hts (by decide +kernel) tyX0 tyX0_ok nmX0 hown hK hP hD hS 0 rfl rfl 2 (by decide) (hts (.fieldLink RX0 17 "ExactFloats" "lastWasInexact" "Z") (by decide +kernel)) (fun _ h9 => h9) rfl (by decide +kernel) (xj_nb (by rw [ey14]; (repeat' split) <;> simp)) (xj_fb (by rw [ey14]; (repeat' split) <;> simp)) (Nat.le_of_ble_eq_true rfl) dX0_storeRounded_184 (fun H9 locs9 hP hD hS => ?_)
                have hP : va_P (dC, dI) vwCl [(h0, .inr (0, [.ref h_f, .int u, .int y14])), (h_f, .inl (cA_f, 8, .inr (.inl (vp_updL f (Int32.toNatClampNeg p2) y21))))] _ := hP
                have hD : va_D A [(h0, .inr (0, [.ref h_f, .int u, .int y14])), (h_f, .inl (cA_f, 8, .inr (.inl (vp_updL f (Int32.toNatClampNeg p2) y21))))] := hD
                refine lv_iload_n hx hb dX0_storeRounded_187 rfl (lv_at hl 7 rfl) ?_
                refine lv_if_eq (tgt := 196) hx hb dX0_storeRounded_188 (by decide) (fun c22 => ?_) (fun c22 => ?_)
                · replace hF := xj_t hF c22
                  refine lv_iconst (v := (0 : Int32)) hx hb dX0_storeRounded_196 (by decide) ?_
                  exact W.iret (v := (0 : Int32)) hx hb hr (fun t ht hW => ⟨⟨_, ((vp_updL f (Int32.toNatClampNeg p2) y21), u, y14), rfl, hF.symm, by rw [ht]; exact hP, hD⟩, hS.F ht⟩) hS.2.2 dX0_storeRounded_197
                · replace hF := xj_f hF c22
                  refine lv_bipush (v := (8 : Int32)) hx hb dX0_storeRounded_191 (by decide) ?_
                  refine lv_goto (tgt := 197) hx hb dX0_storeRounded_193 (by decide) ?_
                  exact W.iret (v := (8 : Int32)) hx hb hr (fun t ht hW => ⟨⟨_, ((vp_updL f (Int32.toNatClampNeg p2) y21), u, y14), rfl, hF.symm, by rw [ht]; exact hP, hD⟩, hS.F ht⟩) hS.2.2 dX0_storeRounded_197
              · replace hF := xj_f hF c20
                refine lv_aload_n hx hb dX0_storeRounded_141 rfl (lv_at hl 4 rfl) ?_
                refine va_get (D := (dC, dI)) (ci := 0) (v := .int u) (C := RX0) (T := TX0) (N := 3) hx hb hts (by decide +kernel) hown hK hP 0 rfl rfl 1 (by decide) (hts (.fieldLink RX0 13 "ExactFloats" "underflowAsked" "Z") (by decide +kernel)) (fun _ h9 => h9) rfl dX0_storeRounded_142 ?_
                refine lv_if_eq (tgt := 153) hx hb dX0_storeRounded_145 (by decide) (fun c23 => ?_) (fun c23 => ?_)
                · replace hF := xj_t hF c23
                  refine lv_aload_n hx hb dX0_storeRounded_153 rfl (lv_at hl 4 rfl) ?_
                  refine lv_iload_n hx hb dX0_storeRounded_154 rfl (lv_at hl 6 rfl) ?_
                  refine lv_iconst (v := (1 : Int32)) hx hb dX0_storeRounded_155 (by decide) ?_
                  obtain ⟨q24, eq24⟩ : ∃ z : Int32 × (Nat → Int64) × Int32 × Int32, z = (mf_X0_storeZero f u o p2 (1 : Int32)) := ⟨_, rfl⟩
                  replace hF := xj_bz hF eq24
                  refine xj_vi (r := q24) (As := [.int p2, .int (1 : Int32)]) (rest := []) (Wd := mw_X0 h0 h_f cA_f) (wr := []) ⟨hx, hb, hml, hown, hts⟩ (by rw [eq24]; exact mc_X0_storeZero l dC dI h0 h_f cA_f f u o p2 (1 : Int32) (hin2) (Or.inr rfl)) (cwV 2 hts gX0_storeRounded_X0_storeZero rfl rfl rfl (by decide +kernel) ⟨Nat.le_of_ble_eq_true rfl, Nat.le_of_ble_eq_true rfl⟩) hP hK hD hS hA [0, 1] [] [0] rfl (by decide) rfl (by decide) (by decide) rfl (va_recv hK hP (ci := 0) (q0 := 0) rfl rfl) rfl hl.1 rfl (Nat.le_of_ble_eq_true rfl) dX0_storeRounded_156 ⟨Nat.zero_le _, Nat.zero_le _⟩ (fun H9 locs9 hP hD hS => ?_)
                  have hP : va_P (dC, dI) vwCl [(h0, .inr (0, [.ref h_f, .int q24.2.2.1, .int q24.2.2.2])), (h_f, .inl (cA_f, 8, .inr (.inl q24.2.1)))] _ := hP
                  have hD : va_D A [(h0, .inr (0, [.ref h_f, .int q24.2.2.1, .int q24.2.2.2])), (h_f, .inl (cA_f, 8, .inr (.inl q24.2.1)))] := hD
                  exact W.iret (v := q24.1) hx hb hr (fun t ht hW => ⟨⟨_, (q24.2.1, q24.2.2.1, q24.2.2.2), rfl, hF.symm, by rw [ht]; exact hP, hD⟩, hS.F ht⟩) hS.2.2 dX0_storeRounded_159
                · replace hF := xj_f hF c23
                  refine lv_bipush (v := (-3 : Int32)) hx hb dX0_storeRounded_148 (by decide) ?_
                  refine lv_goto (tgt := 159) hx hb dX0_storeRounded_150 (by decide) ?_
                  exact W.iret (v := (-3 : Int32)) hx hb hr (fun t ht hW => ⟨⟨_, (f, u, o), rfl, hF.symm, by rw [ht]; exact hP, hD⟩, hS.F ht⟩) hS.2.2 dX0_storeRounded_159
            · replace hF := xj_f hF c19
              refine lv_bipush (v := (-2 : Int32)) hx hb dX0_storeRounded_132 (by decide) ?_
              exact W.iret (v := (-2 : Int32)) hx hb hr (fun t ht hW => ⟨⟨_, (f, u, o), rfl, hF.symm, by rw [ht]; exact hP, hD⟩, hS.F ht⟩) hS.2.2 dX0_storeRounded_134
          · refine xj_l_ge (tgt := 124) hx hb dX0_storeRounded_111 dX0_storeRounded_112 (by decide) (fun c16 => ?_) (fun c16 => ?_)
            · replace ey17 := xj_t ey17 c16
              replace ey18 := xj_t ey18 c16
              subst ey17
              subst ey18
              exact K124 _ _ ⟨lv_sub hl [0, 1, 2, 3, 4, 5, 6, 7, 8, 9] rfl, rfl⟩
            · replace ey17 := xj_f ey17 c16
              replace ey18 := xj_f ey18 c16
              refine lv_lload hx hb dX0_storeRounded_115 (lv_at hl 0 rfl) ?_
              refine lv_iconst (v := (1 : Int32)) hx hb dX0_storeRounded_117 (by decide) ?_
              refine lv_lushr (v := (xj_ush y15 (1 : Int32))) hx hb dX0_storeRounded_118 rfl ?_
              refine lv_topl (fun y25 ey25 => ?_)
              replace ey17 := xj_bz ey17 ey25
              replace ey18 := xj_bz ey18 ey25
              refine lv_lstore (lv' := [(8, .long y25), (11, .int y14), (10, .int y12), (7, .int q5.2.1), (0, .ref h0), (1, .int p1), (2, .int p2), (3, .int p3), (4, .int p4), (5, .long p5)]) hx hb dX0_storeRounded_119 hl (by decide) rfl (fun ls hl => ?_)
              obtain ⟨y26, ey26⟩ : ∃ z : Int32, z = (q5.2.1 + (1 : Int32)) := ⟨_, rfl⟩
              replace ey17 := xj_bz ey17 ey26
              replace ey18 := xj_bz ey18 ey26
              refine lv_iinc (v := y26) (lv' := [(7, .int y26), (8, .long y25), (11, .int y14), (10, .int y12), (0, .ref h0), (1, .int p1), (2, .int p2), (3, .int p3), (4, .int p4), (5, .long p5)]) hx hb dX0_storeRounded_121 hl (k := 3) rfl (by rw [ey26]; rfl) (by decide) rfl (fun ls hl => ?_)
              subst ey17
              subst ey18
              exact K124 _ _ ⟨lv_sub hl [1, 2, 3, 0, 4, 5, 6, 7, 8, 9] rfl, rfl⟩
        · refine xj_l_eq (tgt := 88) hx hb dX0_storeRounded_80 dX0_storeRounded_81 (by decide) (fun c13 => ?_) (fun c13 => ?_)
          · replace ey14 := xj_t ey14 c13
            refine lv_iconst (v := (0 : Int32)) hx hb dX0_storeRounded_88 (by decide) ?_
            subst ey14
            exact K89 _ _ ⟨lv_sub hl [0, 1, 2, 3, 4, 5, 6, 7, 8] rfl, rfl⟩
          · replace ey14 := xj_f ey14 c13
            refine lv_iconst (v := (1 : Int32)) hx hb dX0_storeRounded_84 (by decide) ?_
            refine lv_goto (tgt := 89) hx hb dX0_storeRounded_85 (by decide) ?_
            subst ey14
            exact K89 _ _ ⟨lv_sub hl [0, 1, 2, 3, 4, 5, 6, 7, 8] rfl, rfl⟩
      · refine lv_icmp_ne (tgt := 66) hx hb dX0_storeRounded_58 (by decide) (fun c11 => ?_) (fun c11 => ?_)
        · replace ey12 := xj_f ey12 c11
          refine lv_bipush (v := (7 : Int32)) hx hb dX0_storeRounded_66 (by decide) ?_
          subst ey12
          exact K68 _ _ ⟨lv_sub hl [0, 1, 2, 3, 4, 5, 6, 7, 8] rfl, rfl⟩
        · replace ey12 := xj_t ey12 c11
          refine lv_bipush (v := (39 : Int32)) hx hb dX0_storeRounded_61 (by decide) ?_
          refine lv_goto (tgt := 68) hx hb dX0_storeRounded_63 (by decide) ?_
          subst ey12
          exact K68 _ _ ⟨lv_sub hl [0, 1, 2, 3, 4, 5, 6, 7, 8] rfl, rfl⟩
    · refine xj_loop 25 (fun n ls' st' => ∃ (v2 : Int64) (v3 : Int32) (v4 : Int32), q5 = ml_X0_storeRounded_25 n v2 v3 v4 ∧ (∃ k0 : Nat, v4 = nI k0 ∧ k0 ≤ 63 ∧ k0 + n = 64) ∧ lv_has ls' 12 [(8, .long v2), (7, .int v3), (10, .int v4), (0, .ref h0), (1, .int p1), (2, .int p2), (3, .int p3), (4, .int p4), (5, .long p5)] ∧ st' = []) 64 ⟨p5, p4, (0 : Int32), eq5, ⟨0, nI_0.symm, by omega, by omega⟩, lv_sub hl [1, 2, 0, 3, 4, 5, 6, 7, 8] rfl, rfl⟩ ?_ ?_
      · rintro n ih ls st ⟨v2, v3, v4, hq, ⟨k0, hk0, hk1, hk2⟩, hl, rfl⟩
        have hq := hq.trans (ml_X0_storeRounded_25_s  n v2 v3 v4)
        refine lv_iload hx hb dX0_storeRounded_25 (lv_at hl 2 rfl) ?_
        refine lv_bipush (v := (63 : Int32)) hx hb dX0_storeRounded_27 (by decide) ?_
        refine lv_icmp_ge (tgt := 56) hx hb dX0_storeRounded_29 (by decide) (fun c6 => ?_) (fun c6 => ?_)
        · replace hq := xj_t hq c6
          subst hq
          exact K56 _ _ ⟨lv_sub hl [0, 1, 2, 3, 4, 5, 6, 7, 8] rfl, rfl⟩
        · replace hq := xj_f hq c6
          refine lv_lload hx hb dX0_storeRounded_32 (lv_at hl 0 rfl) ?_
          refine lv_ldc2 (own := RX0) (v := (4611686018427387904 : Int64)) hx hb hown (hts (.constantLong RX0 103 (4611686018427387904 : Int64)) (by decide +kernel)) dX0_storeRounded_34 ?_
          refine xj_l_ge (tgt := 56) hx hb dX0_storeRounded_37 dX0_storeRounded_38 (by decide) (fun c7 => ?_) (fun c7 => ?_)
          · replace hq := xj_t hq c7
            subst hq
            exact K56 _ _ ⟨lv_sub hl [0, 1, 2, 3, 4, 5, 6, 7, 8] rfl, rfl⟩
          · replace hq := xj_f hq c7
            refine lv_lload hx hb dX0_storeRounded_41 (lv_at hl 0 rfl) ?_
            refine lv_iconst (v := (1 : Int32)) hx hb dX0_storeRounded_43 (by decide) ?_
            refine lv_lshl (v := (xj_shl v2 (1 : Int32))) hx hb dX0_storeRounded_44 rfl ?_
            refine lv_topl (fun y8 ey8 => ?_)
            replace hq := xj_bz hq ey8
            refine lv_lstore (lv' := [(8, .long y8), (7, .int v3), (10, .int v4), (0, .ref h0), (1, .int p1), (2, .int p2), (3, .int p3), (4, .int p4), (5, .long p5)]) hx hb dX0_storeRounded_45 hl (by decide) rfl (fun ls hl => ?_)
            obtain ⟨y9, ey9⟩ : ∃ z : Int32, z = (v3 + (-1 : Int32)) := ⟨_, rfl⟩
            replace hq := xj_bz hq ey9
            refine lv_iinc (v := y9) (lv' := [(7, .int y9), (8, .long y8), (10, .int v4), (0, .ref h0), (1, .int p1), (2, .int p2), (3, .int p3), (4, .int p4), (5, .long p5)]) hx hb dX0_storeRounded_47 hl (k := 1) rfl (by rw [ey9]; rfl) (by decide) rfl (fun ls hl => ?_)
            obtain ⟨y10, ey10⟩ : ∃ z : Int32, z = (v4 + (1 : Int32)) := ⟨_, rfl⟩
            replace hq := xj_bz hq ey10
            refine lv_iinc (v := y10) (lv' := [(10, .int y10), (7, .int y9), (8, .long y8), (0, .ref h0), (1, .int p1), (2, .int p2), (3, .int p3), (4, .int p4), (5, .long p5)]) hx hb dX0_storeRounded_50 hl (k := 2) rfl (by rw [ey10]; rfl) (by decide) rfl (fun ls hl => ?_)
            refine lv_goto (tgt := 25) hx hb dX0_storeRounded_53 (by decide) ?_
            exact ih _ _ ⟨y8, y9, y10, hq, ⟨k0 + 1, by rw [ey10, hk0]; exact nI_1 k0, xj_ctr (B := 63) hk0 rfl (by decide) hk1 (by assumption), by omega⟩, lv_sub hl [2, 1, 0, 3, 4, 5, 6, 7, 8] rfl, rfl⟩
      · rintro ls st ⟨v2, v3, v4, hq, ⟨k0, hk0, hk1, hk2⟩, hl, rfl⟩
        omega
  · replace hF := xj_t hF c1
    refine lv_aload_n hx hb dX0_storeRounded_7 rfl (lv_at hl 0 rfl) ?_
    refine lv_iload_n hx hb dX0_storeRounded_8 rfl (lv_at hl 2 rfl) ?_
    refine lv_iconst (v := (0 : Int32)) hx hb dX0_storeRounded_9 (by decide) ?_
    obtain ⟨q27, eq27⟩ : ∃ z : Int32 × (Nat → Int64) × Int32 × Int32, z = (mf_X0_storeZero f u o p2 (0 : Int32)) := ⟨_, rfl⟩
    replace hF := xj_bz hF eq27
    refine xj_vi (r := q27) (As := [.int p2, .int (0 : Int32)]) (rest := []) (Wd := mw_X0 h0 h_f cA_f) (wr := []) ⟨hx, hb, hml, hown, hts⟩ (by rw [eq27]; exact mc_X0_storeZero l dC dI h0 h_f cA_f f u o p2 (0 : Int32) (hin2) (Or.inl rfl)) (cwV 2 hts gX0_storeRounded_X0_storeZero rfl rfl rfl (by decide +kernel) ⟨Nat.le_of_ble_eq_true rfl, Nat.le_of_ble_eq_true rfl⟩) hP hK hD hS hA [0, 1] [] [0] rfl (by decide) rfl (by decide) (by decide) rfl (va_recv hK hP (ci := 0) (q0 := 0) rfl rfl) rfl hl.1 rfl (Nat.le_of_ble_eq_true rfl) dX0_storeRounded_10 ⟨Nat.zero_le _, Nat.zero_le _⟩ (fun H9 locs9 hP hD hS => ?_)
    have hP : va_P (dC, dI) vwCl [(h0, .inr (0, [.ref h_f, .int q27.2.2.1, .int q27.2.2.2])), (h_f, .inl (cA_f, 8, .inr (.inl q27.2.1)))] _ := hP
    have hD : va_D A [(h0, .inr (0, [.ref h_f, .int q27.2.2.1, .int q27.2.2.2])), (h_f, .inl (cA_f, 8, .inr (.inl q27.2.1)))] := hD
    exact W.iret (v := q27.1) hx hb hr (fun t ht hW => ⟨⟨_, (q27.2.1, q27.2.2.1, q27.2.2.2), rfl, hF.symm, by rw [ht]; exact hP, hD⟩, hS.F ht⟩) hS.2.2 dX0_storeRounded_13
def mf_X0_storeValue (f : Nat → Int64) (u : Int32) (o : Int32) (p1 : Int32) (p2 : Int32) (p3 : Int64) : Int32 × (Nat → Int64) × Int32 × Int32 := (if p3 = (0 : Int64) then (xj_bnd (mf_X0_storeZero f u o p2 (0 : Int32)) (fun q7 => (q7.1, (q7.2.1, q7.2.2.1, q7.2.2.2)))) else (xj_bnd (if (0 : Int64) ≤ p3 then (0 : Int32) else (1 : Int32)) (fun y3 => (xj_bnd (mf_X0_exponentOf p3) (fun y4 => (xj_bnd (mf_X0_significandOf p3) (fun y5 => (xj_bnd (mf_X0_storeRounded f u o p1 p2 y3 y4 (xj_shl y5 (7 : Int32))) (fun q6 => (q6.1, (q6.2.1, q6.2.2.1, q6.2.2.2)))))))))))
set_option maxHeartbeats 4000000 in
set_option maxRecDepth 100000 in
theorem mc_X0_storeValue (l : Launch) (dC : Nat → ClassId) (dI : Nat → Nat → Nat) (h0 h_f : Nat) (cA_f : ClassId) (f : Nat → Int64) (u : Int32) (o : Int32) (p1 : Int32) (p2 : Int32) (p3 : Int64) (hin2 : vp_in p2 8) : xj_Oi l (dC, dI) vwCl [(cA_f, .long)] (mw_X0 h0 h_f cA_f) yX0_storeValue wsX0_storeValue ({ frames := 2, cells := 0, slots := 0, locals := 54 }) [.ref h0, .int p1, .int p2, .long p3] (f, u, o) (mf_X0_storeValue f u o p1 p2 p3) := by
  intro sz
  refine Met.ofW (cc := cX0_storeValue) (maxL := 5) (ret := (some .int)) (by decide) rfl ?_
  intro p e s m args below meth c s₁ B hml hv
  obtain ⟨rfl, hsz, hP, hK, hD0⟩ := hv
  have hx := B.exec
  have hb := B.bytes
  have hr := B.returns
  have hts := atoms_spec (ws := wsX0_storeValue) B.pre
  have hown : s.vm.findClass RX0 = some m.cls := findClass_of_methodNamed B.named
  have hlocks := B.notSynchronized
  subst hsz
  have hD := hD0.self (sz := s.heap.size)
  generalize hAe : va_A (mw_X0 h0 h_f cA_f (f, u, o)) s.heap.size = A at hD ⊢
  have hA : ∀ q : Nat, s.heap.size ≤ q → A q := fun q h => by rw [← hAe]; exact Or.inr h
  have hS : va_S A s.heap s.heap [] := va_S.rf
  have hP : va_P (dC, dI) vwCl [(h0, .inr (0, [.ref h_f, .int u, .int o])), (h_f, .inl (cA_f, 8, .inr (.inl f)))] s.heap := hP
  have hD : va_D A [(h0, .inr (0, [.ref h_f, .int u, .int o])), (h_f, .inl (cA_f, 8, .inr (.inl f)))] := hD
  generalize hT : mf_X0_storeValue f u o p1 p2 p3 = T
  have hF := hT.symm
  unfold mf_X0_storeValue at hF
  have hl := lv_entry ([.ref h0, .int p1, .int p2, .long p3]) (n := 5) (Nat.le_of_ble_eq_true rfl)
  rw [lg_entry_eq]
  generalize (lg_sl ([.ref h0, .int p1, .int p2, .long p3]) ++ List.replicate (5 - (lg_sl ([.ref h0, .int p1, .int p2, .long p3])).length) Slot.unset).toArray = ls at hl ⊢
  have hl : lv_has ls 5 [(0, .ref h0), (1, .int p1), (2, .int p2), (3, .long p3)] := hl
  refine lv_lload_n hx hb dX0_storeValue_0 rfl (lv_at hl 3 rfl) ?_
  refine lv_lconst (v := (0 : Int64)) hx hb dX0_storeValue_1 (by decide) ?_
  refine xj_l_ne (tgt := 13) hx hb dX0_storeValue_2 dX0_storeValue_3 (by decide) (fun c1 => ?_) (fun c1 => ?_)
  · replace hF := xj_f hF c1
    refine lv_aload_n hx hb dX0_storeValue_13 rfl (lv_at hl 0 rfl) ?_
    refine lv_iload_n hx hb dX0_storeValue_14 rfl (lv_at hl 1 rfl) ?_
    refine lv_iload_n hx hb dX0_storeValue_15 rfl (lv_at hl 2 rfl) ?_
    refine lv_lload_n hx hb dX0_storeValue_16 rfl (lv_at hl 3 rfl) ?_
    refine lv_lconst (v := (0 : Int64)) hx hb dX0_storeValue_17 (by decide) ?_
    obtain ⟨y3, ey3⟩ : ∃ z : Int32, z = (if (0 : Int64) ≤ p3 then (0 : Int32) else (1 : Int32)) := ⟨_, rfl⟩
    replace hF := xj_bz hF ey3
    refine xj_join 27 (fun ls' st' => lv_has ls' 5 [(0, .ref h0), (1, .int p1), (2, .int p2), (3, .long p3)] ∧ st' = [.int y3, .int p2, .int p1, .ref h0]) ?_ (fun K27 => ?_)
    · rintro ls st ⟨hl, rfl⟩
      refine lv_lload_n hx hb dX0_storeValue_27 rfl (lv_at hl 3 rfl) ?_
      refine xj_si (As := [.long p3]) (rest := [.int y3, .int p2, .int p1, .ref h0]) ⟨hx, hb, hml, hown, hts⟩ (mc_X0_exponentOf l p3) (va_cwS 1 hts gX0_storeValue_X0_exponentOf rfl rfl rfl (by decide +kernel) ⟨Nat.le_of_ble_eq_true rfl, Nat.le_of_ble_eq_true rfl⟩) hS hA rfl hl.1 rfl (Nat.le_of_ble_eq_true rfl) dX0_storeValue_28 ⟨Nat.zero_le _, Nat.zero_le _⟩ (fun H9 locs9 hk9 hS => ?_)
      have hP := xj_kept hP hk9
      refine lv_topi (fun y4 ey4 => ?_)
      replace hF := xj_bz hF ey4
      refine lv_lload_n hx hb dX0_storeValue_31 rfl (lv_at hl 3 rfl) ?_
      refine xj_sl (As := [.long p3]) (rest := [.int y4, .int y3, .int p2, .int p1, .ref h0]) ⟨hx, hb, hml, hown, hts⟩ (mc_X0_significandOf l p3) (va_cwS 1 hts gX0_storeValue_X0_significandOf rfl rfl rfl (by decide +kernel) ⟨Nat.le_of_ble_eq_true rfl, Nat.le_of_ble_eq_true rfl⟩) hS hA rfl hl.1 rfl (Nat.le_of_ble_eq_true rfl) dX0_storeValue_32 ⟨Nat.zero_le _, Nat.zero_le _⟩ (fun H9 locs9 hk9 hS => ?_)
      have hP := xj_kept hP hk9
      refine lv_topl (fun y5 ey5 => ?_)
      replace hF := xj_bz hF ey5
      refine lv_bipush (v := (7 : Int32)) hx hb dX0_storeValue_35 (by decide) ?_
      refine lv_lshl (v := (xj_shl y5 (7 : Int32))) hx hb dX0_storeValue_37 rfl ?_
      obtain ⟨q6, eq6⟩ : ∃ z : Int32 × (Nat → Int64) × Int32 × Int32, z = (mf_X0_storeRounded f u o p1 p2 y3 y4 (xj_shl y5 (7 : Int32))) := ⟨_, rfl⟩
      replace hF := xj_bz hF eq6
      refine xj_vi (r := q6) (As := [.int p1, .int p2, .int y3, .int y4, .long (xj_shl y5 (7 : Int32))]) (rest := []) (Wd := mw_X0 h0 h_f cA_f) (wr := []) ⟨hx, hb, hml, hown, hts⟩ (by rw [eq6]; exact mc_X0_storeRounded l dC dI h0 h_f cA_f f u o p1 p2 y3 y4 (xj_shl y5 (7 : Int32)) (hin2)) (cwV 5 hts gX0_storeValue_X0_storeRounded rfl rfl rfl (by decide +kernel) ⟨Nat.le_of_ble_eq_true rfl, Nat.le_of_ble_eq_true rfl⟩) hP hK hD hS hA [0, 1] [] [0] rfl (by decide) rfl (by decide) (by decide) rfl (va_recv hK hP (ci := 0) (q0 := 0) rfl rfl) rfl hl.1 rfl (Nat.le_of_ble_eq_true rfl) dX0_storeValue_38 ⟨Nat.zero_le _, Nat.zero_le _⟩ (fun H9 locs9 hP hD hS => ?_)
      have hP : va_P (dC, dI) vwCl [(h0, .inr (0, [.ref h_f, .int q6.2.2.1, .int q6.2.2.2])), (h_f, .inl (cA_f, 8, .inr (.inl q6.2.1)))] _ := hP
      have hD : va_D A [(h0, .inr (0, [.ref h_f, .int q6.2.2.1, .int q6.2.2.2])), (h_f, .inl (cA_f, 8, .inr (.inl q6.2.1)))] := hD
      exact W.iret (v := q6.1) hx hb hr (fun t ht hW => ⟨⟨_, (q6.2.1, q6.2.2.1, q6.2.2.2), rfl, hF.symm, by rw [ht]; exact hP, hD⟩, hS.F ht⟩) hS.2.2 dX0_storeValue_41
    · refine xj_l_ge (tgt := 26) hx hb dX0_storeValue_18 dX0_storeValue_19 (by decide) (fun c2 => ?_) (fun c2 => ?_)
      · replace ey3 := xj_t ey3 c2
        refine lv_iconst (v := (0 : Int32)) hx hb dX0_storeValue_26 (by decide) ?_
        subst ey3
        exact K27 _ _ ⟨lv_sub hl [0, 1, 2, 3] rfl, rfl⟩
      · replace ey3 := xj_f ey3 c2
        refine lv_iconst (v := (1 : Int32)) hx hb dX0_storeValue_22 (by decide) ?_
        refine lv_goto (tgt := 27) hx hb dX0_storeValue_23 (by decide) ?_
        subst ey3
        exact K27 _ _ ⟨lv_sub hl [0, 1, 2, 3] rfl, rfl⟩
  · replace hF := xj_t hF c1
    refine lv_aload_n hx hb dX0_storeValue_6 rfl (lv_at hl 0 rfl) ?_
    refine lv_iload_n hx hb dX0_storeValue_7 rfl (lv_at hl 2 rfl) ?_
    refine lv_iconst (v := (0 : Int32)) hx hb dX0_storeValue_8 (by decide) ?_
    obtain ⟨q7, eq7⟩ : ∃ z : Int32 × (Nat → Int64) × Int32 × Int32, z = (mf_X0_storeZero f u o p2 (0 : Int32)) := ⟨_, rfl⟩
    replace hF := xj_bz hF eq7
    refine xj_vi (r := q7) (As := [.int p2, .int (0 : Int32)]) (rest := []) (Wd := mw_X0 h0 h_f cA_f) (wr := []) ⟨hx, hb, hml, hown, hts⟩ (by rw [eq7]; exact mc_X0_storeZero l dC dI h0 h_f cA_f f u o p2 (0 : Int32) (hin2) (Or.inl rfl)) (cwV 2 hts gX0_storeValue_X0_storeZero rfl rfl rfl (by decide +kernel) ⟨Nat.le_of_ble_eq_true rfl, Nat.le_of_ble_eq_true rfl⟩) hP hK hD hS hA [0, 1] [] [0] rfl (by decide) rfl (by decide) (by decide) rfl (va_recv hK hP (ci := 0) (q0 := 0) rfl rfl) rfl hl.1 rfl (Nat.le_of_ble_eq_true rfl) dX0_storeValue_9 ⟨Nat.zero_le _, Nat.zero_le _⟩ (fun H9 locs9 hP hD hS => ?_)
    have hP : va_P (dC, dI) vwCl [(h0, .inr (0, [.ref h_f, .int q7.2.2.1, .int q7.2.2.2])), (h_f, .inl (cA_f, 8, .inr (.inl q7.2.1)))] _ := hP
    have hD : va_D A [(h0, .inr (0, [.ref h_f, .int q7.2.2.1, .int q7.2.2.2])), (h_f, .inl (cA_f, 8, .inr (.inl q7.2.1)))] := hD
    exact W.iret (v := q7.1) hx hb hr (fun t ht hW => ⟨⟨_, (q7.2.1, q7.2.2.1, q7.2.2.2), rfl, hF.symm, by rw [ht]; exact hP, hD⟩, hS.F ht⟩) hS.2.2 dX0_storeValue_12
