/-- the class's sum of two that are not 0: the larger one leads -/
def nx_G (f : Nat → Int64) (u o size to : Int32) (sl : Bool) (ml : Nat) (ss : Bool) (ms : Nat) : Int32 × (Nat → Int64) × Int32 × Int32 :=
  mf_X0_storeRounded f u o size to (if sl then 1 else 0) (nI (ml / 2 ^ 55) + 1) (if sl = ss then lN ((2 ^ 55 + ml % 2 ^ 55) * 2 ^ 6) + mf_X0_shiftedDown (lN ((2 ^ 55 + ms % 2 ^ 55) * 2 ^ 6)) (nI (ml / 2 ^ 55) - nI (ms / 2 ^ 55)) else lN ((2 ^ 55 + ml % 2 ^ 55) * 2 ^ 6) - mf_X0_shiftedDown (lN ((2 ^ 55 + ms % 2 ^ 55) * 2 ^ 6)) (nI (ml / 2 ^ 55) - nI (ms / 2 ^ 55)))
theorem nx_sgn {s : Bool} {m : Nat} (h : m < 2 ^ 63) (h0 : m ≠ 0) : (if (0 : Int64) ≤ nx_v s m then (0 : Int32) else (1 : Int32)) = if s then 1 else 0 := by
  cases s with
  | false => rw [if_pos ((nx_vge h).mpr (Or.inl rfl))]; rfl
  | true => rw [if_neg (fun h9 => by rcases (nx_vge h).mp h9 with c | c; exact absurd c (by decide); exact h0 c)]; rfl
theorem nx_ssum (f : Nat → Int64) (u o size to : Int32) (sa sc : Bool) {ma mc : Nat} (ha : ma < 2 ^ 63) (hc : mc < 2 ^ 63) (ha0 : ma ≠ 0) (hc0 : mc ≠ 0) :
    mf_X0_storeSum f u o size to (nx_v sa ma) (nx_v sc mc) = if ma < mc then nx_G f u o size to sc mc sa ma else nx_G f u o size to sa ma sc mc := by
  have hza : ¬ nx_v sa ma = 0 := fun h => ha0 ((nx_v0 ha).mp h)
  have hzc : ¬ nx_v sc mc = 0 := fun h => hc0 ((nx_v0 hc).mp h)
  unfold mf_X0_storeSum
  rw [xj_bnd_eq, if_neg hza, if_neg hzc, nx_abs ha, xj_bnd_eq, nx_abs hc, xj_bnd_eq]
  have hlt := nb_lt ha hc
  have key : ∀ (sl ss : Bool) (ml ms : Nat), ml < 2 ^ 63 → ms < 2 ^ 63 → ml ≠ 0 → ms ≠ 0 → ∀ (T : Int32 × (Nat → Int64) × Int32 × Int32), T = (xj_bnd (mf_X0_exponentOf (nx_v sl ml)) (fun y15 => (xj_bnd (mf_X0_exponentOf (nx_v ss ms)) (fun y16 => (xj_bnd (y15 - y16) (fun y17 => (xj_bnd (mf_X0_significandOf (nx_v sl ml)) (fun y18 => (xj_bnd (xj_shl y18 (6 : Int32)) (fun y19 => (xj_bnd (mf_X0_significandOf (nx_v ss ms)) (fun y20 => (xj_bnd (mf_X0_shiftedDown (xj_shl y20 (6 : Int32)) y17) (fun y21 => (xj_bnd (if (0 : Int64) ≤ (nx_v sl ml) then (0 : Int32) else (1 : Int32)) (fun y23 => (xj_bnd (if (0 : Int64) ≤ (nx_v ss ms) then (0 : Int32) else (1 : Int32)) (fun y25 => (xj_bnd (if y23 = y25 then (1 : Int32) else (0 : Int32)) (fun y27 => (xj_bnd (if y27 = 0 then (y19 - y21) else (y19 + y21)) (fun y29 => (xj_bnd (if (0 : Int64) ≤ (nx_v sl ml) then (0 : Int32) else (1 : Int32)) (fun y31 => (xj_bnd (mf_X0_exponentOf (nx_v sl ml)) (fun y32 => (xj_bnd (mf_X0_storeRounded f u o size to y31 (y32 + (1 : Int32)) y29) (fun q33 => (q33.1, (q33.2.1, q33.2.2.1, q33.2.2.2)))))))))))))))))))))))))))))) → T = nx_G f u o size to sl ml ss ms := by
    intro sl ss ml ms h1 h2 h3 h4 T hT
    rw [hT, nx_exponentOf h1, xj_bnd_eq, nx_exponentOf h2, xj_bnd_eq, xj_bnd_eq, nx_significandOf h1, xj_bnd_eq, show (6 : Int32) = nI 6 from rfl, nb_shl _ (by decide), xj_bnd_eq, nx_significandOf h2, xj_bnd_eq, nb_shl _ (by decide), xj_bnd_eq, nx_sgn h1 h3, xj_bnd_eq, nx_sgn h2 h4, xj_bnd_eq, xj_bnd_eq, xj_bnd_eq, xj_bnd_eq, xj_bnd_eq, xj_eta3]
    unfold nx_G
    congr 1
    cases sl <;> cases ss <;> simp
  by_cases h : ma < mc
  · rw [if_pos (hlt.mpr h), xj_bnd_eq, if_pos rfl, xj_bnd_eq, if_pos rfl, xj_bnd_eq, if_pos h]
    exact key sc sa mc ma hc ha hc0 ha0 _ rfl
  · rw [if_neg (fun c => h (hlt.mp c)), xj_bnd_eq, if_neg (by decide), xj_bnd_eq, if_neg (by decide), xj_bnd_eq, if_neg h]
    exact key sa sc ma mc ha hc ha0 hc0 _ rfl
