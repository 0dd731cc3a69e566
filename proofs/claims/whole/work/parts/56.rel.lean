/-! the states of both, side by side -/
def lx_ok (st : (Nat → Int64) × Int32 × Int32) : Prop := (st.2.1 = 0 ∨ st.2.1 = 1) ∧ (st.2.2 = 0 ∨ st.2.2 = 1)
def lx_R (sx : (Nat → Int64) × Int32 × Int32) (sm : (Nat → Int64) × Int32 × Int32 × Int32 × Int32 × Int64 × Int32 × Int32) : Prop := (sm.1, sm.2.1, sm.2.2.1) = sx ∧ lx_ok sx
theorem lo_zero (f : Nat → Int64) (u o p1 p2 : Int32) (hu : u = 0 ∨ u = 1) (h : p2 = 0 ∨ p2 = 1) : lx_ok (mf_X0_storeZero f u o p1 p2).2 := ⟨hu, h⟩
theorem lo_rounded (f : Nat → Int64) (u o p1 p2 p3 p4 : Int32) (p5 : Int64) (hu : u = 0 ∨ u = 1) (ho : o = 0 ∨ o = 1) : lx_ok (mf_X0_storeRounded f u o p1 p2 p3 p4 p5).2 := by
  obtain ⟨T, hT⟩ : ∃ T, T = mf_X0_storeRounded f u o p1 p2 p3 p4 p5 := ⟨_, rfl⟩
  rw [← hT]
  unfold mf_X0_storeRounded at hT
  by_cases h : p5 = 0
  · replace hT := xj_t hT h
    rw [xj_eta3] at hT; rw [hT]; exact lo_zero f u o p2 0 hu (Or.inl rfl)
  · replace hT := xj_f hT h
    obtain ⟨q5, e5, hT⟩ := xj_b hT
    obtain ⟨y12, e12, hT⟩ := xj_b hT
    obtain ⟨y14, e14, hT⟩ := xj_b hT
    have h14 : y14 = 0 ∨ y14 = 1 := by rw [e14]; split <;> simp
    obtain ⟨y15, e15, hT⟩ := xj_b hT
    obtain ⟨y17, e17, hT⟩ := xj_b hT
    obtain ⟨y18, e18, hT⟩ := xj_b hT
    by_cases c1 : y18 ≤ 255
    · replace hT := xj_t hT c1
      by_cases c2 : (1 : Int32) ≤ y18
      · replace hT := xj_t hT c2
        obtain ⟨y21, e21, hT⟩ := xj_b hT
        by_cases c3 : p3 = 0
        · replace hT := xj_t hT c3
          rw [hT]; exact ⟨hu, h14⟩
        · replace hT := xj_f hT c3
          rw [hT]; exact ⟨hu, h14⟩
      · replace hT := xj_f hT c2
        by_cases c3 : u = 0
        · replace hT := xj_t hT c3
          rw [xj_eta3] at hT; rw [hT]; exact lo_zero f u o p2 1 hu (Or.inr rfl)
        · replace hT := xj_f hT c3
          rw [hT]; exact ⟨hu, ho⟩
    · replace hT := xj_f hT c1
      rw [hT]; exact ⟨hu, ho⟩
theorem lx_bnd {α : Type} {a : α} {g : α → Int32 × (Nat → Int64) × Int32 × Int32} (h : ∀ y, lx_ok (g y).2) : lx_ok (xj_bnd a g).2 := h a
theorem lx_ite {c : Prop} [Decidable c] {a b : Int32 × (Nat → Int64) × Int32 × Int32} (ha : lx_ok a.2) (hb : lx_ok b.2) : lx_ok (if c then a else b).2 := by
  by_cases h : c
  · rw [if_pos h]; exact ha
  · rw [if_neg h]; exact hb
theorem lx_two {a : Int32 × (Nat → Int64) × Int32 × Int32} {g : (Int32 × (Nat → Int64) × Int32 × Int32) → Int32 × (Nat → Int64) × Int32 × Int32} (h : lx_ok a.2) (k : ∀ y, lx_ok y.2 → lx_ok (g y).2) : lx_ok (xj_bnd a g).2 := k a h
theorem lo_value (f : Nat → Int64) (u o p1 p2 : Int32) (p3 : Int64) (hu : u = 0 ∨ u = 1) (ho : o = 0 ∨ o = 1) : lx_ok (mf_X0_storeValue f u o p1 p2 p3).2 := by
  unfold mf_X0_storeValue
  simp only [xj_eta3]
  repeat (any_goals (first | with_reducible assumption | with_reducible exact lo_zero f u o _ _ hu (Or.inl rfl) | with_reducible exact lo_rounded f u o _ _ _ _ _ hu ho | with_reducible refine lx_two ?_ (fun _ _ => ?_) | with_reducible refine lx_bnd (fun _ => ?_) | with_reducible refine lx_ite ?_ ?_ | exact ⟨hu, ho⟩))
theorem lo_sum0 (f : Nat → Int64) (u o p1 p2 : Int32) (p3 p4 : Int64) (hu : u = 0 ∨ u = 1) (ho : o = 0 ∨ o = 1) : lx_ok (mf_X0_storeSum f u o p1 p2 p3 p4).2 := by
  unfold mf_X0_storeSum
  simp only [xj_eta3]
  repeat (any_goals (first | with_reducible assumption | with_reducible exact lo_value f u o _ _ _ hu ho | with_reducible exact lo_rounded f u o _ _ _ _ _ hu ho | with_reducible exact lo_zero f u o _ _ hu (Or.inl rfl) | with_reducible refine lx_two ?_ (fun _ _ => ?_) | with_reducible refine lx_bnd (fun _ => ?_) | with_reducible refine lx_ite ?_ ?_ | exact ⟨hu, ho⟩))
theorem lo_prod0 (f : Nat → Int64) (u o p1 p2 : Int32) (p3 p4 : Int64) (hu : u = 0 ∨ u = 1) (ho : o = 0 ∨ o = 1) : lx_ok (mf_X0_storeProduct f u o p1 p2 p3 p4).2 := by
  unfold mf_X0_storeProduct
  simp only [xj_eta3]
  repeat (any_goals (first | with_reducible assumption | with_reducible exact lo_value f u o _ _ _ hu ho | with_reducible exact lo_rounded f u o _ _ _ _ _ hu ho | with_reducible exact lo_zero f u o _ _ hu (Or.inl rfl) | with_reducible refine lx_two ?_ (fun _ _ => ?_) | with_reducible refine lx_bnd (fun _ => ?_) | with_reducible refine lx_ite ?_ ?_ | exact ⟨hu, ho⟩))
theorem lo_quot0 (f : Nat → Int64) (u o p1 p2 : Int32) (p3 p4 : Int64) (hu : u = 0 ∨ u = 1) (ho : o = 0 ∨ o = 1) : lx_ok (mf_X0_storeQuotient f u o p1 p2 p3 p4).2 := by
  unfold mf_X0_storeQuotient
  simp only [xj_eta3]
  repeat (any_goals (first | with_reducible assumption | with_reducible exact lo_value f u o _ _ _ hu ho | with_reducible exact lo_rounded f u o _ _ _ _ _ hu ho | with_reducible exact lo_zero f u o _ _ hu (Or.inl rfl) | with_reducible refine lx_two ?_ (fun _ _ => ?_) | with_reducible refine lx_bnd (fun _ => ?_) | with_reducible refine lx_ite ?_ ?_ | exact ⟨hu, ho⟩))
theorem lo_sum (f : Nat → Int64) (u o a b c d : Int32) (hu : u = 0 ∨ u = 1) (ho : o = 0 ∨ o = 1) : lx_ok (mf_X0_sum f u o a b c d).2 := by
  unfold mf_X0_sum
  simp only [xj_eta3]
  repeat (any_goals (first | with_reducible assumption | with_reducible exact lo_sum0 f u o _ _ _ _ hu ho | with_reducible refine lx_two ?_ (fun _ _ => ?_) | with_reducible refine lx_bnd (fun _ => ?_) | with_reducible refine lx_ite ?_ ?_ | exact ⟨hu, ho⟩))
theorem lo_less (f : Nat → Int64) (u o a b c d : Int32) (hu : u = 0 ∨ u = 1) (ho : o = 0 ∨ o = 1) : lx_ok (mf_X0_less f u o a b c d).2 := by
  unfold mf_X0_less
  simp only [xj_eta3]
  repeat (any_goals (first | with_reducible assumption | with_reducible exact lo_sum0 f u o _ _ _ _ hu ho | with_reducible refine lx_two ?_ (fun _ _ => ?_) | with_reducible refine lx_bnd (fun _ => ?_) | with_reducible refine lx_ite ?_ ?_ | exact ⟨hu, ho⟩))
theorem lo_product (f : Nat → Int64) (u o a b c d : Int32) (hu : u = 0 ∨ u = 1) (ho : o = 0 ∨ o = 1) : lx_ok (mf_X0_product f u o a b c d).2 := by
  unfold mf_X0_product
  simp only [xj_eta3]
  repeat (any_goals (first | with_reducible assumption | with_reducible exact lo_prod0 f u o _ _ _ _ hu ho | with_reducible refine lx_two ?_ (fun _ _ => ?_) | with_reducible refine lx_bnd (fun _ => ?_) | with_reducible refine lx_ite ?_ ?_ | exact ⟨hu, ho⟩))
theorem lo_quotient (f : Nat → Int64) (u o a b c d : Int32) (hu : u = 0 ∨ u = 1) (ho : o = 0 ∨ o = 1) : lx_ok (mf_X0_quotient f u o a b c d).2 := by
  unfold mf_X0_quotient
  simp only [xj_eta3]
  repeat (any_goals (first | with_reducible assumption | with_reducible exact lo_quot0 f u o _ _ _ _ hu ho | with_reducible refine lx_two ?_ (fun _ _ => ?_) | with_reducible refine lx_bnd (fun _ => ?_) | with_reducible refine lx_ite ?_ ?_ | exact ⟨hu, ho⟩))
theorem lo_negative (f : Nat → Int64) (u o a b c : Int32) (hu : u = 0 ∨ u = 1) (ho : o = 0 ∨ o = 1) : lx_ok (mf_X0_negative f u o a b c).2 := by
  unfold mf_X0_negative
  simp only [xj_eta3]
  repeat (any_goals (first | with_reducible assumption | with_reducible exact lo_value f u o _ _ _ hu ho | with_reducible exact lo_rounded f u o _ _ _ _ _ hu ho | with_reducible exact lo_zero f u o _ _ hu (Or.inl rfl) | with_reducible refine lx_two ?_ (fun _ _ => ?_) | with_reducible refine lx_bnd (fun _ => ?_) | with_reducible refine lx_ite ?_ ?_ | exact ⟨hu, ho⟩))
theorem lo_change (f : Nat → Int64) (u o a b c : Int32) (hu : u = 0 ∨ u = 1) (ho : o = 0 ∨ o = 1) : lx_ok (mf_X0_change f u o a b c).2 := by
  unfold mf_X0_change
  simp only [xj_eta3]
  repeat (any_goals (first | with_reducible assumption | with_reducible exact lo_value f u o _ _ _ hu ho | with_reducible exact lo_rounded f u o _ _ _ _ _ hu ho | with_reducible exact lo_zero f u o _ _ hu (Or.inl rfl) | with_reducible refine lx_two ?_ (fun _ _ => ?_) | with_reducible refine lx_bnd (fun _ => ?_) | with_reducible refine lx_ite ?_ ?_ | exact ⟨hu, ho⟩))
theorem lo_number (f : Nat → Int64) (u o a b c : Int32) (hu : u = 0 ∨ u = 1) (ho : o = 0 ∨ o = 1) : lx_ok (mf_X0_number f u o a b c).2 := by
  unfold mf_X0_number
  simp only [xj_eta3]
  repeat (any_goals (first | with_reducible assumption | with_reducible exact lo_value f u o _ _ _ hu ho | with_reducible exact lo_rounded f u o _ _ _ _ _ hu ho | with_reducible exact lo_zero f u o _ _ hu (Or.inl rfl) | with_reducible refine lx_two ?_ (fun _ _ => ?_) | with_reducible refine lx_bnd (fun _ => ?_) | with_reducible refine lx_ite ?_ ?_ | exact ⟨hu, ho⟩))
theorem lo_set (f : Nat → Int64) (u o a : Int32) (b : Int64) (hu : u = 0 ∨ u = 1) (ho : o = 0 ∨ o = 1) : lx_ok (mf_X0_set f u o a b).2 := by
  unfold mf_X0_set
  repeat (any_goals (first | with_reducible assumption | with_reducible refine lx_two ?_ (fun _ _ => ?_) | with_reducible refine lx_bnd (fun _ => ?_) | with_reducible refine lx_ite ?_ ?_ | exact ⟨hu, ho⟩))
theorem lo_whole (f : Nat → Int64) (u o a b c d e : Int32) (hu : u = 0 ∨ u = 1) (ho : o = 0 ∨ o = 1) : lx_ok (mf_X0_whole f u o a b c d e).2 := by
  unfold mf_X0_whole
  repeat (any_goals (first | with_reducible assumption | with_reducible refine lx_two ?_ (fun _ _ => ?_) | with_reducible refine lx_bnd (fun _ => ?_) | with_reducible refine lx_ite ?_ ?_ | exact ⟨hu, ho⟩))
/-- out of one equation: the same answer, and states side by side -/
theorem lx_of {qx : Int32 × (Nat → Int64) × Int32 × Int32} {qm : Int32 × (Nat → Int64) × Int32 × Int32 × Int32 × Int32 × Int64 × Int32 × Int32} (h : ly_r qm = qx) (ok : lx_ok qx.2) : qx.1 = qm.1 ∧ lx_R qx.2 qm.2 := by
  subst h
  exact ⟨rfl, rfl, ok⟩
theorem lx_in {x3 c : Int32} {i k L : Nat} (ex3 : x3 = nI i) (hc : c = nI k) (hi : i + 5 < L) (hk : k ≤ 5) (hL : L ≤ 3072) : vp_in (x3 + c) L := by
  rw [ex3, hc, nI_add]; exact vp_in_nI (by omega) (by omega)
