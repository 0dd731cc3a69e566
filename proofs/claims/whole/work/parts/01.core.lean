section
variable {p : Program} {l : Launch} {e : Env} {R : Room} {s : State} {m : MethodId} {args : Array Value} {below : List Frame} {meth : Method} {c : Code} {H : Heap} {locs : List Loc} {cells slots : Nat} {Q : State → Prop}
variable {cc : ByteArray} {pc : Nat} {ls : Array Slot} {rest st : List Value}
/-- two arms that meet again at J -/
theorem xj_join (J : Nat) (Pr : Array Slot → List Value → Prop)
    (k : ∀ ls' st', Pr ls' st' → W p l e R s m args below meth c H locs cells slots Q (F0 m J ls' st'))
    (br : (∀ ls' st', Pr ls' st' → W p l e R s m args below meth c H locs cells slots Q (F0 m J ls' st')) → W p l e R s m args below meth c H locs cells slots Q (F0 m pc ls st)) :
    W p l e R s m args below meth c H locs cells slots Q (F0 m pc ls st) := br k
theorem xj_joinH (J : Nat) (Pr : Heap → List Loc → Array Slot → List Value → Prop)
    (k : ∀ H' locs' ls' st', Pr H' locs' ls' st' → W p l e R s m args below meth c H' locs' cells slots Q (F0 m J ls' st'))
    (br : (∀ H' locs' ls' st', Pr H' locs' ls' st' → W p l e R s m args below meth c H' locs' cells slots Q (F0 m J ls' st')) → W p l e R s m args below meth c H locs cells slots Q (F0 m pc ls st)) :
    W p l e R s m args below meth c H locs cells slots Q (F0 m pc ls st) := br k
/-- a loop with its head at J, which leaves the heap alone; n falls -/
theorem xj_loop (J : Nat) (Pr : Nat → Array Slot → List Value → Prop) (n : Nat) (h0 : Pr n ls st)
    (hs : ∀ n, (∀ ls' st', Pr n ls' st' → W p l e R s m args below meth c H locs cells slots Q (F0 m J ls' st')) → ∀ ls' st', Pr (n + 1) ls' st' → W p l e R s m args below meth c H locs cells slots Q (F0 m J ls' st'))
    (hz : ∀ ls' st', Pr 0 ls' st' → False) : W p l e R s m args below meth c H locs cells slots Q (F0 m J ls st) := by
  have k : ∀ n ls' st', Pr n ls' st' → W p l e R s m args below meth c H locs cells slots Q (F0 m J ls' st') := by
    intro n
    induction n with
    | zero => intro ls' st' h; exact (hz ls' st' h).elim
    | succ n ih => exact hs n ih
  exact k n ls st h0
theorem xj_l_eq (hexec : p.tables.exec = Jvm.exec) (hb : c.code = cc) {x y : Int64} {off : Int} {tgt : Nat} (h1 : decode cc pc = .ok (.lcmp, 1)) (h2 : decode cc (pc + 1) = .ok (.ifCond .eq off, 3)) (ht : ((pc + 1 : Nat) : Int) + off = (tgt : Int))
    (kt : x = y → W p l e R s m args below meth c H locs cells slots Q (F0 m tgt ls rest)) (kf : ¬ x = y → W p l e R s m args below meth c H locs cells slots Q (F0 m (pc + 1 + 3) ls rest)) : W p l e R s m args below meth c H locs cells slots Q (F0 m pc ls (.long y :: .long x :: rest)) :=
  W.lcmp hexec hb h1 (lv_if_eq hexec hb h2 ht (fun h => kt ((lg_cmp_eq x y).mp h)) (fun h => kf (fun h' => h ((lg_cmp_eq x y).mpr h'))))
theorem xj_l_ne (hexec : p.tables.exec = Jvm.exec) (hb : c.code = cc) {x y : Int64} {off : Int} {tgt : Nat} (h1 : decode cc pc = .ok (.lcmp, 1)) (h2 : decode cc (pc + 1) = .ok (.ifCond .ne off, 3)) (ht : ((pc + 1 : Nat) : Int) + off = (tgt : Int))
    (kt : ¬ x = y → W p l e R s m args below meth c H locs cells slots Q (F0 m tgt ls rest)) (kf : x = y → W p l e R s m args below meth c H locs cells slots Q (F0 m (pc + 1 + 3) ls rest)) : W p l e R s m args below meth c H locs cells slots Q (F0 m pc ls (.long y :: .long x :: rest)) :=
  W.lcmp hexec hb h1 (lv_if_ne hexec hb h2 ht (fun h => kt (fun h' => h ((lg_cmp_eq x y).mpr h'))) (fun h => kf ((lg_cmp_eq x y).mp h)))
theorem xj_l_lt (hexec : p.tables.exec = Jvm.exec) (hb : c.code = cc) {x y : Int64} {off : Int} {tgt : Nat} (h1 : decode cc pc = .ok (.lcmp, 1)) (h2 : decode cc (pc + 1) = .ok (.ifCond .lt off, 3)) (ht : ((pc + 1 : Nat) : Int) + off = (tgt : Int))
    (kt : x < y → W p l e R s m args below meth c H locs cells slots Q (F0 m tgt ls rest)) (kf : ¬ x < y → W p l e R s m args below meth c H locs cells slots Q (F0 m (pc + 1 + 3) ls rest)) : W p l e R s m args below meth c H locs cells slots Q (F0 m pc ls (.long y :: .long x :: rest)) :=
  W.lcmp hexec hb h1 (lv_if_lt hexec hb h2 ht (fun h => kt ((lg_cmp_lt x y).mp h)) (fun h => kf (fun h' => h ((lg_cmp_lt x y).mpr h'))))
theorem xj_l_ge (hexec : p.tables.exec = Jvm.exec) (hb : c.code = cc) {x y : Int64} {off : Int} {tgt : Nat} (h1 : decode cc pc = .ok (.lcmp, 1)) (h2 : decode cc (pc + 1) = .ok (.ifCond .ge off, 3)) (ht : ((pc + 1 : Nat) : Int) + off = (tgt : Int))
    (kt : y ≤ x → W p l e R s m args below meth c H locs cells slots Q (F0 m tgt ls rest)) (kf : ¬ y ≤ x → W p l e R s m args below meth c H locs cells slots Q (F0 m (pc + 1 + 3) ls rest)) : W p l e R s m args below meth c H locs cells slots Q (F0 m pc ls (.long y :: .long x :: rest)) :=
  W.lcmp hexec hb h1 (lv_if_ge hexec hb h2 ht (fun h => kt ((lg_cmp_ge x y).mp h)) (fun h => kf (fun h' => h ((lg_cmp_ge x y).mpr h'))))
theorem xj_l_gt (hexec : p.tables.exec = Jvm.exec) (hb : c.code = cc) {x y : Int64} {off : Int} {tgt : Nat} (h1 : decode cc pc = .ok (.lcmp, 1)) (h2 : decode cc (pc + 1) = .ok (.ifCond .gt off, 3)) (ht : ((pc + 1 : Nat) : Int) + off = (tgt : Int))
    (kt : y < x → W p l e R s m args below meth c H locs cells slots Q (F0 m tgt ls rest)) (kf : ¬ y < x → W p l e R s m args below meth c H locs cells slots Q (F0 m (pc + 1 + 3) ls rest)) : W p l e R s m args below meth c H locs cells slots Q (F0 m pc ls (.long y :: .long x :: rest)) :=
  W.lcmp hexec hb h1 (lv_if_gt hexec hb h2 ht (fun h => kt ((lg_cmp_gt x y).mp h)) (fun h => kf (fun h' => h ((lg_cmp_gt x y).mpr h'))))
theorem xj_l_le (hexec : p.tables.exec = Jvm.exec) (hb : c.code = cc) {x y : Int64} {off : Int} {tgt : Nat} (h1 : decode cc pc = .ok (.lcmp, 1)) (h2 : decode cc (pc + 1) = .ok (.ifCond .le off, 3)) (ht : ((pc + 1 : Nat) : Int) + off = (tgt : Int))
    (kt : x ≤ y → W p l e R s m args below meth c H locs cells slots Q (F0 m tgt ls rest)) (kf : ¬ x ≤ y → W p l e R s m args below meth c H locs cells slots Q (F0 m (pc + 1 + 3) ls rest)) : W p l e R s m args below meth c H locs cells slots Q (F0 m pc ls (.long y :: .long x :: rest)) :=
  W.lcmp hexec hb h1 (lv_if_le hexec hb h2 ht (fun h => kt ((lg_cmp_le x y).mp h)) (fun h => kf (fun h' => h ((lg_cmp_le x y).mpr h'))))
end
/-- shifts as the machine has them -/
abbrev xj_shl (x : Int64) (y : Int32) : Int64 := x <<< (y.toInt64 &&& 63)
abbrev xj_shr (x : Int64) (y : Int32) : Int64 := x >>> (y.toInt64 &&& 63)
abbrev xj_ush (x : Int64) (y : Int32) : Int64 := (x.toUInt64 >>> (y.toInt64.toUInt64 &&& Int64.toUInt64 63)).toInt64
abbrev xj_ushi (x y : Int32) : Int32 := (x.toUInt32 >>> (y.toUInt32 &&& Int32.toUInt32 31)).toInt32
abbrev xj_abs (x : Int64) : Int64 := if 0 < x then x else -x
/-- a named step of a mirror function -/
def xj_bnd {α β : Type} (a : α) (f : α → β) : β := f a
theorem xj_bz {α β : Type} {T : β} {a z : α} {f : α → β} (h : T = xj_bnd a f) (e : z = a) : T = f z := by subst e; exact h
theorem xj_b {α β : Type} {T : β} {a : α} {f : α → β} (h : T = xj_bnd a f) : ∃ z, z = a ∧ T = f z := ⟨a, rfl, h⟩
theorem xj_t {β : Type} {c : Prop} [Decidable c] {T a b : β} (h : T = if c then a else b) (hc : c) : T = a := h.trans (if_pos hc)
theorem xj_f {β : Type} {c : Prop} [Decidable c] {T a b : β} (h : T = if c then a else b) (hc : ¬ c) : T = b := h.trans (if_neg hc)
theorem xj_nb {v : Int32} (h : v = 0 ∨ v = 1) : narrow .boolean (.int v) = .int v := by rcases h with rfl | rfl <;> rfl
theorem xj_fb {v : Int32} (h : v = 0 ∨ v = 1) : fits .boolean (.int v) = true := by rcases h with rfl | rfl <;> rfl
theorem xj_fm {α : Type} {is : List Nat} {f : Nat → Option α} {l : List α} (h : is.map f = l.map some) : is.filterMap f = l := by
  have h2 : is.filterMap f = (is.map f).filterMap id := by rw [List.filterMap_map]; rfl
  rw [h2, h, List.filterMap_map]
  simp
/-- a method without any world: its answer is a function of its arguments -/
abbrev xj_Pl (l : Launch) (y : MethodName) (ws : List Cond) (rm : Room) (av : List Value) (r : Int64) : Prop :=
  ∀ sz : Nat, Met l y ws rm (va_Pc av (fun U => U.heap.size = sz)) (va_Ql (fun (x : Int64) (_ : Unit) => x = r) (fun _ _ => True) (va_A [] sz)) 0 0 (va_A [] sz)
abbrev xj_Pi (l : Launch) (y : MethodName) (ws : List Cond) (rm : Room) (av : List Value) (r : Int32) : Prop :=
  ∀ sz : Nat, Met l y ws rm (va_Pc av (fun U => U.heap.size = sz)) (va_Qi (fun (x : Int32) (_ : Unit) => x = r) (fun _ _ => True) (va_A [] sz)) 0 0 (va_A [] sz)
/-- a method over the cells Wd st: its answer and the new st are functions of its arguments and of st -/
abbrev xj_Ol {S : Type} (l : Launch) (D : va_G) (cl : List vw_C) (tys : List (ClassId × FieldType)) (Wd : S → va_W) (y : MethodName) (ws : List Cond) (rm : Room) (av : List Value) (st : S) (r : Int64 × S) : Prop :=
  ∀ sz : Nat, Met l y ws rm (va_Pc av (fun U => U.heap.size = sz ∧ va_P D cl (Wd st) U.heap ∧ va_K D cl tys U ∧ va_D (fun _ => True) (Wd st))) (va_Ql (fun (x : Int64) (u : S) => (x, u) = r) (fun u t => va_P D cl (Wd u) t.heap ∧ va_D (va_A (Wd st) sz) (Wd u)) (va_A (Wd st) sz)) 0 0 (va_A (Wd st) sz)
abbrev xj_Oi {S : Type} (l : Launch) (D : va_G) (cl : List vw_C) (tys : List (ClassId × FieldType)) (Wd : S → va_W) (y : MethodName) (ws : List Cond) (rm : Room) (av : List Value) (st : S) (r : Int32 × S) : Prop :=
  ∀ sz : Nat, Met l y ws rm (va_Pc av (fun U => U.heap.size = sz ∧ va_P D cl (Wd st) U.heap ∧ va_K D cl tys U ∧ va_D (fun _ => True) (Wd st))) (va_Qi (fun (x : Int32) (u : S) => (x, u) = r) (fun u t => va_P D cl (Wd u) t.heap ∧ va_D (va_A (Wd st) sz) (Wd u)) (va_A (Wd st) sz)) 0 0 (va_A (Wd st) sz)
abbrev xj_Ov {S : Type} (l : Launch) (D : va_G) (cl : List vw_C) (tys : List (ClassId × FieldType)) (Wd : S → va_W) (y : MethodName) (ws : List Cond) (rm : Room) (av : List Value) (st : S) (r : S) : Prop :=
  ∀ sz : Nat, Met l y ws rm (va_Pc av (fun U => U.heap.size = sz ∧ va_P D cl (Wd st) U.heap ∧ va_K D cl tys U ∧ va_D (fun _ => True) (Wd st))) (va_Qv (fun (u : S) => u = r) (fun u t => va_P D cl (Wd u) t.heap ∧ va_D (va_A (Wd st) sz) (Wd u)) (va_A (Wd st) sz)) 0 0 (va_A (Wd st) sz)
section
variable {p : Program} {l : Launch} {e : Env} {R : Room} {s : State} {m : MethodId} {args : Array Value} {below : List Frame} {meth : Method} {c : Code} {H : Heap} {locs : List Loc} {cells slots : Nat} {Q : State → Prop}
variable {cc bytes : ByteArray} {pc : Nat} {ls : Array Slot} {rest st : List Value} {y : MethodName} {ws : List Cond} {rm : Room} {As : List Value} {maxL nL n index : Nat} {ret : Option FieldType} {Ts : List Cond} {own : String} {A : Nat → Prop} {H0 : Heap} {D : va_G} {cl : List vw_C} {wl : va_W}
/-- what is in a world is old: a method that may only make new cells leaves it -/
theorem xj_kept {H1 : Heap} (hP : va_P D cl wl H) (hk : ∀ q : Nat, q < H.size → H1[q]? = H[q]?) : va_P D cl wl H1 :=
  hP.kept (fun k q hq => hk q.1 (hP k q hq).lt)
theorem xj_newN {q : Nat} (h : q < H.size) : ¬ va_A [] H.size q := by
  rintro (⟨k2, e2, h2⟩ | h2)
  · simp at h2
  · exact absurd h (Nat.not_lt.mpr h2)
theorem xj_newA (hS : va_S A H0 H locs) (hA : ∀ q, H0.size ≤ q → A q) : ∀ q, va_A [] H.size q → A q := by
  rintro q (⟨k2, e2, h2⟩ | h2)
  · simp at h2
  · exact hA q (Nat.le_trans hS.1 h2)
theorem xj_sl {r : Int64} (S : CallFix p m c cc nL s args Ts own) (hM : xj_Pl l y ws rm As r) (cw : CallB R s args own index y bytes maxL ret ws rm 0 0 n ∧ (Cond.static y).before args s = true)
    (hS : va_S A H0 H locs) (hA : ∀ q, H0.size ≤ q → A q) (hn : As.length = n) (hsize : ls.size = nL) (hst : st = As.reverse ++ rest) (hW : (rest.map fun v => v.category).sum ≤ 8) (hdg : decode cc pc = .ok (.invokestatic index, 3)) (hf : cells ≤ R.cells ∧ slots ≤ R.slots)
    (kk : ∀ (H1 : Heap) (locs1 : List Loc), (∀ q : Nat, q < H.size → H1[q]? = H[q]?) → va_S A H0 H1 locs1 → W p l e R s m args below meth c H1 locs1 cells slots Q (F0 m (pc + 3) ls (.long r :: rest))) :
    W p l e R s m args below meth c H locs cells slots Q (F0 m pc ls st) := by
  subst hst
  refine va_calll (va_runS (rest := rest) S (hM H.size) cw ⟨fun a U g mk q => ⟨q.1, q.2⟩, fun U hU hW => ⟨rfl, congrArg Array.size hU⟩⟩ rfl hn hsize rfl (lv_room hW) hdg hf) hS (fun q _ h => xj_newA hS hA q h) (xj_newA hS hA) (fun r2 u t H1 locs1 ht hvm hw hB hz1 hk1 hS1 => ?_)
  subst hw
  exact kk H1 locs1 (fun q hq => hk1 q hq (xj_newN hq)) hS1
theorem xj_si {r : Int32} (S : CallFix p m c cc nL s args Ts own) (hM : xj_Pi l y ws rm As r) (cw : CallB R s args own index y bytes maxL ret ws rm 0 0 n ∧ (Cond.static y).before args s = true)
    (hS : va_S A H0 H locs) (hA : ∀ q, H0.size ≤ q → A q) (hn : As.length = n) (hsize : ls.size = nL) (hst : st = As.reverse ++ rest) (hW : (rest.map fun v => v.category).sum ≤ 8) (hdg : decode cc pc = .ok (.invokestatic index, 3)) (hf : cells ≤ R.cells ∧ slots ≤ R.slots)
    (kk : ∀ (H1 : Heap) (locs1 : List Loc), (∀ q : Nat, q < H.size → H1[q]? = H[q]?) → va_S A H0 H1 locs1 → W p l e R s m args below meth c H1 locs1 cells slots Q (F0 m (pc + 3) ls (.int r :: rest))) :
    W p l e R s m args below meth c H locs cells slots Q (F0 m pc ls st) := by
  subst hst
  refine va_calli (va_runS (rest := rest) S (hM H.size) cw ⟨fun a U g mk q => ⟨q.1, q.2⟩, fun U hU hW => ⟨rfl, congrArg Array.size hU⟩⟩ rfl hn hsize rfl (lv_room hW) hdg hf) hS (fun q _ h => xj_newA hS hA q h) (xj_newA hS hA) (fun r2 u t H1 locs1 ht hvm hw hB hz1 hk1 hS1 => ?_)
  subst hw
  exact kk H1 locs1 (fun q hq => hk1 q hq (xj_newN hq)) hS1
variable {S0 : Type} {tys tys1 : List (ClassId × FieldType)} {Wd : S0 → va_W} {sv : S0} {C : String} {b : Nat} {wr : va_W}
/-- a call of a method over the cells Wd sv, which lie in the caller's world at the places isC; the others, at isR, stay -/
theorem xj_vi {r : Int32 × S0} (S : CallFix p m c cc nL s args Ts own) (hM : xj_Oi l D cl tys1 Wd y ws rm (.ref b :: As) sv r) (cw : CallW R s args own C index y bytes maxL ret ws rm 0 0 n)
    (hP : va_P D cl wl H) (hK : va_K D cl tys s) (hD : va_D A wl) (hS : va_S A H0 H locs) (hA : ∀ q, H0.size ≤ q → A q) (isC isR isT : List Nat) (hC : isC.map (fun i => wl[i]?) = (Wd sv).map some) (hcn : va_nd isC = true) (hR : isR.map (fun i => wl[i]?) = wr.map some) (hn1 : va_nd isR = true) (hdis : ∀ i ∈ isR, i ∉ isC) (hT : isT.filterMap (fun i => tys[i]?) = tys1)
    (hrc : ∃ cell : Cell, H[b]? = some cell ∧ cell.vm.isStatics = false ∧ s.vm.findClass C = some cell.cls) (hn : As.length = n) (hsize : ls.size = nL) (hst : st = As.reverse ++ .ref b :: rest) (hW : (rest.map fun v => v.category).sum ≤ 8) (hdg : decode cc pc = .ok (.invokevirtual index, 3)) (hf : cells ≤ R.cells ∧ slots ≤ R.slots)
    (kk : ∀ (H1 : Heap) (locs1 : List Loc), va_P D cl (wr ++ Wd r.2) H1 → va_D A (wr ++ Wd r.2) → va_S A H0 H1 locs1 → W p l e R s m args below meth c H1 locs1 cells slots Q (F0 m (pc + 3) ls (.int r.1 :: rest))) :
    W p l e R s m args below meth c H locs cells slots Q (F0 m pc ls st) := by
  subst hst
  have hPc := hP.sub (ws' := Wd sv) isC (xj_fm hC)
  have hDc := hD.sub (ws' := Wd sv) isC hcn hC
  have hKc := hK.sub (tys' := tys1) isT hT
  have hFc := va_free (wc := Wd sv) hD hS hA isC hC
  refine va_calli (va_runV (rest := rest) S (hM H.size) cw ⟨fun a U g mk q => by obtain ⟨q0, q1, qP, qK, qD⟩ := q; exact ⟨q0, q1, qP, va_K.moved (u := U) (U := U.calling g mk a) (Vm.Alike.refl U.vm) qK, qD⟩, hrc, fun U hU hW => ⟨rfl, by rw [hU], by rw [hU]; exact hPc, va_K.moved hW.alike hKc, hDc.weaken (fun _ _ _ _ => trivial)⟩⟩ rfl hn hsize rfl (lv_room hW) hdg hf) hS (fun q _ h => hFc q h) hFc (fun r2 u t H1 locs1 ht hvm hw hB hz1 hk1 hS1 => ?_)
  subst hw
  obtain ⟨hP1, hD1⟩ := hB
  rw [ht] at hP1
  obtain ⟨hP2, hD2⟩ := va_join (wr := wr) (w1 := Wd u) hP hD isC isR hC hR hn1 hdis hk1 hFc hP1 hD1
  exact kk H1 locs1 hP2 hD2 hS1
theorem xj_vl {r : Int64 × S0} (S : CallFix p m c cc nL s args Ts own) (hM : xj_Ol l D cl tys1 Wd y ws rm (.ref b :: As) sv r) (cw : CallW R s args own C index y bytes maxL ret ws rm 0 0 n)
    (hP : va_P D cl wl H) (hK : va_K D cl tys s) (hD : va_D A wl) (hS : va_S A H0 H locs) (hA : ∀ q, H0.size ≤ q → A q) (isC isR isT : List Nat) (hC : isC.map (fun i => wl[i]?) = (Wd sv).map some) (hcn : va_nd isC = true) (hR : isR.map (fun i => wl[i]?) = wr.map some) (hn1 : va_nd isR = true) (hdis : ∀ i ∈ isR, i ∉ isC) (hT : isT.filterMap (fun i => tys[i]?) = tys1)
    (hrc : ∃ cell : Cell, H[b]? = some cell ∧ cell.vm.isStatics = false ∧ s.vm.findClass C = some cell.cls) (hn : As.length = n) (hsize : ls.size = nL) (hst : st = As.reverse ++ .ref b :: rest) (hW : (rest.map fun v => v.category).sum ≤ 8) (hdg : decode cc pc = .ok (.invokevirtual index, 3)) (hf : cells ≤ R.cells ∧ slots ≤ R.slots)
    (kk : ∀ (H1 : Heap) (locs1 : List Loc), va_P D cl (wr ++ Wd r.2) H1 → va_D A (wr ++ Wd r.2) → va_S A H0 H1 locs1 → W p l e R s m args below meth c H1 locs1 cells slots Q (F0 m (pc + 3) ls (.long r.1 :: rest))) :
    W p l e R s m args below meth c H locs cells slots Q (F0 m pc ls st) := by
  subst hst
  have hPc := hP.sub (ws' := Wd sv) isC (xj_fm hC)
  have hDc := hD.sub (ws' := Wd sv) isC hcn hC
  have hKc := hK.sub (tys' := tys1) isT hT
  have hFc := va_free (wc := Wd sv) hD hS hA isC hC
  refine va_calll (va_runV (rest := rest) S (hM H.size) cw ⟨fun a U g mk q => by obtain ⟨q0, q1, qP, qK, qD⟩ := q; exact ⟨q0, q1, qP, va_K.moved (u := U) (U := U.calling g mk a) (Vm.Alike.refl U.vm) qK, qD⟩, hrc, fun U hU hW => ⟨rfl, by rw [hU], by rw [hU]; exact hPc, va_K.moved hW.alike hKc, hDc.weaken (fun _ _ _ _ => trivial)⟩⟩ rfl hn hsize rfl (lv_room hW) hdg hf) hS (fun q _ h => hFc q h) hFc (fun r2 u t H1 locs1 ht hvm hw hB hz1 hk1 hS1 => ?_)
  subst hw
  obtain ⟨hP1, hD1⟩ := hB
  rw [ht] at hP1
  obtain ⟨hP2, hD2⟩ := va_join (wr := wr) (w1 := Wd u) hP hD isC isR hC hR hn1 hdis hk1 hFc hP1 hD1
  exact kk H1 locs1 hP2 hD2 hS1
theorem xj_vv {r : S0} (S : CallFix p m c cc nL s args Ts own) (hM : xj_Ov l D cl tys1 Wd y ws rm (.ref b :: As) sv r) (cw : CallW R s args own C index y bytes maxL ret ws rm 0 0 n)
    (hP : va_P D cl wl H) (hK : va_K D cl tys s) (hD : va_D A wl) (hS : va_S A H0 H locs) (hA : ∀ q, H0.size ≤ q → A q) (isC isR isT : List Nat) (hC : isC.map (fun i => wl[i]?) = (Wd sv).map some) (hcn : va_nd isC = true) (hR : isR.map (fun i => wl[i]?) = wr.map some) (hn1 : va_nd isR = true) (hdis : ∀ i ∈ isR, i ∉ isC) (hT : isT.filterMap (fun i => tys[i]?) = tys1)
    (hrc : ∃ cell : Cell, H[b]? = some cell ∧ cell.vm.isStatics = false ∧ s.vm.findClass C = some cell.cls) (hn : As.length = n) (hsize : ls.size = nL) (hst : st = As.reverse ++ .ref b :: rest) (hW : (rest.map fun v => v.category).sum ≤ 8) (hdg : decode cc pc = .ok (.invokevirtual index, 3)) (hf : cells ≤ R.cells ∧ slots ≤ R.slots)
    (kk : ∀ (H1 : Heap) (locs1 : List Loc), va_P D cl (wr ++ Wd r) H1 → va_D A (wr ++ Wd r) → va_S A H0 H1 locs1 → W p l e R s m args below meth c H1 locs1 cells slots Q (F0 m (pc + 3) ls rest)) :
    W p l e R s m args below meth c H locs cells slots Q (F0 m pc ls st) := by
  subst hst
  have hPc := hP.sub (ws' := Wd sv) isC (xj_fm hC)
  have hDc := hD.sub (ws' := Wd sv) isC hcn hC
  have hKc := hK.sub (tys' := tys1) isT hT
  have hFc := va_free (wc := Wd sv) hD hS hA isC hC
  refine va_callv (va_runV (rest := rest) S (hM H.size) cw ⟨fun a U g mk q => by obtain ⟨q0, q1, qP, qK, qD⟩ := q; exact ⟨q0, q1, qP, va_K.moved (u := U) (U := U.calling g mk a) (Vm.Alike.refl U.vm) qK, qD⟩, hrc, fun U hU hW => ⟨rfl, by rw [hU], by rw [hU]; exact hPc, va_K.moved hW.alike hKc, hDc.weaken (fun _ _ _ _ => trivial)⟩⟩ rfl hn hsize rfl (lv_room hW) hdg hf) hS (fun q _ h => hFc q h) hFc (fun u t H1 locs1 ht hvm hw hB hz1 hk1 hS1 => ?_)
  subst hw
  obtain ⟨hP1, hD1⟩ := hB
  rw [ht] at hP1
  obtain ⟨hP2, hD2⟩ := va_join (wr := wr) (w1 := Wd u) hP hD isC isR hC hR hn1 hdis hk1 hFc hP1 hD1
  exact kk H1 locs1 hP2 hD2 hS1
end
/-- a counter that has not reached its bound goes on -/
theorem xj_ctr {x b : Int32} {k B : Nat} (hx : x = nI k) (hb : b = nI B) (hB : B < 2 ^ 31) (hk : k ≤ B) (h : ¬ b ≤ x) : k + 1 ≤ B := by
  rcases Nat.lt_or_ge k B with q | q
  · exact q
  · exact absurd (by rw [hx, hb]; exact nI_le q (by omega)) h
