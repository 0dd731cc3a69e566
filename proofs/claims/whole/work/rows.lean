section
section
variable {p : Program} {l : Launch} {e : Env} {R : Room} {s : State} {m : MethodId} {args : Array Value} {below : List Frame} {meth : Method} {c : Code} {H : Heap} {locs : List Loc} {cells slots : Nat} {Q : State → Prop}
variable {cc : ByteArray} {pc : Nat} {ls : Array Slot} {rest st : List Value}
/-- two arms that meet again at J -/
theorem xj_join (J : Nat) (Pr : Array Slot → List Value → Prop)
    (k : ∀ ls' st', Pr ls' st' → W p l e R s m args below meth c H locs cells slots Q (F0 m J ls' st'))
    (br : (∀ ls' st', Pr ls' st' → W p l e R s m args below meth c H locs cells slots Q (F0 m J ls' st')) → W p l e R s m args below meth c H locs cells slots Q (F0 m pc ls st)) :
    W p l e R s m args below meth c H locs cells slots Q (F0 m pc ls st) := br k
theorem xj_joinH (J : Nat) (Pr : Heap → List Loc → Array Slot → List Value → Prop)
    (k : ∀ H' locs' ls' st', Pr H' locs' ls' st' → W p l e R s m args below meth c H' locs' cells slots Q (F0 m J ls' st'))
    (br : (∀ H' locs' ls' st', Pr H' locs' ls' st' → W p l e R s m args below meth c H' locs' cells slots Q (F0 m J ls' st')) → W p l e R s m args below meth c H locs cells slots Q (F0 m pc ls st)) :
    W p l e R s m args below meth c H locs cells slots Q (F0 m pc ls st) := br k
/-- a loop with its head at J, which leaves the heap alone; n falls -/
theorem xj_loop (J : Nat) (Pr : Nat → Array Slot → List Value → Prop) (n : Nat) (h0 : Pr n ls st)
    (hs : ∀ n, (∀ ls' st', Pr n ls' st' → W p l e R s m args below meth c H locs cells slots Q (F0 m J ls' st')) → ∀ ls' st', Pr (n + 1) ls' st' → W p l e R s m args below meth c H locs cells slots Q (F0 m J ls' st'))
    (hz : ∀ ls' st', Pr 0 ls' st' → False) : W p l e R s m args below meth c H locs cells slots Q (F0 m J ls st) := by
  have k : ∀ n ls' st', Pr n ls' st' → W p l e R s m args below meth c H locs cells slots Q (F0 m J ls' st') := by
    intro n
    induction n with
    | zero => intro ls' st' h; exact (hz ls' st' h).elim
    | succ n ih => exact hs n ih
  exact k n ls st h0
theorem xj_l_eq (hexec : p.tables.exec = Jvm.exec) (hb : c.code = cc) {x y : Int64} {off : Int} {tgt : Nat} (h1 : decode cc pc = .ok (.lcmp, 1)) (h2 : decode cc (pc + 1) = .ok (.ifCond .eq off, 3)) (ht : ((pc + 1 : Nat) : Int) + off = (tgt : Int))
    (kt : x = y → W p l e R s m args below meth c H locs cells slots Q (F0 m tgt ls rest)) (kf : ¬ x = y → W p l e R s m args below meth c H locs cells slots Q (F0 m (pc + 1 + 3) ls rest)) : W p l e R s m args below meth c H locs cells slots Q (F0 m pc ls (.long y :: .long x :: rest)) :=
  W.lcmp hexec hb h1 (lv_if_eq hexec hb h2 ht (fun h => kt ((lg_cmp_eq x y).mp h)) (fun h => kf (fun h' => h ((lg_cmp_eq x y).mpr h'))))
theorem xj_l_ne (hexec : p.tables.exec = Jvm.exec) (hb : c.code = cc) {x y : Int64} {off : Int} {tgt : Nat} (h1 : decode cc pc = .ok (.lcmp, 1)) (h2 : decode cc (pc + 1) = .ok (.ifCond .ne off, 3)) (ht : ((pc + 1 : Nat) : Int) + off = (tgt : Int))
    (kt : ¬ x = y → W p l e R s m args below meth c H locs cells slots Q (F0 m tgt ls rest)) (kf : x = y → W p l e R s m args below meth c H locs cells slots Q (F0 m (pc + 1 + 3) ls rest)) : W p l e R s m args below meth c H locs cells slots Q (F0 m pc ls (.long y :: .long x :: rest)) :=
  W.lcmp hexec hb h1 (lv_if_ne hexec hb h2 ht (fun h => kt (fun h' => h ((lg_cmp_eq x y).mpr h'))) (fun h => kf ((lg_cmp_eq x y).mp h)))
theorem xj_l_lt (hexec : p.tables.exec = Jvm.exec) (hb : c.code = cc) {x y : Int64} {off : Int} {tgt : Nat} (h1 : decode cc pc = .ok (.lcmp, 1)) (h2 : decode cc (pc + 1) = .ok (.ifCond .lt off, 3)) (ht : ((pc + 1 : Nat) : Int) + off = (tgt : Int))
    (kt : x < y → W p l e R s m args below meth c H locs cells slots Q (F0 m tgt ls rest)) (kf : ¬ x < y → W p l e R s m args below meth c H locs cells slots Q (F0 m (pc + 1 + 3) ls rest)) : W p l e R s m args below meth c H locs cells slots Q (F0 m pc ls (.long y :: .long x :: rest)) :=
  W.lcmp hexec hb h1 (lv_if_lt hexec hb h2 ht (fun h => kt ((lg_cmp_lt x y).mp h)) (fun h => kf (fun h' => h ((lg_cmp_lt x y).mpr h'))))
theorem xj_l_ge (hexec : p.tables.exec = Jvm.exec) (hb : c.code = cc) {x y : Int64} {off : Int} {tgt : Nat} (h1 : decode cc pc = .ok (.lcmp, 1)) (h2 : decode cc (pc + 1) = .ok (.ifCond .ge off, 3)) (ht : ((pc + 1 : Nat) : Int) + off = (tgt : Int))
    (kt : y ≤ x → W p l e R s m args below meth c H locs cells slots Q (F0 m tgt ls rest)) (kf : ¬ y ≤ x → W p l e R s m args below meth c H locs cells slots Q (F0 m (pc + 1 + 3) ls rest)) : W p l e R s m args below meth c H locs cells slots Q (F0 m pc ls (.long y :: .long x :: rest)) :=
  W.lcmp hexec hb h1 (lv_if_ge hexec hb h2 ht (fun h => kt ((lg_cmp_ge x y).mp h)) (fun h => kf (fun h' => h ((lg_cmp_ge x y).mpr h'))))
theorem xj_l_gt (hexec : p.tables.exec = Jvm.exec) (hb : c.code = cc) {x y : Int64} {off : Int} {tgt : Nat} (h1 : decode cc pc = .ok (.lcmp, 1)) (h2 : decode cc (pc + 1) = .ok (.ifCond .gt off, 3)) (ht : ((pc + 1 : Nat) : Int) + off = (tgt : Int))
    (kt : y < x → W p l e R s m args below meth c H locs cells slots Q (F0 m tgt ls rest)) (kf : ¬ y < x → W p l e R s m args below meth c H locs cells slots Q (F0 m (pc + 1 + 3) ls rest)) : W p l e R s m args below meth c H locs cells slots Q (F0 m pc ls (.long y :: .long x :: rest)) :=
  W.lcmp hexec hb h1 (lv_if_gt hexec hb h2 ht (fun h => kt ((lg_cmp_gt x y).mp h)) (fun h => kf (fun h' => h ((lg_cmp_gt x y).mpr h'))))
theorem xj_l_le (hexec : p.tables.exec = Jvm.exec) (hb : c.code = cc) {x y : Int64} {off : Int} {tgt : Nat} (h1 : decode cc pc = .ok (.lcmp, 1)) (h2 : decode cc (pc + 1) = .ok (.ifCond .le off, 3)) (ht : ((pc + 1 : Nat) : Int) + off = (tgt : Int))
    (kt : x ≤ y → W p l e R s m args below meth c H locs cells slots Q (F0 m tgt ls rest)) (kf : ¬ x ≤ y → W p l e R s m args below meth c H locs cells slots Q (F0 m (pc + 1 + 3) ls rest)) : W p l e R s m args below meth c H locs cells slots Q (F0 m pc ls (.long y :: .long x :: rest)) :=
  W.lcmp hexec hb h1 (lv_if_le hexec hb h2 ht (fun h => kt ((lg_cmp_le x y).mp h)) (fun h => kf (fun h' => h ((lg_cmp_le x y).mpr h'))))
end
/-- shifts as the machine has them -/
abbrev xj_shl (x : Int64) (y : Int32) : Int64 := x <<< (y.toInt64 &&& 63)
abbrev xj_shr (x : Int64) (y : Int32) : Int64 := x >>> (y.toInt64 &&& 63)
abbrev xj_ush (x : Int64) (y : Int32) : Int64 := (x.toUInt64 >>> (y.toInt64.toUInt64 &&& Int64.toUInt64 63)).toInt64
abbrev xj_ushi (x y : Int32) : Int32 := (x.toUInt32 >>> (y.toUInt32 &&& Int32.toUInt32 31)).toInt32
abbrev xj_abs (x : Int64) : Int64 := if 0 < x then x else -x
/-- a named step of a mirror function -/
def xj_bnd {α β : Type} (a : α) (f : α → β) : β := f a
theorem xj_bz {α β : Type} {T : β} {a z : α} {f : α → β} (h : T = xj_bnd a f) (e : z = a) : T = f z := by subst e; exact h
theorem xj_b {α β : Type} {T : β} {a : α} {f : α → β} (h : T = xj_bnd a f) : ∃ z, z = a ∧ T = f z := ⟨a, rfl, h⟩
theorem xj_t {β : Type} {c : Prop} [Decidable c] {T a b : β} (h : T = if c then a else b) (hc : c) : T = a := h.trans (if_pos hc)
theorem xj_f {β : Type} {c : Prop} [Decidable c] {T a b : β} (h : T = if c then a else b) (hc : ¬ c) : T = b := h.trans (if_neg hc)
theorem xj_nb {v : Int32} (h : v = 0 ∨ v = 1) : narrow .boolean (.int v) = .int v := by rcases h with rfl | rfl <;> rfl
theorem xj_fb {v : Int32} (h : v = 0 ∨ v = 1) : fits .boolean (.int v) = true := by rcases h with rfl | rfl <;> rfl
theorem xj_fm {α : Type} {is : List Nat} {f : Nat → Option α} {l : List α} (h : is.map f = l.map some) : is.filterMap f = l := by
  have h2 : is.filterMap f = (is.map f).filterMap id := by rw [List.filterMap_map]; rfl
  rw [h2, h, List.filterMap_map]
  simp
/-- a method without any world: its answer is a function of its arguments -/
abbrev xj_Pl (l : Launch) (y : MethodName) (ws : List Cond) (rm : Room) (av : List Value) (r : Int64) : Prop :=
  ∀ sz : Nat, Met l y ws rm (va_Pc av (fun U => U.heap.size = sz)) (va_Ql (fun (x : Int64) (_ : Unit) => x = r) (fun _ _ => True) (va_A [] sz)) 0 0 (va_A [] sz)
abbrev xj_Pi (l : Launch) (y : MethodName) (ws : List Cond) (rm : Room) (av : List Value) (r : Int32) : Prop :=
  ∀ sz : Nat, Met l y ws rm (va_Pc av (fun U => U.heap.size = sz)) (va_Qi (fun (x : Int32) (_ : Unit) => x = r) (fun _ _ => True) (va_A [] sz)) 0 0 (va_A [] sz)
/-- a method over the cells Wd st: its answer and the new st are functions of its arguments and of st -/
abbrev xj_Ol {S : Type} (l : Launch) (D : va_G) (cl : List vw_C) (tys : List (ClassId × FieldType)) (Wd : S → va_W) (y : MethodName) (ws : List Cond) (rm : Room) (av : List Value) (st : S) (r : Int64 × S) : Prop :=
  ∀ sz : Nat, Met l y ws rm (va_Pc av (fun U => U.heap.size = sz ∧ va_P D cl (Wd st) U.heap ∧ va_K D cl tys U ∧ va_D (fun _ => True) (Wd st))) (va_Ql (fun (x : Int64) (u : S) => (x, u) = r) (fun u t => va_P D cl (Wd u) t.heap ∧ va_D (va_A (Wd st) sz) (Wd u)) (va_A (Wd st) sz)) 0 0 (va_A (Wd st) sz)
abbrev xj_Oi {S : Type} (l : Launch) (D : va_G) (cl : List vw_C) (tys : List (ClassId × FieldType)) (Wd : S → va_W) (y : MethodName) (ws : List Cond) (rm : Room) (av : List Value) (st : S) (r : Int32 × S) : Prop :=
  ∀ sz : Nat, Met l y ws rm (va_Pc av (fun U => U.heap.size = sz ∧ va_P D cl (Wd st) U.heap ∧ va_K D cl tys U ∧ va_D (fun _ => True) (Wd st))) (va_Qi (fun (x : Int32) (u : S) => (x, u) = r) (fun u t => va_P D cl (Wd u) t.heap ∧ va_D (va_A (Wd st) sz) (Wd u)) (va_A (Wd st) sz)) 0 0 (va_A (Wd st) sz)
abbrev xj_Ov {S : Type} (l : Launch) (D : va_G) (cl : List vw_C) (tys : List (ClassId × FieldType)) (Wd : S → va_W) (y : MethodName) (ws : List Cond) (rm : Room) (av : List Value) (st : S) (r : S) : Prop :=
  ∀ sz : Nat, Met l y ws rm (va_Pc av (fun U => U.heap.size = sz ∧ va_P D cl (Wd st) U.heap ∧ va_K D cl tys U ∧ va_D (fun _ => True) (Wd st))) (va_Qv (fun (u : S) => u = r) (fun u t => va_P D cl (Wd u) t.heap ∧ va_D (va_A (Wd st) sz) (Wd u)) (va_A (Wd st) sz)) 0 0 (va_A (Wd st) sz)
section
variable {p : Program} {l : Launch} {e : Env} {R : Room} {s : State} {m : MethodId} {args : Array Value} {below : List Frame} {meth : Method} {c : Code} {H : Heap} {locs : List Loc} {cells slots : Nat} {Q : State → Prop}
variable {cc bytes : ByteArray} {pc : Nat} {ls : Array Slot} {rest st : List Value} {y : MethodName} {ws : List Cond} {rm : Room} {As : List Value} {maxL nL n index : Nat} {ret : Option FieldType} {Ts : List Cond} {own : String} {A : Nat → Prop} {H0 : Heap} {D : va_G} {cl : List vw_C} {wl : va_W}
/-- what is in a world is old: a method that may only make new cells leaves it -/
theorem xj_kept {H1 : Heap} (hP : va_P D cl wl H) (hk : ∀ q : Nat, q < H.size → H1[q]? = H[q]?) : va_P D cl wl H1 :=
  hP.kept (fun k q hq => hk q.1 (hP k q hq).lt)
theorem xj_newN {q : Nat} (h : q < H.size) : ¬ va_A [] H.size q := by
  rintro (⟨k2, e2, h2⟩ | h2)
  · simp at h2
  · exact absurd h (Nat.not_lt.mpr h2)
theorem xj_newA (hS : va_S A H0 H locs) (hA : ∀ q, H0.size ≤ q → A q) : ∀ q, va_A [] H.size q → A q := by
  rintro q (⟨k2, e2, h2⟩ | h2)
  · simp at h2
  · exact hA q (Nat.le_trans hS.1 h2)
theorem xj_sl {r : Int64} (S : CallFix p m c cc nL s args Ts own) (hM : xj_Pl l y ws rm As r) (cw : CallB R s args own index y bytes maxL ret ws rm 0 0 n ∧ (Cond.static y).before args s = true)
    (hS : va_S A H0 H locs) (hA : ∀ q, H0.size ≤ q → A q) (hn : As.length = n) (hsize : ls.size = nL) (hst : st = As.reverse ++ rest) (hW : (rest.map fun v => v.category).sum ≤ 8) (hdg : decode cc pc = .ok (.invokestatic index, 3)) (hf : cells ≤ R.cells ∧ slots ≤ R.slots)
    (kk : ∀ (H1 : Heap) (locs1 : List Loc), (∀ q : Nat, q < H.size → H1[q]? = H[q]?) → va_S A H0 H1 locs1 → W p l e R s m args below meth c H1 locs1 cells slots Q (F0 m (pc + 3) ls (.long r :: rest))) :
    W p l e R s m args below meth c H locs cells slots Q (F0 m pc ls st) := by
  subst hst
  refine va_calll (va_runS (rest := rest) S (hM H.size) cw ⟨fun a U g mk q => ⟨q.1, q.2⟩, fun U hU hW => ⟨rfl, congrArg Array.size hU⟩⟩ rfl hn hsize rfl (lv_room hW) hdg hf) hS (fun q _ h => xj_newA hS hA q h) (xj_newA hS hA) (fun r2 u t H1 locs1 ht hvm hw hB hz1 hk1 hS1 => ?_)
  subst hw
  exact kk H1 locs1 (fun q hq => hk1 q hq (xj_newN hq)) hS1
theorem xj_si {r : Int32} (S : CallFix p m c cc nL s args Ts own) (hM : xj_Pi l y ws rm As r) (cw : CallB R s args own index y bytes maxL ret ws rm 0 0 n ∧ (Cond.static y).before args s = true)
    (hS : va_S A H0 H locs) (hA : ∀ q, H0.size ≤ q → A q) (hn : As.length = n) (hsize : ls.size = nL) (hst : st = As.reverse ++ rest) (hW : (rest.map fun v => v.category).sum ≤ 8) (hdg : decode cc pc = .ok (.invokestatic index, 3)) (hf : cells ≤ R.cells ∧ slots ≤ R.slots)
    (kk : ∀ (H1 : Heap) (locs1 : List Loc), (∀ q : Nat, q < H.size → H1[q]? = H[q]?) → va_S A H0 H1 locs1 → W p l e R s m args below meth c H1 locs1 cells slots Q (F0 m (pc + 3) ls (.int r :: rest))) :
    W p l e R s m args below meth c H locs cells slots Q (F0 m pc ls st) := by
  subst hst
  refine va_calli (va_runS (rest := rest) S (hM H.size) cw ⟨fun a U g mk q => ⟨q.1, q.2⟩, fun U hU hW => ⟨rfl, congrArg Array.size hU⟩⟩ rfl hn hsize rfl (lv_room hW) hdg hf) hS (fun q _ h => xj_newA hS hA q h) (xj_newA hS hA) (fun r2 u t H1 locs1 ht hvm hw hB hz1 hk1 hS1 => ?_)
  subst hw
  exact kk H1 locs1 (fun q hq => hk1 q hq (xj_newN hq)) hS1
variable {S0 : Type} {tys tys1 : List (ClassId × FieldType)} {Wd : S0 → va_W} {sv : S0} {C : String} {b : Nat} {wr : va_W}
/-- a call of a method over the cells Wd sv, which lie in the caller's world at the places isC; the others, at isR, stay -/
theorem xj_vi {r : Int32 × S0} (S : CallFix p m c cc nL s args Ts own) (hM : xj_Oi l D cl tys1 Wd y ws rm (.ref b :: As) sv r) (cw : CallW R s args own C index y bytes maxL ret ws rm 0 0 n)
    (hP : va_P D cl wl H) (hK : va_K D cl tys s) (hD : va_D A wl) (hS : va_S A H0 H locs) (hA : ∀ q, H0.size ≤ q → A q) (isC isR isT : List Nat) (hC : isC.map (fun i => wl[i]?) = (Wd sv).map some) (hcn : va_nd isC = true) (hR : isR.map (fun i => wl[i]?) = wr.map some) (hn1 : va_nd isR = true) (hdis : ∀ i ∈ isR, i ∉ isC) (hT : isT.filterMap (fun i => tys[i]?) = tys1)
    (hrc : ∃ cell : Cell, H[b]? = some cell ∧ cell.vm.isStatics = false ∧ s.vm.findClass C = some cell.cls) (hn : As.length = n) (hsize : ls.size = nL) (hst : st = As.reverse ++ .ref b :: rest) (hW : (rest.map fun v => v.category).sum ≤ 8) (hdg : decode cc pc = .ok (.invokevirtual index, 3)) (hf : cells ≤ R.cells ∧ slots ≤ R.slots)
    (kk : ∀ (H1 : Heap) (locs1 : List Loc), va_P D cl (wr ++ Wd r.2) H1 → va_D A (wr ++ Wd r.2) → va_S A H0 H1 locs1 → W p l e R s m args below meth c H1 locs1 cells slots Q (F0 m (pc + 3) ls (.int r.1 :: rest))) :
    W p l e R s m args below meth c H locs cells slots Q (F0 m pc ls st) := by
  subst hst
  have hPc := hP.sub (ws' := Wd sv) isC (xj_fm hC)
  have hDc := hD.sub (ws' := Wd sv) isC hcn hC
  have hKc := hK.sub (tys' := tys1) isT hT
  have hFc := va_free (wc := Wd sv) hD hS hA isC hC
  refine va_calli (va_runV (rest := rest) S (hM H.size) cw ⟨fun a U g mk q => by obtain ⟨q0, q1, qP, qK, qD⟩ := q; exact ⟨q0, q1, qP, va_K.moved (u := U) (U := U.calling g mk a) (Vm.Alike.refl U.vm) qK, qD⟩, hrc, fun U hU hW => ⟨rfl, by rw [hU], by rw [hU]; exact hPc, va_K.moved hW.alike hKc, hDc.weaken (fun _ _ _ _ => trivial)⟩⟩ rfl hn hsize rfl (lv_room hW) hdg hf) hS (fun q _ h => hFc q h) hFc (fun r2 u t H1 locs1 ht hvm hw hB hz1 hk1 hS1 => ?_)
  subst hw
  obtain ⟨hP1, hD1⟩ := hB
  rw [ht] at hP1
  obtain ⟨hP2, hD2⟩ := va_join (wr := wr) (w1 := Wd u) hP hD isC isR hC hR hn1 hdis hk1 hFc hP1 hD1
  exact kk H1 locs1 hP2 hD2 hS1
theorem xj_vl {r : Int64 × S0} (S : CallFix p m c cc nL s args Ts own) (hM : xj_Ol l D cl tys1 Wd y ws rm (.ref b :: As) sv r) (cw : CallW R s args own C index y bytes maxL ret ws rm 0 0 n)
    (hP : va_P D cl wl H) (hK : va_K D cl tys s) (hD : va_D A wl) (hS : va_S A H0 H locs) (hA : ∀ q, H0.size ≤ q → A q) (isC isR isT : List Nat) (hC : isC.map (fun i => wl[i]?) = (Wd sv).map some) (hcn : va_nd isC = true) (hR : isR.map (fun i => wl[i]?) = wr.map some) (hn1 : va_nd isR = true) (hdis : ∀ i ∈ isR, i ∉ isC) (hT : isT.filterMap (fun i => tys[i]?) = tys1)
    (hrc : ∃ cell : Cell, H[b]? = some cell ∧ cell.vm.isStatics = false ∧ s.vm.findClass C = some cell.cls) (hn : As.length = n) (hsize : ls.size = nL) (hst : st = As.reverse ++ .ref b :: rest) (hW : (rest.map fun v => v.category).sum ≤ 8) (hdg : decode cc pc = .ok (.invokevirtual index, 3)) (hf : cells ≤ R.cells ∧ slots ≤ R.slots)
    (kk : ∀ (H1 : Heap) (locs1 : List Loc), va_P D cl (wr ++ Wd r.2) H1 → va_D A (wr ++ Wd r.2) → va_S A H0 H1 locs1 → W p l e R s m args below meth c H1 locs1 cells slots Q (F0 m (pc + 3) ls (.long r.1 :: rest))) :
    W p l e R s m args below meth c H locs cells slots Q (F0 m pc ls st) := by
  subst hst
  have hPc := hP.sub (ws' := Wd sv) isC (xj_fm hC)
  have hDc := hD.sub (ws' := Wd sv) isC hcn hC
  have hKc := hK.sub (tys' := tys1) isT hT
  have hFc := va_free (wc := Wd sv) hD hS hA isC hC
  refine va_calll (va_runV (rest := rest) S (hM H.size) cw ⟨fun a U g mk q => by obtain ⟨q0, q1, qP, qK, qD⟩ := q; exact ⟨q0, q1, qP, va_K.moved (u := U) (U := U.calling g mk a) (Vm.Alike.refl U.vm) qK, qD⟩, hrc, fun U hU hW => ⟨rfl, by rw [hU], by rw [hU]; exact hPc, va_K.moved hW.alike hKc, hDc.weaken (fun _ _ _ _ => trivial)⟩⟩ rfl hn hsize rfl (lv_room hW) hdg hf) hS (fun q _ h => hFc q h) hFc (fun r2 u t H1 locs1 ht hvm hw hB hz1 hk1 hS1 => ?_)
  subst hw
  obtain ⟨hP1, hD1⟩ := hB
  rw [ht] at hP1
  obtain ⟨hP2, hD2⟩ := va_join (wr := wr) (w1 := Wd u) hP hD isC isR hC hR hn1 hdis hk1 hFc hP1 hD1
  exact kk H1 locs1 hP2 hD2 hS1
theorem xj_vv {r : S0} (S : CallFix p m c cc nL s args Ts own) (hM : xj_Ov l D cl tys1 Wd y ws rm (.ref b :: As) sv r) (cw : CallW R s args own C index y bytes maxL ret ws rm 0 0 n)
    (hP : va_P D cl wl H) (hK : va_K D cl tys s) (hD : va_D A wl) (hS : va_S A H0 H locs) (hA : ∀ q, H0.size ≤ q → A q) (isC isR isT : List Nat) (hC : isC.map (fun i => wl[i]?) = (Wd sv).map some) (hcn : va_nd isC = true) (hR : isR.map (fun i => wl[i]?) = wr.map some) (hn1 : va_nd isR = true) (hdis : ∀ i ∈ isR, i ∉ isC) (hT : isT.filterMap (fun i => tys[i]?) = tys1)
    (hrc : ∃ cell : Cell, H[b]? = some cell ∧ cell.vm.isStatics = false ∧ s.vm.findClass C = some cell.cls) (hn : As.length = n) (hsize : ls.size = nL) (hst : st = As.reverse ++ .ref b :: rest) (hW : (rest.map fun v => v.category).sum ≤ 8) (hdg : decode cc pc = .ok (.invokevirtual index, 3)) (hf : cells ≤ R.cells ∧ slots ≤ R.slots)
    (kk : ∀ (H1 : Heap) (locs1 : List Loc), va_P D cl (wr ++ Wd r) H1 → va_D A (wr ++ Wd r) → va_S A H0 H1 locs1 → W p l e R s m args below meth c H1 locs1 cells slots Q (F0 m (pc + 3) ls rest)) :
    W p l e R s m args below meth c H locs cells slots Q (F0 m pc ls st) := by
  subst hst
  have hPc := hP.sub (ws' := Wd sv) isC (xj_fm hC)
  have hDc := hD.sub (ws' := Wd sv) isC hcn hC
  have hKc := hK.sub (tys' := tys1) isT hT
  have hFc := va_free (wc := Wd sv) hD hS hA isC hC
  refine va_callv (va_runV (rest := rest) S (hM H.size) cw ⟨fun a U g mk q => by obtain ⟨q0, q1, qP, qK, qD⟩ := q; exact ⟨q0, q1, qP, va_K.moved (u := U) (U := U.calling g mk a) (Vm.Alike.refl U.vm) qK, qD⟩, hrc, fun U hU hW => ⟨rfl, by rw [hU], by rw [hU]; exact hPc, va_K.moved hW.alike hKc, hDc.weaken (fun _ _ _ _ => trivial)⟩⟩ rfl hn hsize rfl (lv_room hW) hdg hf) hS (fun q _ h => hFc q h) hFc (fun u t H1 locs1 ht hvm hw hB hz1 hk1 hS1 => ?_)
  subst hw
  obtain ⟨hP1, hD1⟩ := hB
  rw [ht] at hP1
  obtain ⟨hP2, hD2⟩ := va_join (wr := wr) (w1 := Wd u) hP hD isC isR hC hR hn1 hdis hk1 hFc hP1 hD1
  exact kk H1 locs1 hP2 hD2 hS1
end
/-- a counter that has not reached its bound goes on -/
theorem xj_ctr {x b : Int32} {k B : Nat} (hx : x = nI k) (hb : b = nI B) (hB : B < 2 ^ 31) (hk : k ≤ B) (h : ¬ b ≤ x) : k + 1 ≤ B := by
  rcases Nat.lt_or_ge k B with q | q
  · exact q
  · exact absurd (by rw [hx, hb]; exact nI_le q (by omega)) h
end
section
/-! rounding: pure arithmetic. nq_stk N D: N / D cut to a whole number whose lowest bit is set if anything was cut off at or below it -/
def nq_stk (N D : Nat) : Nat := 2 * (N / (2 * D)) + (if N % (2 * D) = 0 then 0 else 1)
theorem nq_half (N D : Nat) : nq_stk N D / 2 = N / (2 * D) := by
  unfold nq_stk; split <;> omega
theorem nq_odd (N D : Nat) : nq_stk N D % 2 = 0 ↔ N % (2 * D) = 0 := by
  unfold nq_stk; split <;> omega
theorem nq_stk_eq (w D : Nat) : nq_stk w D = if w % D = 0 then w / D else w / D / 2 * 2 + 1 := by
  unfold nq_stk
  have h1 : w / (2 * D) = w / D / 2 := by rw [Nat.div_div_eq_div_mul, Nat.mul_comm]
  have h2 : w % (2 * D) = w % D + D * (w / D % 2) := by rw [Nat.mul_comm, Nat.mod_mul]
  rw [h1, h2]
  rcases Nat.mod_two_eq_zero_or_one (w / D) with h | h
  · rw [h, Nat.mul_zero, Nat.add_zero]
    split <;> omega
  · rw [h, Nat.mul_one]
    by_cases hD : D = 0
    · subst hD; simp at h
    · rw [if_neg (by omega)]
      split <;> omega
/-- rounding sees no more of N / D than nq_stk keeps -/
theorem nq_rnd {N D j s : Nat} (hD : 0 < D) (hs : j + 2 ≤ s) : (nq_stk N D * 2 ^ j + 2 ^ (s - 1)) / 2 ^ s = (N * 2 ^ j + D * 2 ^ (s - 1)) / (D * 2 ^ s) := by
  obtain ⟨k, rfl⟩ : ∃ k, s = j + 2 + k := ⟨s - (j + 2), by omega⟩
  have e1 : (2 : Nat) ^ (j + 2 + k - 1) = 2 ^ j * (2 * 2 ^ k) := by
    rw [show j + 2 + k - 1 = j + (1 + k) by omega, Nat.pow_add, Nat.pow_add]
  have e2 : (2 : Nat) ^ (j + 2 + k) = 2 ^ j * (2 * (2 * 2 ^ k)) := by
    rw [show j + 2 + k = j + (2 + k) by omega, Nat.pow_add, Nat.pow_add]; congr 1; omega
  have hj : 0 < 2 ^ j := Nat.two_pow_pos j
  have hk : 0 < 2 ^ k := Nat.two_pow_pos k
  rw [e1, e2]
  generalize 2 ^ j = J at *
  generalize 2 ^ k = c at *
  have l1 : nq_stk N D * J + J * (2 * c) = J * (nq_stk N D + 2 * c) := by rw [Nat.mul_add, Nat.mul_comm]
  have l2 : N * J + D * (J * (2 * c)) = J * (N + 2 * D * c) := by
    rw [Nat.mul_add, Nat.mul_comm N J]; congr 1; ac_rfl
  have l3 : D * (J * (2 * (2 * c))) = J * (2 * D * (2 * c)) := by ac_rfl
  rw [l1, l2, l3, Nat.mul_div_mul_left _ _ hj, Nat.mul_div_mul_left _ _ hj]
  have r1 : (nq_stk N D + 2 * c) / (2 * (2 * c)) = (nq_stk N D / 2 + c) / (2 * c) := by rw [← Nat.div_div_eq_div_mul, Nat.add_mul_div_left _ _ (by decide)]
  have r2 : (N + 2 * D * c) / (2 * D * (2 * c)) = (N / (2 * D) + c) / (2 * c) := by rw [← Nat.div_div_eq_div_mul, Nat.add_mul_div_left _ _ (by omega)]
  rw [r1, r2, nq_half]
theorem nq_exact {N D j s : Nat} (hD : 0 < D) (hs : j + 2 ≤ s) : nq_stk N D * 2 ^ j % 2 ^ s = 0 ↔ N * 2 ^ j % (D * 2 ^ s) = 0 := by
  obtain ⟨k, rfl⟩ : ∃ k, s = j + 2 + k := ⟨s - (j + 2), by omega⟩
  have e2 : (2 : Nat) ^ (j + 2 + k) = 2 ^ j * (2 * (2 * 2 ^ k)) := by
    rw [show j + 2 + k = j + (2 + k) by omega, Nat.pow_add, Nat.pow_add]; congr 1; omega
  have hj : 0 < 2 ^ j := Nat.two_pow_pos j
  have hk : 0 < 2 ^ k := Nat.two_pow_pos k
  rw [e2]
  generalize 2 ^ j = J at *
  generalize 2 ^ k = c at *
  have l3 : D * (J * (2 * (2 * c))) = J * (2 * D * (2 * c)) := by ac_rfl
  rw [l3, Nat.mul_comm _ J, Nat.mul_comm _ J, Nat.mul_mod_mul_left, Nat.mul_mod_mul_left]
  rw [Nat.mod_mul (a := 2), Nat.mod_mul (a := 2 * D), nq_half]
  have h := nq_odd N D
  constructor
  · intro h0
    have h1 : J * (nq_stk N D % 2 + 2 * (N / (2 * D) % (2 * c))) = 0 := h0
    rcases Nat.mul_eq_zero.mp h1 with h2 | h2
    · omega
    · have a1 : nq_stk N D % 2 = 0 := by omega
      have a2 : N / (2 * D) % (2 * c) = 0 := by omega
      rw [h.mp a1, a2]; simp
  · intro h0
    rcases Nat.mul_eq_zero.mp h0 with h2 | h2
    · omega
    · have a1 : N % (2 * D) = 0 := by omega
      have a2 : 2 * D * (N / (2 * D) % (2 * c)) = 0 := by omega
      rcases Nat.mul_eq_zero.mp a2 with h3 | h3
      · omega
      · rw [h.mpr a1, h3]; simp
/-- sums and differences keep it -/
theorem nq_add {F N D : Nat} (hF : F % 2 = 0) (hD : 0 < D) : F + nq_stk N D = nq_stk (F * D + N) D := by
  obtain ⟨g, rfl⟩ : ∃ g, F = 2 * g := ⟨F / 2, by omega⟩
  unfold nq_stk
  have e : 2 * g * D + N = N + 2 * D * g := by
    rw [Nat.add_comm]; congr 1; ac_rfl
  rw [e, Nat.add_mul_div_left _ _ (by omega), Nat.add_mul_mod_self_left]
  omega
theorem nq_sub {F N D : Nat} (hF : F % 2 = 0) (hD : 0 < D) (h : N ≤ F * D) : F - nq_stk N D = nq_stk (F * D - N) D ∧ nq_stk N D ≤ F := by
  obtain ⟨g, rfl⟩ : ∃ g, F = 2 * g := ⟨F / 2, by omega⟩
  have e : 2 * g * D = 2 * D * g := by ac_rfl
  rw [e] at h ⊢
  have hdm := Nat.div_add_mod N (2 * D)
  have hml := Nat.mod_lt N (show 0 < 2 * D by omega)
  unfold nq_stk
  generalize hq : N / (2 * D) = q at *
  generalize hr : N % (2 * D) = r at *
  by_cases hz : r = 0
  · subst hz
    have hq1 : q ≤ g := by
      rcases Nat.lt_or_ge g q with c | c
      · have := Nat.mul_le_mul_left (2 * D) (show g + 1 ≤ q by omega)
        rw [Nat.mul_add] at this; omega
      · exact c
    have e2 : 2 * D * g - N = 2 * D * (g - q) := by rw [Nat.mul_sub]; omega
    rw [e2, Nat.mul_div_cancel_left _ (by omega), Nat.mul_mod_right]
    simp
    omega
  · have hq1 : q + 1 ≤ g := by
      rcases Nat.lt_or_ge q g with c | c
      · omega
      · have := Nat.mul_le_mul_left (2 * D) c
        omega
    have e2 : 2 * D * g - N = (2 * D - r) + 2 * D * (g - (q + 1)) := by
      rw [Nat.mul_sub, Nat.mul_add]
      have := Nat.mul_le_mul_left (2 * D) hq1
      rw [Nat.mul_add] at this
      omega
    rw [e2, Nat.add_mul_div_left _ _ (by omega), Nat.add_mul_mod_self_left, Nat.div_eq_of_lt (by omega), Nat.mod_eq_of_lt (by omega), if_neg hz, if_neg (by omega)]
    omega
end
section
/-! numbers: Int64 as lN n, Int32 as nI n; shifts, masks, 'or' as arithmetic -/
theorem nb_tb (n : Nat) : (lN n).toBitVec = BitVec.ofNat 64 n := rfl
theorem nb_inj {a b : Int64} (h : a.toBitVec = b.toBitVec) : a = b := Int64.toBitVec_inj.mp h
theorem nb_tn {n : Nat} (h : n < 2 ^ 64) : (lN n).toBitVec.toNat = n := by rw [nb_tb, BitVec.toNat_ofNat, Nat.mod_eq_of_lt h]
theorem nb_of (x : Int64) : ∃ n, n < 2 ^ 64 ∧ x = lN n := ⟨x.toBitVec.toNat, x.toBitVec.isLt, nb_inj (by rw [nb_tb]; simp)⟩
theorem nb_of32 (x : Int32) : ∃ n, n < 2 ^ 32 ∧ x = nI n := ⟨x.toBitVec.toNat, x.toBitVec.isLt, Int32.toBitVec_inj.mp (by show _ = BitVec.ofNat 32 _; simp)⟩
theorem nb_eq {a b : Nat} (ha : a < 2 ^ 64) (hb : b < 2 ^ 64) : lN a = lN b ↔ a = b := by
  constructor
  · intro h
    have := congrArg (fun z => z.toBitVec.toNat) h
    simp only [nb_tn ha, nb_tn hb] at this
    exact this
  · rintro rfl; rfl
theorem nb_c : ∀ k, k < 64 → ((nI k).toInt64 &&& 63) = lN k := by decide +kernel
theorem nb_cu : ∀ k, k < 64 → ((nI k).toInt64.toUInt64 &&& Int64.toUInt64 63) = UInt64.ofNat k := by decide +kernel
theorem nb_sm : ∀ k, k < 64 → (BitVec.ofNat 64 k).smod 64 = BitVec.ofNat 64 k := by decide +kernel
theorem nb_mod (n : Nat) : lN n = lN (n % 2 ^ 64) := nb_inj (by rw [nb_tb, nb_tb]; apply BitVec.eq_of_toNat_eq; rw [BitVec.toNat_ofNat, BitVec.toNat_ofNat, Nat.mod_mod])
theorem nb_ush {n k : Nat} (hn : n < 2 ^ 64) (hk : k < 64) : xj_ush (lN n) (nI k) = lN (n / 2 ^ k) := by
  unfold xj_ush
  rw [nb_cu k hk]
  apply nb_inj
  apply BitVec.eq_of_toNat_eq
  show ((lN n).toUInt64 >>> UInt64.ofNat k).toNat = (BitVec.ofNat 64 _).toNat
  have h1 : (UInt64.ofNat k).toNat = k := by
    show (BitVec.ofNat 64 k).toNat = k
    rw [BitVec.toNat_ofNat, Nat.mod_eq_of_lt (by omega)]
  have h2 : (lN n).toUInt64.toNat = n := nb_tn hn
  rw [UInt64.toNat_shiftRight, h1, h2, Nat.mod_eq_of_lt hk, Nat.shiftRight_eq_div_pow, BitVec.toNat_ofNat, Nat.mod_eq_of_lt (Nat.lt_of_le_of_lt (Nat.div_le_self _ _) hn)]
theorem nb_shl (n : Nat) {k : Nat} (hk : k < 64) : xj_shl (lN n) (nI k) = lN (n * 2 ^ k) := by
  unfold xj_shl
  rw [nb_c k hk]
  apply nb_inj
  rw [Int64.toBitVec_shiftLeft, nb_tb, nb_tb, nb_tb, nb_sm k hk]
  apply BitVec.eq_of_toNat_eq
  rw [BitVec.shiftLeft_eq', BitVec.toNat_shiftLeft, BitVec.toNat_ofNat, BitVec.toNat_ofNat, BitVec.toNat_ofNat, Nat.mod_eq_of_lt (show k < 2 ^ 64 by omega), Nat.shiftLeft_eq, Nat.mul_mod, Nat.mod_mod, ← Nat.mul_mod]
theorem nb_and {a b : Nat} (ha : a < 2 ^ 64) (hb : b < 2 ^ 64) : lN a &&& lN b = lN (a &&& b) := by
  apply nb_inj
  rw [Int64.toBitVec_and, nb_tb, nb_tb, nb_tb]
  apply BitVec.eq_of_toNat_eq
  rw [BitVec.toNat_and, BitVec.toNat_ofNat, BitVec.toNat_ofNat, BitVec.toNat_ofNat, Nat.mod_eq_of_lt ha, Nat.mod_eq_of_lt hb, Nat.mod_eq_of_lt (Nat.and_lt_two_pow _ hb)]
theorem nb_or {a b : Nat} (ha : a < 2 ^ 64) (hb : b < 2 ^ 64) : lN a ||| lN b = lN (a ||| b) := by
  apply nb_inj
  rw [Int64.toBitVec_or, nb_tb, nb_tb, nb_tb]
  apply BitVec.eq_of_toNat_eq
  rw [BitVec.toNat_or, BitVec.toNat_ofNat, BitVec.toNat_ofNat, BitVec.toNat_ofNat, Nat.mod_eq_of_lt ha, Nat.mod_eq_of_lt hb, Nat.mod_eq_of_lt (Nat.or_lt_two_pow ha hb)]
theorem nb_lt2 {a b : Nat} (h : a < b) : 2 ^ a < 2 ^ b := Nat.pow_lt_pow_right (by decide) h
theorem nb_mask {n k : Nat} (hn : n < 2 ^ 64) (hk : k < 64) : lN n &&& lN (2 ^ k - 1) = lN (n % 2 ^ k) := by
  rw [nb_and hn (by have := nb_lt2 hk; omega), Nat.and_two_pow_sub_one_eq_mod]
theorem nb_oadd {b a k : Nat} (ha : a < 2 ^ k) (h : b * 2 ^ k + a < 2 ^ 64) : lN (b * 2 ^ k) ||| lN a = lN (b * 2 ^ k + a) := by
  rw [nb_or (by omega) (by omega)]
  rw [← Nat.shiftLeft_eq, Nat.shiftLeft_add_eq_or_of_lt ha]
theorem nb_odd {a : Nat} (h : a < 2 ^ 64) : lN a ||| 1 = lN (a / 2 * 2 + 1) := by
  have e : lN a ||| lN 1 = lN (a ||| 1) := nb_or h (by decide)
  have e2 : a ||| 1 = a / 2 * 2 + 1 := by
    have h1 : ∀ r, r < 2 → a / 2 * 2 + r = (a / 2 * 2) ||| r := fun r hr => by
      have := Nat.shiftLeft_add_eq_or_of_lt (i := 1) (show r < 2 ^ 1 from hr) (a / 2)
      rw [Nat.shiftLeft_eq, Nat.pow_one] at this
      exact this
    have h2 : a = (a / 2 * 2) ||| (a % 2) := by rw [← h1 _ (Nat.mod_lt _ (by decide))]; omega
    have h3 : (a % 2) ||| 1 = 1 := by rcases Nat.mod_two_eq_zero_or_one a with c | c <;> rw [c] <;> rfl
    calc a ||| 1 = ((a / 2 * 2) ||| (a % 2)) ||| 1 := by rw [← h2]
      _ = (a / 2 * 2) ||| ((a % 2) ||| 1) := Nat.or_assoc ..
      _ = (a / 2 * 2) ||| 1 := by rw [h3]
      _ = a / 2 * 2 + 1 := (h1 1 (by decide)).symm
  rw [← e2]; exact e
theorem nb_add (a b : Nat) : lN a + lN b = lN (a + b) := lN_add a b
theorem nb_lt {a b : Nat} (ha : a < 2 ^ 63) (hb : b < 2 ^ 63) : lN a < lN b ↔ a < b := pk_lLT ha hb
theorem nb_le {a b : Nat} (ha : a < 2 ^ 63) (hb : b < 2 ^ 63) : lN a ≤ lN b ↔ a ≤ b := pk_lLE ha hb
end
section
-- ===== PART A: goes FIRST, ahead of the names: the tables' words, and 'selects' of the private methods out of them =====
/-- a private method of a class that the tables say can be made, by its rows of tables_1 -/
def lw_okq (q : MethodName × Nat) : Prop := (q.1.cls ≠ "java/lang/invoke/MethodHandle" ∧ q.1.cls ≠ "java/lang/invoke/VarHandle") ∧ Cond.instantiable q.1.cls q.2 ∈ tables_1 ∧ Cond.privateMethod q.1 ∈ tables_1 ∧ Cond.instanceMethod q.1 ∈ tables_1
theorem lw_p0 : lw_okq (⟨"ExactFloats", "refusalOf", "(IIII)I"⟩, 3) := ⟨⟨by decide +kernel, by decide +kernel⟩, List.mem_of_getElem? (i := 6) (by decide +kernel), List.mem_of_getElem? (i := 44) (by decide +kernel), List.mem_of_getElem? (i := 45) (by decide +kernel)⟩
theorem lw_p1 : lw_okq (⟨"ExactFloats", "isReserved", "(I)Z"⟩, 3) := ⟨⟨by decide +kernel, by decide +kernel⟩, List.mem_of_getElem? (i := 6) (by decide +kernel), List.mem_of_getElem? (i := 51) (by decide +kernel), List.mem_of_getElem? (i := 52) (by decide +kernel)⟩
theorem lw_p2 : lw_okq (⟨"ExactFloats", "valueIn", "(II)J"⟩, 3) := ⟨⟨by decide +kernel, by decide +kernel⟩, List.mem_of_getElem? (i := 6) (by decide +kernel), List.mem_of_getElem? (i := 57) (by decide +kernel), List.mem_of_getElem? (i := 58) (by decide +kernel)⟩
theorem lw_p3 : lw_okq (⟨"ExactFloats", "storeSum", "(IIJJ)I"⟩, 3) := ⟨⟨by decide +kernel, by decide +kernel⟩, List.mem_of_getElem? (i := 6) (by decide +kernel), List.mem_of_getElem? (i := 65) (by decide +kernel), List.mem_of_getElem? (i := 66) (by decide +kernel)⟩
theorem lw_p4 : lw_okq (⟨"ExactFloats", "storeValue", "(IIJ)I"⟩, 3) := ⟨⟨by decide +kernel, by decide +kernel⟩, List.mem_of_getElem? (i := 6) (by decide +kernel), List.mem_of_getElem? (i := 69) (by decide +kernel), List.mem_of_getElem? (i := 70) (by decide +kernel)⟩
theorem lw_p5 : lw_okq (⟨"ExactFloats", "storeZero", "(IZ)I"⟩, 3) := ⟨⟨by decide +kernel, by decide +kernel⟩, List.mem_of_getElem? (i := 6) (by decide +kernel), List.mem_of_getElem? (i := 73) (by decide +kernel), List.mem_of_getElem? (i := 74) (by decide +kernel)⟩
theorem lw_p6 : lw_okq (⟨"ExactFloats", "storeRounded", "(IIZIJ)I"⟩, 3) := ⟨⟨by decide +kernel, by decide +kernel⟩, List.mem_of_getElem? (i := 6) (by decide +kernel), List.mem_of_getElem? (i := 88) (by decide +kernel), List.mem_of_getElem? (i := 89) (by decide +kernel)⟩
theorem lw_p7 : lw_okq (⟨"ExactFloats", "storeProduct", "(IIJJ)I"⟩, 3) := ⟨⟨by decide +kernel, by decide +kernel⟩, List.mem_of_getElem? (i := 6) (by decide +kernel), List.mem_of_getElem? (i := 108) (by decide +kernel), List.mem_of_getElem? (i := 109) (by decide +kernel)⟩
theorem lw_p8 : lw_okq (⟨"ExactFloats", "storeQuotient", "(IIJJ)I"⟩, 3) := ⟨⟨by decide +kernel, by decide +kernel⟩, List.mem_of_getElem? (i := 6) (by decide +kernel), List.mem_of_getElem? (i := 121) (by decide +kernel), List.mem_of_getElem? (i := 122) (by decide +kernel)⟩
theorem lw_p9 : lw_okq (⟨"ExactFloatsModel", "two", "(IIII)I"⟩, 8) := ⟨⟨by decide +kernel, by decide +kernel⟩, List.mem_of_getElem? (i := 164) (by decide +kernel), List.mem_of_getElem? (i := 211) (by decide +kernel), List.mem_of_getElem? (i := 212) (by decide +kernel)⟩
theorem lw_p10 : lw_okq (⟨"ExactFloatsModel", "in", "(II)J"⟩, 8) := ⟨⟨by decide +kernel, by decide +kernel⟩, List.mem_of_getElem? (i := 164) (by decide +kernel), List.mem_of_getElem? (i := 221) (by decide +kernel), List.mem_of_getElem? (i := 222) (by decide +kernel)⟩
theorem lw_p11 : lw_okq (⟨"ExactFloatsModel", "added", "(IJJ)J"⟩, 8) := ⟨⟨by decide +kernel, by decide +kernel⟩, List.mem_of_getElem? (i := 164) (by decide +kernel), List.mem_of_getElem? (i := 231) (by decide +kernel), List.mem_of_getElem? (i := 232) (by decide +kernel)⟩
theorem lw_p12 : lw_okq (⟨"ExactFloatsModel", "take", "(IJ)V"⟩, 8) := ⟨⟨by decide +kernel, by decide +kernel⟩, List.mem_of_getElem? (i := 164) (by decide +kernel), List.mem_of_getElem? (i := 242) (by decide +kernel), List.mem_of_getElem? (i := 243) (by decide +kernel)⟩
theorem lw_p13 : lw_okq (⟨"ExactFloatsModel", "rounds", "(IZJIZ)J"⟩, 8) := ⟨⟨by decide +kernel, by decide +kernel⟩, List.mem_of_getElem? (i := 164) (by decide +kernel), List.mem_of_getElem? (i := 253) (by decide +kernel), List.mem_of_getElem? (i := 254) (by decide +kernel)⟩
theorem lw_p14 : lw_okq (⟨"ExactFloatsModel", "gives", "(JI)I"⟩, 8) := ⟨⟨by decide +kernel, by decide +kernel⟩, List.mem_of_getElem? (i := 164) (by decide +kernel), List.mem_of_getElem? (i := 258) (by decide +kernel), List.mem_of_getElem? (i := 259) (by decide +kernel)⟩
theorem lw_p15 : lw_okq (⟨"ExactFloatsModel", "one", "(III)I"⟩, 8) := ⟨⟨by decide +kernel, by decide +kernel⟩, List.mem_of_getElem? (i := 164) (by decide +kernel), List.mem_of_getElem? (i := 286) (by decide +kernel), List.mem_of_getElem? (i := 287) (by decide +kernel)⟩
def lw_privs_1 : List (MethodName × Nat) := [(⟨"ExactFloats", "refusalOf", "(IIII)I"⟩, 3), (⟨"ExactFloats", "isReserved", "(I)Z"⟩, 3), (⟨"ExactFloats", "valueIn", "(II)J"⟩, 3), (⟨"ExactFloats", "storeSum", "(IIJJ)I"⟩, 3), (⟨"ExactFloats", "storeValue", "(IIJ)I"⟩, 3), (⟨"ExactFloats", "storeZero", "(IZ)I"⟩, 3), (⟨"ExactFloats", "storeRounded", "(IIZIJ)I"⟩, 3), (⟨"ExactFloats", "storeProduct", "(IIJJ)I"⟩, 3), (⟨"ExactFloats", "storeQuotient", "(IIJJ)I"⟩, 3), (⟨"ExactFloatsModel", "two", "(IIII)I"⟩, 8), (⟨"ExactFloatsModel", "in", "(II)J"⟩, 8), (⟨"ExactFloatsModel", "added", "(IJJ)J"⟩, 8), (⟨"ExactFloatsModel", "take", "(IJ)V"⟩, 8), (⟨"ExactFloatsModel", "rounds", "(IZJIZ)J"⟩, 8), (⟨"ExactFloatsModel", "gives", "(JI)I"⟩, 8), (⟨"ExactFloatsModel", "one", "(III)I"⟩, 8)]
theorem lw_r1 : ∀ q ∈ lw_privs_1, lw_okq q := List.forall_mem_cons.mpr ⟨lw_p0, List.forall_mem_cons.mpr ⟨lw_p1, List.forall_mem_cons.mpr ⟨lw_p2, List.forall_mem_cons.mpr ⟨lw_p3, List.forall_mem_cons.mpr ⟨lw_p4, List.forall_mem_cons.mpr ⟨lw_p5, List.forall_mem_cons.mpr ⟨lw_p6, List.forall_mem_cons.mpr ⟨lw_p7, List.forall_mem_cons.mpr ⟨lw_p8, List.forall_mem_cons.mpr ⟨lw_p9, List.forall_mem_cons.mpr ⟨lw_p10, List.forall_mem_cons.mpr ⟨lw_p11, List.forall_mem_cons.mpr ⟨lw_p12, List.forall_mem_cons.mpr ⟨lw_p13, List.forall_mem_cons.mpr ⟨lw_p14, List.forall_mem_cons.mpr ⟨lw_p15, fun _ h => absurd h List.not_mem_nil⟩⟩⟩⟩⟩⟩⟩⟩⟩⟩⟩⟩⟩⟩⟩⟩
def lw_privs : List (MethodName × Nat) := lw_privs_1
def lw_tbl : List Cond := k2_sels lw_privs ++ tables_1
theorem lw_privs_ok : ∀ q ∈ lw_privs, lw_okq q := lw_r1

/-! ===== BEGIN words of one list among another's, by their places ===== -/
theorem goodIn_r {big : List Cond} (ws : List Cond) (ps : List Nat) (hp : ws = ps.filterMap (fun i => big[i]?)) (h : ws.all goodWord = true) : GoodIn big ws := by
  intro w hw
  have h1 := List.all_eq_true.mp h w hw
  rw [hp] at hw
  obtain ⟨i, -, hi⟩ := List.mem_filterMap.mp hw
  have hm : w ∈ big := by first | exact List.mem_of_getElem? hi | exact List.getElem?_mem hi
  exact ⟨hm, good_of_word h1⟩
theorem goodIn_app {big a b : List Cond} (ha : GoodIn big a) (hb : GoodIn big b) : GoodIn big (a ++ b) := fun w h => (List.mem_append.mp h).elim (ha w) (hb w)
theorem goodIn_ca {big a b : List Cond} {c : Cond} (ha : GoodIn big (c :: a)) (hb : GoodIn big b) : GoodIn big (c :: (a ++ b)) := fun w h => (List.mem_cons.mp h).elim (fun e => ha w (List.mem_cons.mpr (Or.inl e))) (fun h => (List.mem_append.mp h).elim (fun h => ha w (List.mem_cons.mpr (Or.inr h))) (hb w))
theorem goodIn_sub {big ws : List Cond} (hm : ∀ w ∈ ws, w ∈ big) (h : ws.all goodWord = true) : GoodIn big ws := fun w hw => ⟨hm w hw, good_of_word (List.all_eq_true.mp h w hw)⟩
/-! ===== END ===== -/

/-! ===== BEGIN printed: names, fields, word lists, decode rows ===== -/
def RX0 : String := "ExactFloats"
def TX0 : u_T := fun k => match k with
  | 0 => ("ExactFloats", "registers", "[J", true)
  | 1 => ("ExactFloats", "underflowAsked", "Z", false)
  | _ => ("ExactFloats", "lastWasInexact", "Z", false)
def tyX0 : Nat → FieldType := fun k => match k with
  | 0 => .array .long
  | 1 => .boolean
  | _ => .boolean
abbrev wsX00 : List Cond := u_ws RX0 TX0 3
theorem nmX0 : ∀ a, a < 3 → ∀ b, b < 3 → a ≠ b → (TX0 a).2.1 ≠ (TX0 b).2.1 := by decide +kernel
theorem tyX0_ok : ∀ k, k < 3 → parseFieldDescriptor (TX0 k).2.2.1 = some (tyX0 k) := by decide +kernel
abbrev cX0_init : ByteArray := prog_1_method_1_code
def yX0_init : MethodName := ⟨RX0, "<init>", "()V"⟩
abbrev cX0_set : ByteArray := prog_1_method_2_code
def yX0_set : MethodName := ⟨RX0, "set", "(IJ)Z"⟩
abbrev cX0_get : ByteArray := prog_1_method_3_code
def yX0_get : MethodName := ⟨RX0, "get", "(I)J"⟩
abbrev cX0_under : ByteArray := prog_1_method_4_code
def yX0_under : MethodName := ⟨RX0, "under", "(Z)V"⟩
abbrev cX0_sum : ByteArray := prog_1_method_5_code
def yX0_sum : MethodName := ⟨RX0, "sum", "(IIII)I"⟩
abbrev cX0_less : ByteArray := prog_1_method_6_code
def yX0_less : MethodName := ⟨RX0, "less", "(IIII)I"⟩
abbrev cX0_product : ByteArray := prog_1_method_7_code
def yX0_product : MethodName := ⟨RX0, "product", "(IIII)I"⟩
abbrev cX0_quotient : ByteArray := prog_1_method_8_code
def yX0_quotient : MethodName := ⟨RX0, "quotient", "(IIII)I"⟩
abbrev cX0_negative : ByteArray := prog_1_method_9_code
def yX0_negative : MethodName := ⟨RX0, "negative", "(III)I"⟩
abbrev cX0_compare : ByteArray := prog_1_method_10_code
def yX0_compare : MethodName := ⟨RX0, "compare", "(III)I"⟩
abbrev cX0_change : ByteArray := prog_1_method_11_code
def yX0_change : MethodName := ⟨RX0, "change", "(III)I"⟩
abbrev cX0_whole : ByteArray := prog_1_method_12_code
def yX0_whole : MethodName := ⟨RX0, "whole", "(IIIZI)I"⟩
abbrev cX0_number : ByteArray := prog_1_method_13_code
def yX0_number : MethodName := ⟨RX0, "number", "(III)I"⟩
abbrev cX0_lost : ByteArray := prog_1_method_14_code
def yX0_lost : MethodName := ⟨RX0, "lost", "()Z"⟩
abbrev cX0_isRegister : ByteArray := prog_1_method_15_code
def yX0_isRegister : MethodName := ⟨RX0, "isRegister", "(I)Z"⟩
abbrev cX0_isSize : ByteArray := prog_1_method_16_code
def yX0_isSize : MethodName := ⟨RX0, "isSize", "(I)Z"⟩
abbrev cX0_isReserved : ByteArray := prog_1_method_17_code
def yX0_isReserved : MethodName := ⟨RX0, "isReserved", "(I)Z"⟩
abbrev cX0_refusalOf : ByteArray := prog_1_method_18_code
def yX0_refusalOf : MethodName := ⟨RX0, "refusalOf", "(IIII)I"⟩
abbrev cX0_flagsOf : ByteArray := prog_1_method_19_code
def yX0_flagsOf : MethodName := ⟨RX0, "flagsOf", "(J)I"⟩
abbrev cX0_valueIn : ByteArray := prog_1_method_20_code
def yX0_valueIn : MethodName := ⟨RX0, "valueIn", "(II)J"⟩
abbrev cX0_bitsOf : ByteArray := prog_1_method_21_code
def yX0_bitsOf : MethodName := ⟨RX0, "bitsOf", "(ZIJ)J"⟩
abbrev cX0_exponentOf : ByteArray := prog_1_method_22_code
def yX0_exponentOf : MethodName := ⟨RX0, "exponentOf", "(J)I"⟩
abbrev cX0_significandOf : ByteArray := prog_1_method_23_code
def yX0_significandOf : MethodName := ⟨RX0, "significandOf", "(J)J"⟩
abbrev cX0_storeZero : ByteArray := prog_1_method_24_code
def yX0_storeZero : MethodName := ⟨RX0, "storeZero", "(IZ)I"⟩
abbrev cX0_storeValue : ByteArray := prog_1_method_25_code
def yX0_storeValue : MethodName := ⟨RX0, "storeValue", "(IIJ)I"⟩
abbrev cX0_storeRounded : ByteArray := prog_1_method_26_code
def yX0_storeRounded : MethodName := ⟨RX0, "storeRounded", "(IIZIJ)I"⟩
abbrev cX0_storeSum : ByteArray := prog_1_method_27_code
def yX0_storeSum : MethodName := ⟨RX0, "storeSum", "(IIJJ)I"⟩
abbrev cX0_shiftedDown : ByteArray := prog_1_method_28_code
def yX0_shiftedDown : MethodName := ⟨RX0, "shiftedDown", "(JI)J"⟩
abbrev cX0_storeProduct : ByteArray := prog_1_method_29_code
def yX0_storeProduct : MethodName := ⟨RX0, "storeProduct", "(IIJJ)I"⟩
abbrev cX0_wideProduct : ByteArray := prog_1_method_30_code
def yX0_wideProduct : MethodName := ⟨RX0, "wideProduct", "(JJ)J"⟩
abbrev cX0_storeQuotient : ByteArray := prog_1_method_31_code
def yX0_storeQuotient : MethodName := ⟨RX0, "storeQuotient", "(IIJJ)I"⟩
abbrev cX0_wideQuotient : ByteArray := prog_1_method_32_code
def yX0_wideQuotient : MethodName := ⟨RX0, "wideQuotient", "(JJ)J"⟩
abbrev cX0_wholeOf : ByteArray := prog_1_method_33_code
def yX0_wholeOf : MethodName := ⟨RX0, "wholeOf", "(JZ)J"⟩
abbrev cX0_wholeSize : ByteArray := prog_1_method_34_code
def yX0_wholeSize : MethodName := ⟨RX0, "wholeSize", "(JIZ)J"⟩
def RX1 : String := "ExactFloatsModel"
def TX1 : u_T := fun k => match k with
  | 0 => ("ExactFloatsModel", "register", "[J", true)
  | 1 => ("ExactFloatsModel", "asked", "Z", false)
  | 2 => ("ExactFloatsModel", "isLost", "Z", false)
  | 3 => ("ExactFloatsModel", "minus", "Z", false)
  | 4 => ("ExactFloatsModel", "exponent", "I", false)
  | 5 => ("ExactFloatsModel", "bits", "J", false)
  | 6 => ("ExactFloatsModel", "fault", "I", false)
  | _ => ("ExactFloatsModel", "cut", "Z", false)
def tyX1 : Nat → FieldType := fun k => match k with
  | 0 => .array .long
  | 1 => .boolean
  | 2 => .boolean
  | 3 => .boolean
  | 4 => .int
  | 5 => .long
  | 6 => .int
  | _ => .boolean
abbrev wsX10 : List Cond := u_ws RX1 TX1 8
theorem nmX1 : ∀ a, a < 8 → ∀ b, b < 8 → a ≠ b → (TX1 a).2.1 ≠ (TX1 b).2.1 := by decide +kernel
theorem tyX1_ok : ∀ k, k < 8 → parseFieldDescriptor (TX1 k).2.2.1 = some (tyX1 k) := by decide +kernel
abbrev cX1_init : ByteArray := prog_3_method_1_code
def yX1_init : MethodName := ⟨RX1, "<init>", "()V"⟩
abbrev cX1_set : ByteArray := prog_3_method_2_code
def yX1_set : MethodName := ⟨RX1, "set", "(IJ)Z"⟩
abbrev cX1_get : ByteArray := prog_3_method_3_code
def yX1_get : MethodName := ⟨RX1, "get", "(I)J"⟩
abbrev cX1_under : ByteArray := prog_3_method_4_code
def yX1_under : MethodName := ⟨RX1, "under", "(Z)V"⟩
abbrev cX1_isSize : ByteArray := prog_3_method_5_code
def yX1_isSize : MethodName := ⟨RX1, "isSize", "(I)Z"⟩
abbrev cX1_isRegister : ByteArray := prog_3_method_6_code
def yX1_isRegister : MethodName := ⟨RX1, "isRegister", "(I)Z"⟩
abbrev cX1_in : ByteArray := prog_3_method_8_code
def yX1_in : MethodName := ⟨RX1, "in", "(II)J"⟩
abbrev cX1_isReserved : ByteArray := prog_3_method_9_code
def yX1_isReserved : MethodName := ⟨RX1, "isReserved", "(J)Z"⟩
abbrev cX1_isZero : ByteArray := prog_3_method_10_code
def yX1_isZero : MethodName := ⟨RX1, "isZero", "(J)Z"⟩
abbrev cX1_added : ByteArray := prog_3_method_17_code
def yX1_added : MethodName := ⟨RX1, "added", "(IJJ)J"⟩
abbrev cX1_two : ByteArray := prog_3_method_18_code
def yX1_two : MethodName := ⟨RX1, "two", "(IIII)I"⟩
abbrev cX1_sum : ByteArray := prog_3_method_19_code
def yX1_sum : MethodName := ⟨RX1, "sum", "(IIII)I"⟩
def RJ13 : String := "java/lang/Long"
def TJ13 : u_T := fun k => match k with
  | _ => ("", "", "", false)
def tyJ13 : Nat → FieldType := fun k => match k with
  | _ => .int
abbrev wsJ130 : List Cond := u_ws RJ13 TJ13 0
theorem nmJ13 : ∀ a, a < 0 → ∀ b, b < 0 → a ≠ b → (TJ13 a).2.1 ≠ (TJ13 b).2.1 := by decide +kernel
theorem tyJ13_ok : ∀ k, k < 0 → parseFieldDescriptor (TJ13 k).2.2.1 = some (tyJ13 k) := by decide +kernel
abbrev cJ13_compare_74951 : ByteArray := prog_4_method_42_code
def yJ13_compare_74951 : MethodName := ⟨RJ13, "compare", "(JJ)I"⟩
def RJ9 : String := "java/lang/Math"
def TJ9 : u_T := fun k => match k with
  | _ => ("", "", "", false)
def tyJ9 : Nat → FieldType := fun k => match k with
  | _ => .int
abbrev wsJ90 : List Cond := u_ws RJ9 TJ9 0
theorem nmJ9 : ∀ a, a < 0 → ∀ b, b < 0 → a ≠ b → (TJ9 a).2.1 ≠ (TJ9 b).2.1 := by decide +kernel
theorem tyJ9_ok : ∀ k, k < 0 → parseFieldDescriptor (TJ9 k).2.2.1 = some (tyJ9 k) := by decide +kernel
abbrev cJ9_abs_067f4 : ByteArray := prog_5_method_61_code
def yJ9_abs_067f4 : MethodName := ⟨RJ9, "abs", "(J)J"⟩
def RL : String := "ExactFloatsLaw"
abbrev cL_law : ByteArray := code
def yL_law : MethodName := ⟨RL, "law", "([I)Z"⟩
def wsX0_init : List Cond := .code yX0_init cX0_init 1 none :: ([.methodLink RX0 3 objectInit, .instanceMethod objectInit, .code objectInit ⟨#[0xb1]⟩ 1 none, .arrayClass .long, .fieldLink RX0 9 "ExactFloats" "registers" "[J", .fieldLink RX0 13 "ExactFloats" "underflowAsked" "Z", .fieldLink RX0 17 "ExactFloats" "lastWasInexact" "Z"] ++ wsX00)
def wsX0_isRegister : List Cond := .code yX0_isRegister cX0_isRegister 1 (some .boolean) :: ([])
def wsX0_set : List Cond := .code yX0_set cX0_set 4 (some .boolean) :: ([.fieldLink RX0 9 "ExactFloats" "registers" "[J", .methodLink RX0 20 yX0_isRegister, .static yX0_isRegister, .initialized RX0, .code yX0_isRegister cX0_isRegister 1 (some .boolean)] ++ wsX00)
def wsX0_get : List Cond := .code yX0_get cX0_get 2 (some .long) :: ([.fieldLink RX0 9 "ExactFloats" "registers" "[J", .methodLink RX0 20 yX0_isRegister, .static yX0_isRegister, .initialized RX0, .code yX0_isRegister cX0_isRegister 1 (some .boolean)] ++ wsX00)
def wsX0_under : List Cond := .code yX0_under cX0_under 2 none :: ([.fieldLink RX0 13 "ExactFloats" "underflowAsked" "Z"] ++ wsX00)
def wsX0_isSize : List Cond := .code yX0_isSize cX0_isSize 1 (some .boolean) :: ([])
def wsX0_isReserved : List Cond := .code yX0_isReserved cX0_isReserved 2 (some .boolean) :: ([.fieldLink RX0 9 "ExactFloats" "registers" "[J", .constantLong RX0 73 (65408), .constantLong RX0 75 (32768)] ++ wsX00)
def wsX0_refusalOf : List Cond := .code yX0_refusalOf cX0_refusalOf 5 (some .int) :: ([.methodLink RX0 60 yX0_isSize, .static yX0_isSize, .initialized RX0, .code yX0_isSize cX0_isSize 1 (some .boolean), .methodLink RX0 20 yX0_isRegister, .static yX0_isRegister, .code yX0_isRegister cX0_isRegister 1 (some .boolean), .methodLink RX0 77 yX0_isReserved, .instanceMethod yX0_isReserved, .selects RX0 yX0_isReserved yX0_isReserved, .code yX0_isReserved cX0_isReserved 2 (some .boolean), .fieldLink RX0 9 "ExactFloats" "registers" "[J", .constantLong RX0 73 (65408), .constantLong RX0 75 (32768)] ++ wsX00)
def wsX0_valueIn : List Cond := .code yX0_valueIn cX0_valueIn 11 (some .long) :: ([.fieldLink RX0 9 "ExactFloats" "registers" "[J", .constantLong RX0 80 (4294967295), .constantLong RX0 82 (255), .constantLong RX0 84 (127), .constantLong RX0 86 (65535), .constantLong RX0 75 (32768)] ++ wsX00)
def wsX0_storeZero : List Cond := .code yX0_storeZero cX0_storeZero 3 (some .int) :: ([.fieldLink RX0 9 "ExactFloats" "registers" "[J", .fieldLink RX0 17 "ExactFloats" "lastWasInexact" "Z"] ++ wsX00)
def wsX0_exponentOf : List Cond := .code yX0_exponentOf cX0_exponentOf 2 (some .int) :: ([.methodLink RX0 63 Lib.MathLoose.abs_long.x, .static Lib.MathLoose.abs_long.x, .initialized "java/lang/Math", .code Lib.MathLoose.abs_long.x Lib.MathLoose.abs_long.code 2 (some .long)])
def wsX0_significandOf : List Cond := .code yX0_significandOf cX0_significandOf 2 (some .long) :: ([.methodLink RX0 63 Lib.MathLoose.abs_long.x, .static Lib.MathLoose.abs_long.x, .initialized "java/lang/Math", .code Lib.MathLoose.abs_long.x Lib.MathLoose.abs_long.code 2 (some .long), .constantLong RX0 89 (36028797018963967), .constantLong RX0 91 (36028797018963968)])
def wsX0_bitsOf : List Cond := .code yX0_bitsOf cX0_bitsOf 4 (some .long) :: ([.constant RX0 88 (32768), .constantLong RX0 86 (65535)])
def wsX0_storeRounded : List Cond := .code yX0_storeRounded cX0_storeRounded 12 (some .int) :: ([.constantLong RX0 103 (4611686018427387904), .fieldLink RX0 13 "ExactFloats" "underflowAsked" "Z", .fieldLink RX0 9 "ExactFloats" "registers" "[J", .constantLong RX0 89 (36028797018963967), .fieldLink RX0 17 "ExactFloats" "lastWasInexact" "Z", .methodLink RX0 93 yX0_storeZero, .instanceMethod yX0_storeZero, .selects RX0 yX0_storeZero yX0_storeZero, .initialized RX0, .code yX0_storeZero cX0_storeZero 3 (some .int), .methodLink RX0 105 yX0_bitsOf, .static yX0_bitsOf, .code yX0_bitsOf cX0_bitsOf 4 (some .long), .constant RX0 88 (32768), .constantLong RX0 86 (65535)] ++ wsX00)
def wsX0_storeValue_r1 : List Cond := [Cond.methodLink RX0 93 yX0_storeZero, Cond.instanceMethod yX0_storeZero, Cond.selects RX0 yX0_storeZero yX0_storeZero, Cond.initialized RX0, Cond.code yX0_storeZero cX0_storeZero 3 (some .int), Cond.fieldLink RX0 9 "ExactFloats" "registers" "[J", Cond.fieldLink RX0 17 "ExactFloats" "lastWasInexact" "Z", Cond.methodLink RX0 97 yX0_exponentOf, Cond.static yX0_exponentOf, Cond.code yX0_exponentOf cX0_exponentOf 2 (some .int), Cond.methodLink RX0 63 Lib.MathLoose.abs_long.x, Cond.static Lib.MathLoose.abs_long.x, Cond.initialized "java/lang/Math", Cond.code Lib.MathLoose.abs_long.x Lib.MathLoose.abs_long.code 2 (some .long), Cond.methodLink RX0 100 yX0_significandOf, Cond.static yX0_significandOf, Cond.code yX0_significandOf cX0_significandOf 2 (some .long), Cond.constantLong RX0 89 (36028797018963967), Cond.constantLong RX0 91 (36028797018963968), Cond.methodLink RX0 69 yX0_storeRounded, Cond.instanceMethod yX0_storeRounded, Cond.selects RX0 yX0_storeRounded yX0_storeRounded, Cond.code yX0_storeRounded cX0_storeRounded 12 (some .int), Cond.constantLong RX0 103 (4611686018427387904)]
def wsX0_storeValue_r2 : List Cond := [Cond.fieldLink RX0 13 "ExactFloats" "underflowAsked" "Z", Cond.methodLink RX0 105 yX0_bitsOf, Cond.static yX0_bitsOf, Cond.code yX0_bitsOf cX0_bitsOf 4 (some .long), Cond.constant RX0 88 (32768), Cond.constantLong RX0 86 (65535)]
def wsX0_storeValue : List Cond := .code yX0_storeValue cX0_storeValue 5 (some .int) :: ((wsX0_storeValue_r1 ++ wsX0_storeValue_r2) ++ wsX00)
def wsX0_shiftedDown : List Cond := .code yX0_shiftedDown cX0_shiftedDown 5 (some .long) :: ([])
def wsX0_storeSum_r1 : List Cond := [Cond.methodLink RX0 63 Lib.MathLoose.abs_long.x, Cond.static Lib.MathLoose.abs_long.x, Cond.initialized "java/lang/Math", Cond.code Lib.MathLoose.abs_long.x Lib.MathLoose.abs_long.code 2 (some .long), Cond.methodLink RX0 42 yX0_storeValue, Cond.instanceMethod yX0_storeValue, Cond.selects RX0 yX0_storeValue yX0_storeValue, Cond.initialized RX0, Cond.code yX0_storeValue cX0_storeValue 5 (some .int), Cond.methodLink RX0 93 yX0_storeZero, Cond.instanceMethod yX0_storeZero, Cond.selects RX0 yX0_storeZero yX0_storeZero, Cond.code yX0_storeZero cX0_storeZero 3 (some .int), Cond.fieldLink RX0 9 "ExactFloats" "registers" "[J", Cond.fieldLink RX0 17 "ExactFloats" "lastWasInexact" "Z", Cond.methodLink RX0 97 yX0_exponentOf, Cond.static yX0_exponentOf, Cond.code yX0_exponentOf cX0_exponentOf 2 (some .int), Cond.methodLink RX0 100 yX0_significandOf, Cond.static yX0_significandOf, Cond.code yX0_significandOf cX0_significandOf 2 (some .long), Cond.constantLong RX0 89 (36028797018963967), Cond.constantLong RX0 91 (36028797018963968), Cond.methodLink RX0 69 yX0_storeRounded]
def wsX0_storeSum_r2 : List Cond := [Cond.instanceMethod yX0_storeRounded, Cond.selects RX0 yX0_storeRounded yX0_storeRounded, Cond.code yX0_storeRounded cX0_storeRounded 12 (some .int), Cond.constantLong RX0 103 (4611686018427387904), Cond.fieldLink RX0 13 "ExactFloats" "underflowAsked" "Z", Cond.methodLink RX0 105 yX0_bitsOf, Cond.static yX0_bitsOf, Cond.code yX0_bitsOf cX0_bitsOf 4 (some .long), Cond.constant RX0 88 (32768), Cond.constantLong RX0 86 (65535), Cond.methodLink RX0 109 yX0_shiftedDown, Cond.static yX0_shiftedDown, Cond.code yX0_shiftedDown cX0_shiftedDown 5 (some .long)]
def wsX0_storeSum : List Cond := .code yX0_storeSum cX0_storeSum 21 (some .int) :: ((wsX0_storeSum_r1 ++ wsX0_storeSum_r2) ++ wsX00)
def wsX0_sum_r1 : List Cond := [Cond.methodLink RX0 24 yX0_refusalOf, Cond.instanceMethod yX0_refusalOf, Cond.selects RX0 yX0_refusalOf yX0_refusalOf, Cond.initialized RX0, Cond.code yX0_refusalOf cX0_refusalOf 5 (some .int), Cond.methodLink RX0 60 yX0_isSize, Cond.static yX0_isSize, Cond.code yX0_isSize cX0_isSize 1 (some .boolean), Cond.methodLink RX0 20 yX0_isRegister, Cond.static yX0_isRegister, Cond.code yX0_isRegister cX0_isRegister 1 (some .boolean), Cond.methodLink RX0 77 yX0_isReserved, Cond.instanceMethod yX0_isReserved, Cond.selects RX0 yX0_isReserved yX0_isReserved, Cond.code yX0_isReserved cX0_isReserved 2 (some .boolean), Cond.fieldLink RX0 9 "ExactFloats" "registers" "[J", Cond.constantLong RX0 73 (65408), Cond.constantLong RX0 75 (32768), Cond.methodLink RX0 28 yX0_valueIn, Cond.instanceMethod yX0_valueIn, Cond.selects RX0 yX0_valueIn yX0_valueIn, Cond.code yX0_valueIn cX0_valueIn 11 (some .long), Cond.constantLong RX0 80 (4294967295), Cond.constantLong RX0 82 (255)]
def wsX0_sum_r2 : List Cond := [Cond.constantLong RX0 84 (127), Cond.constantLong RX0 86 (65535), Cond.methodLink RX0 32 yX0_storeSum, Cond.instanceMethod yX0_storeSum, Cond.selects RX0 yX0_storeSum yX0_storeSum, Cond.code yX0_storeSum cX0_storeSum 21 (some .int), Cond.methodLink RX0 63 Lib.MathLoose.abs_long.x, Cond.static Lib.MathLoose.abs_long.x, Cond.initialized "java/lang/Math", Cond.code Lib.MathLoose.abs_long.x Lib.MathLoose.abs_long.code 2 (some .long), Cond.methodLink RX0 42 yX0_storeValue, Cond.instanceMethod yX0_storeValue, Cond.selects RX0 yX0_storeValue yX0_storeValue, Cond.code yX0_storeValue cX0_storeValue 5 (some .int), Cond.methodLink RX0 93 yX0_storeZero, Cond.instanceMethod yX0_storeZero, Cond.selects RX0 yX0_storeZero yX0_storeZero, Cond.code yX0_storeZero cX0_storeZero 3 (some .int), Cond.fieldLink RX0 17 "ExactFloats" "lastWasInexact" "Z", Cond.methodLink RX0 97 yX0_exponentOf, Cond.static yX0_exponentOf, Cond.code yX0_exponentOf cX0_exponentOf 2 (some .int), Cond.methodLink RX0 100 yX0_significandOf, Cond.static yX0_significandOf]
def wsX0_sum_r3 : List Cond := [Cond.code yX0_significandOf cX0_significandOf 2 (some .long), Cond.constantLong RX0 89 (36028797018963967), Cond.constantLong RX0 91 (36028797018963968), Cond.methodLink RX0 69 yX0_storeRounded, Cond.instanceMethod yX0_storeRounded, Cond.selects RX0 yX0_storeRounded yX0_storeRounded, Cond.code yX0_storeRounded cX0_storeRounded 12 (some .int), Cond.constantLong RX0 103 (4611686018427387904), Cond.fieldLink RX0 13 "ExactFloats" "underflowAsked" "Z", Cond.methodLink RX0 105 yX0_bitsOf, Cond.static yX0_bitsOf, Cond.code yX0_bitsOf cX0_bitsOf 4 (some .long), Cond.constant RX0 88 (32768), Cond.methodLink RX0 109 yX0_shiftedDown, Cond.static yX0_shiftedDown, Cond.code yX0_shiftedDown cX0_shiftedDown 5 (some .long)]
def wsX0_sum : List Cond := .code yX0_sum cX0_sum 6 (some .int) :: ((wsX0_sum_r1 ++ (wsX0_sum_r2 ++ wsX0_sum_r3)) ++ wsX00)
def wsX0_less_r1 : List Cond := [Cond.methodLink RX0 24 yX0_refusalOf, Cond.instanceMethod yX0_refusalOf, Cond.selects RX0 yX0_refusalOf yX0_refusalOf, Cond.initialized RX0, Cond.code yX0_refusalOf cX0_refusalOf 5 (some .int), Cond.methodLink RX0 60 yX0_isSize, Cond.static yX0_isSize, Cond.code yX0_isSize cX0_isSize 1 (some .boolean), Cond.methodLink RX0 20 yX0_isRegister, Cond.static yX0_isRegister, Cond.code yX0_isRegister cX0_isRegister 1 (some .boolean), Cond.methodLink RX0 77 yX0_isReserved, Cond.instanceMethod yX0_isReserved, Cond.selects RX0 yX0_isReserved yX0_isReserved, Cond.code yX0_isReserved cX0_isReserved 2 (some .boolean), Cond.fieldLink RX0 9 "ExactFloats" "registers" "[J", Cond.constantLong RX0 73 (65408), Cond.constantLong RX0 75 (32768), Cond.methodLink RX0 28 yX0_valueIn, Cond.instanceMethod yX0_valueIn, Cond.selects RX0 yX0_valueIn yX0_valueIn, Cond.code yX0_valueIn cX0_valueIn 11 (some .long), Cond.constantLong RX0 80 (4294967295), Cond.constantLong RX0 82 (255)]
def wsX0_less_r2 : List Cond := [Cond.constantLong RX0 84 (127), Cond.constantLong RX0 86 (65535), Cond.methodLink RX0 32 yX0_storeSum, Cond.instanceMethod yX0_storeSum, Cond.selects RX0 yX0_storeSum yX0_storeSum, Cond.code yX0_storeSum cX0_storeSum 21 (some .int), Cond.methodLink RX0 63 Lib.MathLoose.abs_long.x, Cond.static Lib.MathLoose.abs_long.x, Cond.initialized "java/lang/Math", Cond.code Lib.MathLoose.abs_long.x Lib.MathLoose.abs_long.code 2 (some .long), Cond.methodLink RX0 42 yX0_storeValue, Cond.instanceMethod yX0_storeValue, Cond.selects RX0 yX0_storeValue yX0_storeValue, Cond.code yX0_storeValue cX0_storeValue 5 (some .int), Cond.methodLink RX0 93 yX0_storeZero, Cond.instanceMethod yX0_storeZero, Cond.selects RX0 yX0_storeZero yX0_storeZero, Cond.code yX0_storeZero cX0_storeZero 3 (some .int), Cond.fieldLink RX0 17 "ExactFloats" "lastWasInexact" "Z", Cond.methodLink RX0 97 yX0_exponentOf, Cond.static yX0_exponentOf, Cond.code yX0_exponentOf cX0_exponentOf 2 (some .int), Cond.methodLink RX0 100 yX0_significandOf, Cond.static yX0_significandOf]
def wsX0_less_r3 : List Cond := [Cond.code yX0_significandOf cX0_significandOf 2 (some .long), Cond.constantLong RX0 89 (36028797018963967), Cond.constantLong RX0 91 (36028797018963968), Cond.methodLink RX0 69 yX0_storeRounded, Cond.instanceMethod yX0_storeRounded, Cond.selects RX0 yX0_storeRounded yX0_storeRounded, Cond.code yX0_storeRounded cX0_storeRounded 12 (some .int), Cond.constantLong RX0 103 (4611686018427387904), Cond.fieldLink RX0 13 "ExactFloats" "underflowAsked" "Z", Cond.methodLink RX0 105 yX0_bitsOf, Cond.static yX0_bitsOf, Cond.code yX0_bitsOf cX0_bitsOf 4 (some .long), Cond.constant RX0 88 (32768), Cond.methodLink RX0 109 yX0_shiftedDown, Cond.static yX0_shiftedDown, Cond.code yX0_shiftedDown cX0_shiftedDown 5 (some .long)]
def wsX0_less : List Cond := .code yX0_less cX0_less 6 (some .int) :: ((wsX0_less_r1 ++ (wsX0_less_r2 ++ wsX0_less_r3)) ++ wsX00)
def wsX0_wideProduct : List Cond := .code yX0_wideProduct cX0_wideProduct 23 (some .long) :: ([.constantLong RX0 117 (268435455), .constantLong RX0 119 (72057594037927935)])
def wsX0_storeProduct_r1 : List Cond := [Cond.methodLink RX0 93 yX0_storeZero, Cond.instanceMethod yX0_storeZero, Cond.selects RX0 yX0_storeZero yX0_storeZero, Cond.initialized RX0, Cond.code yX0_storeZero cX0_storeZero 3 (some .int), Cond.fieldLink RX0 9 "ExactFloats" "registers" "[J", Cond.fieldLink RX0 17 "ExactFloats" "lastWasInexact" "Z", Cond.methodLink RX0 100 yX0_significandOf, Cond.static yX0_significandOf, Cond.code yX0_significandOf cX0_significandOf 2 (some .long), Cond.methodLink RX0 63 Lib.MathLoose.abs_long.x, Cond.static Lib.MathLoose.abs_long.x, Cond.initialized "java/lang/Math", Cond.code Lib.MathLoose.abs_long.x Lib.MathLoose.abs_long.code 2 (some .long), Cond.constantLong RX0 89 (36028797018963967), Cond.constantLong RX0 91 (36028797018963968), Cond.methodLink RX0 113 yX0_wideProduct, Cond.static yX0_wideProduct, Cond.code yX0_wideProduct cX0_wideProduct 23 (some .long), Cond.constantLong RX0 117 (268435455), Cond.constantLong RX0 119 (72057594037927935), Cond.methodLink RX0 97 yX0_exponentOf, Cond.static yX0_exponentOf, Cond.code yX0_exponentOf cX0_exponentOf 2 (some .int)]
def wsX0_storeProduct_r2 : List Cond := [Cond.methodLink RX0 69 yX0_storeRounded, Cond.instanceMethod yX0_storeRounded, Cond.selects RX0 yX0_storeRounded yX0_storeRounded, Cond.code yX0_storeRounded cX0_storeRounded 12 (some .int), Cond.constantLong RX0 103 (4611686018427387904), Cond.fieldLink RX0 13 "ExactFloats" "underflowAsked" "Z", Cond.methodLink RX0 105 yX0_bitsOf, Cond.static yX0_bitsOf, Cond.code yX0_bitsOf cX0_bitsOf 4 (some .long), Cond.constant RX0 88 (32768), Cond.constantLong RX0 86 (65535)]
def wsX0_storeProduct : List Cond := .code yX0_storeProduct cX0_storeProduct 9 (some .int) :: ((wsX0_storeProduct_r1 ++ wsX0_storeProduct_r2) ++ wsX00)
def wsX0_product_r1 : List Cond := [Cond.methodLink RX0 24 yX0_refusalOf, Cond.instanceMethod yX0_refusalOf, Cond.selects RX0 yX0_refusalOf yX0_refusalOf, Cond.initialized RX0, Cond.code yX0_refusalOf cX0_refusalOf 5 (some .int), Cond.methodLink RX0 60 yX0_isSize, Cond.static yX0_isSize, Cond.code yX0_isSize cX0_isSize 1 (some .boolean), Cond.methodLink RX0 20 yX0_isRegister, Cond.static yX0_isRegister, Cond.code yX0_isRegister cX0_isRegister 1 (some .boolean), Cond.methodLink RX0 77 yX0_isReserved, Cond.instanceMethod yX0_isReserved, Cond.selects RX0 yX0_isReserved yX0_isReserved, Cond.code yX0_isReserved cX0_isReserved 2 (some .boolean), Cond.fieldLink RX0 9 "ExactFloats" "registers" "[J", Cond.constantLong RX0 73 (65408), Cond.constantLong RX0 75 (32768), Cond.methodLink RX0 28 yX0_valueIn, Cond.instanceMethod yX0_valueIn, Cond.selects RX0 yX0_valueIn yX0_valueIn, Cond.code yX0_valueIn cX0_valueIn 11 (some .long), Cond.constantLong RX0 80 (4294967295), Cond.constantLong RX0 82 (255)]
def wsX0_product_r2 : List Cond := [Cond.constantLong RX0 84 (127), Cond.constantLong RX0 86 (65535), Cond.methodLink RX0 36 yX0_storeProduct, Cond.instanceMethod yX0_storeProduct, Cond.selects RX0 yX0_storeProduct yX0_storeProduct, Cond.code yX0_storeProduct cX0_storeProduct 9 (some .int), Cond.methodLink RX0 93 yX0_storeZero, Cond.instanceMethod yX0_storeZero, Cond.selects RX0 yX0_storeZero yX0_storeZero, Cond.code yX0_storeZero cX0_storeZero 3 (some .int), Cond.fieldLink RX0 17 "ExactFloats" "lastWasInexact" "Z", Cond.methodLink RX0 100 yX0_significandOf, Cond.static yX0_significandOf, Cond.code yX0_significandOf cX0_significandOf 2 (some .long), Cond.methodLink RX0 63 Lib.MathLoose.abs_long.x, Cond.static Lib.MathLoose.abs_long.x, Cond.initialized "java/lang/Math", Cond.code Lib.MathLoose.abs_long.x Lib.MathLoose.abs_long.code 2 (some .long), Cond.constantLong RX0 89 (36028797018963967), Cond.constantLong RX0 91 (36028797018963968), Cond.methodLink RX0 113 yX0_wideProduct, Cond.static yX0_wideProduct, Cond.code yX0_wideProduct cX0_wideProduct 23 (some .long), Cond.constantLong RX0 117 (268435455)]
def wsX0_product_r3 : List Cond := [Cond.constantLong RX0 119 (72057594037927935), Cond.methodLink RX0 97 yX0_exponentOf, Cond.static yX0_exponentOf, Cond.code yX0_exponentOf cX0_exponentOf 2 (some .int), Cond.methodLink RX0 69 yX0_storeRounded, Cond.instanceMethod yX0_storeRounded, Cond.selects RX0 yX0_storeRounded yX0_storeRounded, Cond.code yX0_storeRounded cX0_storeRounded 12 (some .int), Cond.constantLong RX0 103 (4611686018427387904), Cond.fieldLink RX0 13 "ExactFloats" "underflowAsked" "Z", Cond.methodLink RX0 105 yX0_bitsOf, Cond.static yX0_bitsOf, Cond.code yX0_bitsOf cX0_bitsOf 4 (some .long), Cond.constant RX0 88 (32768)]
def wsX0_product : List Cond := .code yX0_product cX0_product 6 (some .int) :: ((wsX0_product_r1 ++ (wsX0_product_r2 ++ wsX0_product_r3)) ++ wsX00)
def wsX0_wideQuotient : List Cond := .code yX0_wideQuotient cX0_wideQuotient 9 (some .long) :: ([])
def wsX0_storeQuotient_r1 : List Cond := [Cond.methodLink RX0 93 yX0_storeZero, Cond.instanceMethod yX0_storeZero, Cond.selects RX0 yX0_storeZero yX0_storeZero, Cond.initialized RX0, Cond.code yX0_storeZero cX0_storeZero 3 (some .int), Cond.fieldLink RX0 9 "ExactFloats" "registers" "[J", Cond.fieldLink RX0 17 "ExactFloats" "lastWasInexact" "Z", Cond.methodLink RX0 100 yX0_significandOf, Cond.static yX0_significandOf, Cond.code yX0_significandOf cX0_significandOf 2 (some .long), Cond.methodLink RX0 63 Lib.MathLoose.abs_long.x, Cond.static Lib.MathLoose.abs_long.x, Cond.initialized "java/lang/Math", Cond.code Lib.MathLoose.abs_long.x Lib.MathLoose.abs_long.code 2 (some .long), Cond.constantLong RX0 89 (36028797018963967), Cond.constantLong RX0 91 (36028797018963968), Cond.methodLink RX0 121 yX0_wideQuotient, Cond.static yX0_wideQuotient, Cond.code yX0_wideQuotient cX0_wideQuotient 9 (some .long), Cond.methodLink RX0 97 yX0_exponentOf, Cond.static yX0_exponentOf, Cond.code yX0_exponentOf cX0_exponentOf 2 (some .int), Cond.methodLink RX0 69 yX0_storeRounded, Cond.instanceMethod yX0_storeRounded]
def wsX0_storeQuotient_r2 : List Cond := [Cond.selects RX0 yX0_storeRounded yX0_storeRounded, Cond.code yX0_storeRounded cX0_storeRounded 12 (some .int), Cond.constantLong RX0 103 (4611686018427387904), Cond.fieldLink RX0 13 "ExactFloats" "underflowAsked" "Z", Cond.methodLink RX0 105 yX0_bitsOf, Cond.static yX0_bitsOf, Cond.code yX0_bitsOf cX0_bitsOf 4 (some .long), Cond.constant RX0 88 (32768), Cond.constantLong RX0 86 (65535)]
def wsX0_storeQuotient : List Cond := .code yX0_storeQuotient cX0_storeQuotient 10 (some .int) :: ((wsX0_storeQuotient_r1 ++ wsX0_storeQuotient_r2) ++ wsX00)
def wsX0_quotient_r1 : List Cond := [Cond.methodLink RX0 24 yX0_refusalOf, Cond.instanceMethod yX0_refusalOf, Cond.selects RX0 yX0_refusalOf yX0_refusalOf, Cond.initialized RX0, Cond.code yX0_refusalOf cX0_refusalOf 5 (some .int), Cond.methodLink RX0 60 yX0_isSize, Cond.static yX0_isSize, Cond.code yX0_isSize cX0_isSize 1 (some .boolean), Cond.methodLink RX0 20 yX0_isRegister, Cond.static yX0_isRegister, Cond.code yX0_isRegister cX0_isRegister 1 (some .boolean), Cond.methodLink RX0 77 yX0_isReserved, Cond.instanceMethod yX0_isReserved, Cond.selects RX0 yX0_isReserved yX0_isReserved, Cond.code yX0_isReserved cX0_isReserved 2 (some .boolean), Cond.fieldLink RX0 9 "ExactFloats" "registers" "[J", Cond.constantLong RX0 73 (65408), Cond.constantLong RX0 75 (32768), Cond.methodLink RX0 28 yX0_valueIn, Cond.instanceMethod yX0_valueIn, Cond.selects RX0 yX0_valueIn yX0_valueIn, Cond.code yX0_valueIn cX0_valueIn 11 (some .long), Cond.constantLong RX0 80 (4294967295), Cond.constantLong RX0 82 (255)]
def wsX0_quotient_r2 : List Cond := [Cond.constantLong RX0 84 (127), Cond.constantLong RX0 86 (65535), Cond.methodLink RX0 39 yX0_storeQuotient, Cond.instanceMethod yX0_storeQuotient, Cond.selects RX0 yX0_storeQuotient yX0_storeQuotient, Cond.code yX0_storeQuotient cX0_storeQuotient 10 (some .int), Cond.methodLink RX0 93 yX0_storeZero, Cond.instanceMethod yX0_storeZero, Cond.selects RX0 yX0_storeZero yX0_storeZero, Cond.code yX0_storeZero cX0_storeZero 3 (some .int), Cond.fieldLink RX0 17 "ExactFloats" "lastWasInexact" "Z", Cond.methodLink RX0 100 yX0_significandOf, Cond.static yX0_significandOf, Cond.code yX0_significandOf cX0_significandOf 2 (some .long), Cond.methodLink RX0 63 Lib.MathLoose.abs_long.x, Cond.static Lib.MathLoose.abs_long.x, Cond.initialized "java/lang/Math", Cond.code Lib.MathLoose.abs_long.x Lib.MathLoose.abs_long.code 2 (some .long), Cond.constantLong RX0 89 (36028797018963967), Cond.constantLong RX0 91 (36028797018963968), Cond.methodLink RX0 121 yX0_wideQuotient, Cond.static yX0_wideQuotient, Cond.code yX0_wideQuotient cX0_wideQuotient 9 (some .long), Cond.methodLink RX0 97 yX0_exponentOf]
def wsX0_quotient_r3 : List Cond := [Cond.static yX0_exponentOf, Cond.code yX0_exponentOf cX0_exponentOf 2 (some .int), Cond.methodLink RX0 69 yX0_storeRounded, Cond.instanceMethod yX0_storeRounded, Cond.selects RX0 yX0_storeRounded yX0_storeRounded, Cond.code yX0_storeRounded cX0_storeRounded 12 (some .int), Cond.constantLong RX0 103 (4611686018427387904), Cond.fieldLink RX0 13 "ExactFloats" "underflowAsked" "Z", Cond.methodLink RX0 105 yX0_bitsOf, Cond.static yX0_bitsOf, Cond.code yX0_bitsOf cX0_bitsOf 4 (some .long), Cond.constant RX0 88 (32768)]
def wsX0_quotient : List Cond := .code yX0_quotient cX0_quotient 8 (some .int) :: ((wsX0_quotient_r1 ++ (wsX0_quotient_r2 ++ wsX0_quotient_r3)) ++ wsX00)
def wsX0_negative_r1 : List Cond := [Cond.methodLink RX0 24 yX0_refusalOf, Cond.instanceMethod yX0_refusalOf, Cond.selects RX0 yX0_refusalOf yX0_refusalOf, Cond.initialized RX0, Cond.code yX0_refusalOf cX0_refusalOf 5 (some .int), Cond.methodLink RX0 60 yX0_isSize, Cond.static yX0_isSize, Cond.code yX0_isSize cX0_isSize 1 (some .boolean), Cond.methodLink RX0 20 yX0_isRegister, Cond.static yX0_isRegister, Cond.code yX0_isRegister cX0_isRegister 1 (some .boolean), Cond.methodLink RX0 77 yX0_isReserved, Cond.instanceMethod yX0_isReserved, Cond.selects RX0 yX0_isReserved yX0_isReserved, Cond.code yX0_isReserved cX0_isReserved 2 (some .boolean), Cond.fieldLink RX0 9 "ExactFloats" "registers" "[J", Cond.constantLong RX0 73 (65408), Cond.constantLong RX0 75 (32768), Cond.methodLink RX0 28 yX0_valueIn, Cond.instanceMethod yX0_valueIn, Cond.selects RX0 yX0_valueIn yX0_valueIn, Cond.code yX0_valueIn cX0_valueIn 11 (some .long), Cond.constantLong RX0 80 (4294967295), Cond.constantLong RX0 82 (255)]
def wsX0_negative_r2 : List Cond := [Cond.constantLong RX0 84 (127), Cond.constantLong RX0 86 (65535), Cond.methodLink RX0 42 yX0_storeValue, Cond.instanceMethod yX0_storeValue, Cond.selects RX0 yX0_storeValue yX0_storeValue, Cond.code yX0_storeValue cX0_storeValue 5 (some .int), Cond.methodLink RX0 93 yX0_storeZero, Cond.instanceMethod yX0_storeZero, Cond.selects RX0 yX0_storeZero yX0_storeZero, Cond.code yX0_storeZero cX0_storeZero 3 (some .int), Cond.fieldLink RX0 17 "ExactFloats" "lastWasInexact" "Z", Cond.methodLink RX0 97 yX0_exponentOf, Cond.static yX0_exponentOf, Cond.code yX0_exponentOf cX0_exponentOf 2 (some .int), Cond.methodLink RX0 63 Lib.MathLoose.abs_long.x, Cond.static Lib.MathLoose.abs_long.x, Cond.initialized "java/lang/Math", Cond.code Lib.MathLoose.abs_long.x Lib.MathLoose.abs_long.code 2 (some .long), Cond.methodLink RX0 100 yX0_significandOf, Cond.static yX0_significandOf, Cond.code yX0_significandOf cX0_significandOf 2 (some .long), Cond.constantLong RX0 89 (36028797018963967), Cond.constantLong RX0 91 (36028797018963968), Cond.methodLink RX0 69 yX0_storeRounded]
def wsX0_negative_r3 : List Cond := [Cond.instanceMethod yX0_storeRounded, Cond.selects RX0 yX0_storeRounded yX0_storeRounded, Cond.code yX0_storeRounded cX0_storeRounded 12 (some .int), Cond.constantLong RX0 103 (4611686018427387904), Cond.fieldLink RX0 13 "ExactFloats" "underflowAsked" "Z", Cond.methodLink RX0 105 yX0_bitsOf, Cond.static yX0_bitsOf, Cond.code yX0_bitsOf cX0_bitsOf 4 (some .long), Cond.constant RX0 88 (32768)]
def wsX0_negative : List Cond := .code yX0_negative cX0_negative 5 (some .int) :: ((wsX0_negative_r1 ++ (wsX0_negative_r2 ++ wsX0_negative_r3)) ++ wsX00)
def wsJ13_compare_74951 : List Cond := .code yJ13_compare_74951 cJ13_compare_74951 4 (some .int) :: ([])
def wsX0_flagsOf : List Cond := .code yX0_flagsOf cX0_flagsOf 2 (some .int) :: ([])
def wsX0_compare_r1 : List Cond := [Cond.methodLink RX0 24 yX0_refusalOf, Cond.instanceMethod yX0_refusalOf, Cond.selects RX0 yX0_refusalOf yX0_refusalOf, Cond.initialized RX0, Cond.code yX0_refusalOf cX0_refusalOf 5 (some .int), Cond.methodLink RX0 60 yX0_isSize, Cond.static yX0_isSize, Cond.code yX0_isSize cX0_isSize 1 (some .boolean), Cond.methodLink RX0 20 yX0_isRegister, Cond.static yX0_isRegister, Cond.code yX0_isRegister cX0_isRegister 1 (some .boolean), Cond.methodLink RX0 77 yX0_isReserved, Cond.instanceMethod yX0_isReserved, Cond.selects RX0 yX0_isReserved yX0_isReserved, Cond.code yX0_isReserved cX0_isReserved 2 (some .boolean), Cond.fieldLink RX0 9 "ExactFloats" "registers" "[J", Cond.constantLong RX0 73 (65408), Cond.constantLong RX0 75 (32768), Cond.methodLink RX0 28 yX0_valueIn, Cond.instanceMethod yX0_valueIn, Cond.selects RX0 yX0_valueIn yX0_valueIn, Cond.code yX0_valueIn cX0_valueIn 11 (some .long), Cond.constantLong RX0 80 (4294967295), Cond.constantLong RX0 82 (255)]
def wsX0_compare_r2 : List Cond := [Cond.constantLong RX0 84 (127), Cond.constantLong RX0 86 (65535), Cond.methodLink RX0 46 yJ13_compare_74951, Cond.static yJ13_compare_74951, Cond.initialized RJ13, Cond.code yJ13_compare_74951 cJ13_compare_74951 4 (some .int), Cond.methodLink RX0 52 yX0_flagsOf, Cond.static yX0_flagsOf, Cond.code yX0_flagsOf cX0_flagsOf 2 (some .int)]
def wsX0_compare : List Cond := .code yX0_compare cX0_compare 5 (some .int) :: ((wsX0_compare_r1 ++ wsX0_compare_r2) ++ wsX00)
def wsX0_change_r1 : List Cond := [Cond.methodLink RX0 24 yX0_refusalOf, Cond.instanceMethod yX0_refusalOf, Cond.selects RX0 yX0_refusalOf yX0_refusalOf, Cond.initialized RX0, Cond.code yX0_refusalOf cX0_refusalOf 5 (some .int), Cond.methodLink RX0 60 yX0_isSize, Cond.static yX0_isSize, Cond.code yX0_isSize cX0_isSize 1 (some .boolean), Cond.methodLink RX0 20 yX0_isRegister, Cond.static yX0_isRegister, Cond.code yX0_isRegister cX0_isRegister 1 (some .boolean), Cond.methodLink RX0 77 yX0_isReserved, Cond.instanceMethod yX0_isReserved, Cond.selects RX0 yX0_isReserved yX0_isReserved, Cond.code yX0_isReserved cX0_isReserved 2 (some .boolean), Cond.fieldLink RX0 9 "ExactFloats" "registers" "[J", Cond.constantLong RX0 73 (65408), Cond.constantLong RX0 75 (32768), Cond.methodLink RX0 28 yX0_valueIn, Cond.instanceMethod yX0_valueIn, Cond.selects RX0 yX0_valueIn yX0_valueIn, Cond.code yX0_valueIn cX0_valueIn 11 (some .long), Cond.constantLong RX0 80 (4294967295), Cond.constantLong RX0 82 (255)]
def wsX0_change_r2 : List Cond := [Cond.constantLong RX0 84 (127), Cond.constantLong RX0 86 (65535), Cond.methodLink RX0 42 yX0_storeValue, Cond.instanceMethod yX0_storeValue, Cond.selects RX0 yX0_storeValue yX0_storeValue, Cond.code yX0_storeValue cX0_storeValue 5 (some .int), Cond.methodLink RX0 93 yX0_storeZero, Cond.instanceMethod yX0_storeZero, Cond.selects RX0 yX0_storeZero yX0_storeZero, Cond.code yX0_storeZero cX0_storeZero 3 (some .int), Cond.fieldLink RX0 17 "ExactFloats" "lastWasInexact" "Z", Cond.methodLink RX0 97 yX0_exponentOf, Cond.static yX0_exponentOf, Cond.code yX0_exponentOf cX0_exponentOf 2 (some .int), Cond.methodLink RX0 63 Lib.MathLoose.abs_long.x, Cond.static Lib.MathLoose.abs_long.x, Cond.initialized "java/lang/Math", Cond.code Lib.MathLoose.abs_long.x Lib.MathLoose.abs_long.code 2 (some .long), Cond.methodLink RX0 100 yX0_significandOf, Cond.static yX0_significandOf, Cond.code yX0_significandOf cX0_significandOf 2 (some .long), Cond.constantLong RX0 89 (36028797018963967), Cond.constantLong RX0 91 (36028797018963968), Cond.methodLink RX0 69 yX0_storeRounded]
def wsX0_change_r3 : List Cond := [Cond.instanceMethod yX0_storeRounded, Cond.selects RX0 yX0_storeRounded yX0_storeRounded, Cond.code yX0_storeRounded cX0_storeRounded 12 (some .int), Cond.constantLong RX0 103 (4611686018427387904), Cond.fieldLink RX0 13 "ExactFloats" "underflowAsked" "Z", Cond.methodLink RX0 105 yX0_bitsOf, Cond.static yX0_bitsOf, Cond.code yX0_bitsOf cX0_bitsOf 4 (some .long), Cond.constant RX0 88 (32768)]
def wsX0_change : List Cond := .code yX0_change cX0_change 6 (some .int) :: ((wsX0_change_r1 ++ (wsX0_change_r2 ++ wsX0_change_r3)) ++ wsX00)
def wsX0_wholeSize : List Cond := .code yX0_wholeSize cX0_wholeSize 6 (some .long) :: ([.constantLong RX0 80 (4294967295), .constantLong RX0 91 (36028797018963968)])
def wsX0_wholeOf : List Cond := .code yX0_wholeOf cX0_wholeOf 6 (some .long) :: ([.methodLink RX0 97 yX0_exponentOf, .static yX0_exponentOf, .initialized RX0, .code yX0_exponentOf cX0_exponentOf 2 (some .int), .methodLink RX0 63 Lib.MathLoose.abs_long.x, .static Lib.MathLoose.abs_long.x, .initialized "java/lang/Math", .code Lib.MathLoose.abs_long.x Lib.MathLoose.abs_long.code 2 (some .long), .methodLink RX0 100 yX0_significandOf, .static yX0_significandOf, .code yX0_significandOf cX0_significandOf 2 (some .long), .constantLong RX0 89 (36028797018963967), .constantLong RX0 91 (36028797018963968), .methodLink RX0 124 yX0_wholeSize, .static yX0_wholeSize, .code yX0_wholeSize cX0_wholeSize 6 (some .long), .constantLong RX0 80 (4294967295)])
def wsX0_whole_r1 : List Cond := [Cond.fieldLink RX0 9 "ExactFloats" "registers" "[J", Cond.methodLink RX0 24 yX0_refusalOf, Cond.instanceMethod yX0_refusalOf, Cond.selects RX0 yX0_refusalOf yX0_refusalOf, Cond.initialized RX0, Cond.code yX0_refusalOf cX0_refusalOf 5 (some .int), Cond.methodLink RX0 60 yX0_isSize, Cond.static yX0_isSize, Cond.code yX0_isSize cX0_isSize 1 (some .boolean), Cond.methodLink RX0 20 yX0_isRegister, Cond.static yX0_isRegister, Cond.code yX0_isRegister cX0_isRegister 1 (some .boolean), Cond.methodLink RX0 77 yX0_isReserved, Cond.instanceMethod yX0_isReserved, Cond.selects RX0 yX0_isReserved yX0_isReserved, Cond.code yX0_isReserved cX0_isReserved 2 (some .boolean), Cond.constantLong RX0 73 (65408), Cond.constantLong RX0 75 (32768), Cond.methodLink RX0 28 yX0_valueIn, Cond.instanceMethod yX0_valueIn, Cond.selects RX0 yX0_valueIn yX0_valueIn, Cond.code yX0_valueIn cX0_valueIn 11 (some .long), Cond.constantLong RX0 80 (4294967295), Cond.constantLong RX0 82 (255)]
def wsX0_whole_r2 : List Cond := [Cond.constantLong RX0 84 (127), Cond.constantLong RX0 86 (65535), Cond.methodLink RX0 56 yX0_wholeOf, Cond.static yX0_wholeOf, Cond.code yX0_wholeOf cX0_wholeOf 6 (some .long), Cond.methodLink RX0 97 yX0_exponentOf, Cond.static yX0_exponentOf, Cond.code yX0_exponentOf cX0_exponentOf 2 (some .int), Cond.methodLink RX0 63 Lib.MathLoose.abs_long.x, Cond.static Lib.MathLoose.abs_long.x, Cond.initialized "java/lang/Math", Cond.code Lib.MathLoose.abs_long.x Lib.MathLoose.abs_long.code 2 (some .long), Cond.methodLink RX0 100 yX0_significandOf, Cond.static yX0_significandOf, Cond.code yX0_significandOf cX0_significandOf 2 (some .long), Cond.constantLong RX0 89 (36028797018963967), Cond.constantLong RX0 91 (36028797018963968), Cond.methodLink RX0 124 yX0_wholeSize, Cond.static yX0_wholeSize, Cond.code yX0_wholeSize cX0_wholeSize 6 (some .long), Cond.methodLink RX0 52 yX0_flagsOf, Cond.static yX0_flagsOf, Cond.code yX0_flagsOf cX0_flagsOf 2 (some .int)]
def wsX0_whole : List Cond := .code yX0_whole cX0_whole 12 (some .int) :: ((wsX0_whole_r1 ++ wsX0_whole_r2) ++ wsX00)
def wsX0_number_r1 : List Cond := [Cond.methodLink RX0 63 Lib.MathLoose.abs_long.x, Cond.static Lib.MathLoose.abs_long.x, Cond.initialized "java/lang/Math", Cond.code Lib.MathLoose.abs_long.x Lib.MathLoose.abs_long.code 2 (some .long), Cond.methodLink RX0 60 yX0_isSize, Cond.static yX0_isSize, Cond.initialized RX0, Cond.code yX0_isSize cX0_isSize 1 (some .boolean), Cond.methodLink RX0 20 yX0_isRegister, Cond.static yX0_isRegister, Cond.code yX0_isRegister cX0_isRegister 1 (some .boolean), Cond.methodLink RX0 69 yX0_storeRounded, Cond.instanceMethod yX0_storeRounded, Cond.selects RX0 yX0_storeRounded yX0_storeRounded, Cond.code yX0_storeRounded cX0_storeRounded 12 (some .int), Cond.constantLong RX0 103 (4611686018427387904), Cond.fieldLink RX0 13 "ExactFloats" "underflowAsked" "Z", Cond.fieldLink RX0 9 "ExactFloats" "registers" "[J", Cond.constantLong RX0 89 (36028797018963967), Cond.fieldLink RX0 17 "ExactFloats" "lastWasInexact" "Z", Cond.methodLink RX0 93 yX0_storeZero, Cond.instanceMethod yX0_storeZero, Cond.selects RX0 yX0_storeZero yX0_storeZero, Cond.code yX0_storeZero cX0_storeZero 3 (some .int)]
def wsX0_number_r2 : List Cond := [Cond.methodLink RX0 105 yX0_bitsOf, Cond.static yX0_bitsOf, Cond.code yX0_bitsOf cX0_bitsOf 4 (some .long), Cond.constant RX0 88 (32768), Cond.constantLong RX0 86 (65535)]
def wsX0_number : List Cond := .code yX0_number cX0_number 4 (some .int) :: ((wsX0_number_r1 ++ wsX0_number_r2) ++ wsX00)
def wsX0_lost : List Cond := .code yX0_lost cX0_lost 1 (some .boolean) :: ([.fieldLink RX0 17 "ExactFloats" "lastWasInexact" "Z"] ++ wsX00)
def wsX1_init : List Cond := .code yX1_init cX1_init 1 none :: ([.methodLink RX1 1 objectInit, .instanceMethod objectInit, .code objectInit ⟨#[0xb1]⟩ 1 none, .arrayClass .long, .fieldLink RX1 7 "ExactFloatsModel" "register" "[J"] ++ wsX10)
def wsX1_set : List Cond := .code yX1_set cX1_set 4 (some .boolean) :: ([.fieldLink RX1 7 "ExactFloatsModel" "register" "[J"] ++ wsX10)
def wsX1_get : List Cond := .code yX1_get cX1_get 2 (some .long) :: ([.fieldLink RX1 7 "ExactFloatsModel" "register" "[J"] ++ wsX10)
def wsX1_under : List Cond := .code yX1_under cX1_under 2 none :: ([.fieldLink RX1 13 "ExactFloatsModel" "asked" "Z"] ++ wsX10)
def wsX1_isSize : List Cond := .code yX1_isSize cX1_isSize 1 (some .boolean) :: ([])
def wsX1_isRegister : List Cond := .code yX1_isRegister cX1_isRegister 1 (some .boolean) :: ([])
def wsX1_in : List Cond := .code yX1_in cX1_in 3 (some .long) :: ([.fieldLink RX1 7 "ExactFloatsModel" "register" "[J", .constantLong RX1 17 (4294967295)] ++ wsX10)
def wsX1_isReserved : List Cond := .code yX1_isReserved cX1_isReserved 2 (some .boolean) :: ([.constantLong RX1 19 (65408), .constantLong RX1 21 (32768)])
def wsX1_isZero : List Cond := .code yX1_isZero cX1_isZero 2 (some .boolean) :: ([.constantLong RX1 23 (32640)])
def wsX1_added : List Cond := .code yX1_added cX1_added 26 (some .long) :: ([.fieldLink RX1 48 "ExactFloatsModel" "fault" "I", .fieldLink RX1 51 "ExactFloatsModel" "cut" "Z", .fieldLink RX1 29 "ExactFloatsModel" "minus" "Z", .fieldLink RX1 34 "ExactFloatsModel" "exponent" "I", .fieldLink RX1 44 "ExactFloatsModel" "bits" "J", .methodLink RX1 60 yX1_isZero, .static yX1_isZero, .initialized RX1, .code yX1_isZero cX1_isZero 2 (some .boolean), .constantLong RX1 23 (32640)] ++ wsX10)
def wsX1_two : List Cond := .code yX1_two cX1_two 5 (some .int) :: ([.methodLink RX1 78 yX1_isSize, .static yX1_isSize, .initialized RX1, .code yX1_isSize cX1_isSize 1 (some .boolean), .methodLink RX1 82 yX1_isRegister, .static yX1_isRegister, .code yX1_isRegister cX1_isRegister 1 (some .boolean), .methodLink RX1 85 yX1_in, .instanceMethod yX1_in, .selects RX1 yX1_in yX1_in, .code yX1_in cX1_in 3 (some .long), .fieldLink RX1 7 "ExactFloatsModel" "register" "[J", .constantLong RX1 17 (4294967295), .methodLink RX1 89 yX1_isReserved, .static yX1_isReserved, .code yX1_isReserved cX1_isReserved 2 (some .boolean), .constantLong RX1 19 (65408), .constantLong RX1 21 (32768)] ++ wsX10)
def wsX1_sum_r1 : List Cond := [Cond.methodLink RX1 92 yX1_two, Cond.instanceMethod yX1_two, Cond.selects RX1 yX1_two yX1_two, Cond.initialized RX1, Cond.code yX1_two cX1_two 5 (some .int), Cond.methodLink RX1 78 yX1_isSize, Cond.static yX1_isSize, Cond.code yX1_isSize cX1_isSize 1 (some .boolean), Cond.methodLink RX1 82 yX1_isRegister, Cond.static yX1_isRegister, Cond.code yX1_isRegister cX1_isRegister 1 (some .boolean), Cond.methodLink RX1 85 yX1_in, Cond.instanceMethod yX1_in, Cond.selects RX1 yX1_in yX1_in, Cond.code yX1_in cX1_in 3 (some .long), Cond.fieldLink RX1 7 "ExactFloatsModel" "register" "[J", Cond.constantLong RX1 17 (4294967295), Cond.methodLink RX1 89 yX1_isReserved, Cond.static yX1_isReserved, Cond.code yX1_isReserved cX1_isReserved 2 (some .boolean), Cond.constantLong RX1 19 (65408), Cond.constantLong RX1 21 (32768), Cond.methodLink RX1 96 yX1_added, Cond.instanceMethod yX1_added]
def wsX1_sum_r2 : List Cond := [Cond.selects RX1 yX1_added yX1_added, Cond.code yX1_added cX1_added 26 (some .long), Cond.fieldLink RX1 48 "ExactFloatsModel" "fault" "I", Cond.fieldLink RX1 51 "ExactFloatsModel" "cut" "Z", Cond.fieldLink RX1 29 "ExactFloatsModel" "minus" "Z", Cond.fieldLink RX1 34 "ExactFloatsModel" "exponent" "I", Cond.fieldLink RX1 44 "ExactFloatsModel" "bits" "J", Cond.methodLink RX1 60 yX1_isZero, Cond.static yX1_isZero, Cond.code yX1_isZero cX1_isZero 2 (some .boolean), Cond.constantLong RX1 23 (32640)]
def wsX1_sum : List Cond := .code yX1_sum cX1_sum 6 (some .int) :: ((wsX1_sum_r1 ++ wsX1_sum_r2) ++ wsX10)
def wsJ9_abs_067f4 : List Cond := .code yJ9_abs_067f4 cJ9_abs_067f4 2 (some .long) :: ([])
theorem inJ13 : ∀ w ∈ wsJ130, w ∈ lw_tbl := by decide +kernel
theorem inJ9 : ∀ w ∈ wsJ90, w ∈ lw_tbl := by decide +kernel
abbrev vwCl : List vw_C := [(RX0, TX0, 3), (RX1, TX1, 8)]
end
section
theorem dX0_init_0 : decode cX0_init 0 = .ok (.aload_n 0, 1) := by decide +kernel
theorem dX0_init_1 : decode cX0_init 1 = .ok (.invokespecial 3, 3) := by decide +kernel
theorem dX0_init_4 : decode cX0_init 4 = .ok (.aload_n 0, 1) := by decide +kernel
theorem dX0_init_5 : decode cX0_init 5 = .ok (.bipush 8, 2) := by decide +kernel
theorem dX0_init_7 : decode cX0_init 7 = .ok (.newarray .long, 2) := by decide +kernel
theorem dX0_init_9 : decode cX0_init 9 = .ok (.putfield 9, 3) := by decide +kernel
theorem dX0_init_12 : decode cX0_init 12 = .ok (.aload_n 0, 1) := by decide +kernel
theorem dX0_init_13 : decode cX0_init 13 = .ok (.iconst 0, 1) := by decide +kernel
theorem dX0_init_14 : decode cX0_init 14 = .ok (.putfield 13, 3) := by decide +kernel
theorem dX0_init_17 : decode cX0_init 17 = .ok (.aload_n 0, 1) := by decide +kernel
theorem dX0_init_18 : decode cX0_init 18 = .ok (.iconst 0, 1) := by decide +kernel
theorem dX0_init_19 : decode cX0_init 19 = .ok (.putfield 17, 3) := by decide +kernel
theorem dX0_init_22 : decode cX0_init 22 = .ok (.return_, 1) := by decide +kernel
set_option maxRecDepth 20000 in
theorem ggX0_set_X0_isRegister : GoodIn wsX0_set wsX0_isRegister := goodIn_r _ [5] (by decide +kernel) (by decide +kernel)
set_option maxRecDepth 20000 in
theorem gX0_set_X0_isRegister : GoodIn wsX0_set (va_wsS RX0 20 yX0_isRegister wsX0_isRegister) := goodIn_app (goodIn_of _ (by decide +kernel)) ggX0_set_X0_isRegister
theorem dX0_set_0 : decode cX0_set 0 = .ok (.iload_n 1, 1) := by decide +kernel
theorem dX0_set_1 : decode cX0_set 1 = .ok (.invokestatic 20, 3) := by decide +kernel
theorem dX0_set_4 : decode cX0_set 4 = .ok (.ifCond .ne 5, 3) := by decide +kernel
theorem dX0_set_7 : decode cX0_set 7 = .ok (.iconst 0, 1) := by decide +kernel
theorem dX0_set_8 : decode cX0_set 8 = .ok (.ireturn, 1) := by decide +kernel
theorem dX0_set_9 : decode cX0_set 9 = .ok (.aload_n 0, 1) := by decide +kernel
theorem dX0_set_10 : decode cX0_set 10 = .ok (.getfield 9, 3) := by decide +kernel
theorem dX0_set_13 : decode cX0_set 13 = .ok (.iload_n 1, 1) := by decide +kernel
theorem dX0_set_14 : decode cX0_set 14 = .ok (.lload_n 2, 1) := by decide +kernel
theorem dX0_set_15 : decode cX0_set 15 = .ok (.lastore, 1) := by decide +kernel
theorem dX0_set_16 : decode cX0_set 16 = .ok (.iconst 1, 1) := by decide +kernel
theorem dX0_set_17 : decode cX0_set 17 = .ok (.ireturn, 1) := by decide +kernel
set_option maxRecDepth 20000 in
theorem ggX0_get_X0_isRegister : GoodIn wsX0_get wsX0_isRegister := goodIn_r _ [5] (by decide +kernel) (by decide +kernel)
set_option maxRecDepth 20000 in
theorem gX0_get_X0_isRegister : GoodIn wsX0_get (va_wsS RX0 20 yX0_isRegister wsX0_isRegister) := goodIn_app (goodIn_of _ (by decide +kernel)) ggX0_get_X0_isRegister
theorem dX0_get_0 : decode cX0_get 0 = .ok (.iload_n 1, 1) := by decide +kernel
theorem dX0_get_1 : decode cX0_get 1 = .ok (.invokestatic 20, 3) := by decide +kernel
theorem dX0_get_4 : decode cX0_get 4 = .ok (.ifCond .eq 12, 3) := by decide +kernel
theorem dX0_get_7 : decode cX0_get 7 = .ok (.aload_n 0, 1) := by decide +kernel
theorem dX0_get_8 : decode cX0_get 8 = .ok (.getfield 9, 3) := by decide +kernel
theorem dX0_get_11 : decode cX0_get 11 = .ok (.iload_n 1, 1) := by decide +kernel
theorem dX0_get_12 : decode cX0_get 12 = .ok (.laload, 1) := by decide +kernel
theorem dX0_get_13 : decode cX0_get 13 = .ok (.goto 4, 3) := by decide +kernel
theorem dX0_get_16 : decode cX0_get 16 = .ok (.lconst 0, 1) := by decide +kernel
theorem dX0_get_17 : decode cX0_get 17 = .ok (.lreturn, 1) := by decide +kernel
theorem dX0_under_0 : decode cX0_under 0 = .ok (.aload_n 0, 1) := by decide +kernel
theorem dX0_under_1 : decode cX0_under 1 = .ok (.iload_n 1, 1) := by decide +kernel
theorem dX0_under_2 : decode cX0_under 2 = .ok (.putfield 13, 3) := by decide +kernel
theorem dX0_under_5 : decode cX0_under 5 = .ok (.return_, 1) := by decide +kernel
set_option maxRecDepth 20000 in
theorem ggX0_sum_X0_refusalOf : GoodIn wsX0_sum wsX0_refusalOf := goodIn_r _ [5, 6, 7, 4, 8, 9, 10, 11, 12, 13, 14, 15, 16, 17, 18, 65, 66, 67] (by decide +kernel) (by decide +kernel)
set_option maxRecDepth 20000 in
theorem gX0_sum_X0_refusalOf : GoodIn wsX0_sum (wsV RX0 24 RX0 yX0_refusalOf wsX0_refusalOf) := goodIn_app (goodIn_of _ (by decide +kernel)) ggX0_sum_X0_refusalOf
set_option maxRecDepth 20000 in
theorem ggX0_sum_X0_valueIn : GoodIn wsX0_sum wsX0_valueIn := goodIn_r _ [22, 16, 23, 24, 25, 26, 18, 65, 66, 67] (by decide +kernel) (by decide +kernel)
set_option maxRecDepth 20000 in
theorem gX0_sum_X0_valueIn : GoodIn wsX0_sum (wsV RX0 28 RX0 yX0_valueIn wsX0_valueIn) := goodIn_app (goodIn_of _ (by decide +kernel)) ggX0_sum_X0_valueIn
set_option maxRecDepth 20000 in
theorem ggX0_sum_X0_storeSum : GoodIn wsX0_sum wsX0_storeSum := goodIn_r _ [30, 31, 32, 33, 34, 35, 36, 37, 4, 38, 39, 40, 41, 42, 16, 43, 44, 45, 46, 47, 48, 49, 50, 51, 52, 53, 54, 55, 56, 57, 58, 59, 60, 61, 26, 62, 63, 64, 65, 66, 67] (by decide +kernel) (by decide +kernel)
set_option maxRecDepth 20000 in
theorem gX0_sum_X0_storeSum : GoodIn wsX0_sum (wsV RX0 32 RX0 yX0_storeSum wsX0_storeSum) := goodIn_app (goodIn_of _ (by decide +kernel)) ggX0_sum_X0_storeSum
theorem dX0_sum_0 : decode cX0_sum 0 = .ok (.aload_n 0, 1) := by decide +kernel
theorem dX0_sum_1 : decode cX0_sum 1 = .ok (.iload_n 1, 1) := by decide +kernel
theorem dX0_sum_2 : decode cX0_sum 2 = .ok (.iload_n 2, 1) := by decide +kernel
theorem dX0_sum_3 : decode cX0_sum 3 = .ok (.iload_n 3, 1) := by decide +kernel
theorem dX0_sum_4 : decode cX0_sum 4 = .ok (.iload 4, 2) := by decide +kernel
theorem dX0_sum_6 : decode cX0_sum 6 = .ok (.invokevirtual 24, 3) := by decide +kernel
theorem dX0_sum_9 : decode cX0_sum 9 = .ok (.istore 5, 2) := by decide +kernel
theorem dX0_sum_11 : decode cX0_sum 11 = .ok (.iload 5, 2) := by decide +kernel
theorem dX0_sum_13 : decode cX0_sum 13 = .ok (.ifCond .eq 8, 3) := by decide +kernel
theorem dX0_sum_16 : decode cX0_sum 16 = .ok (.iload 5, 2) := by decide +kernel
theorem dX0_sum_18 : decode cX0_sum 18 = .ok (.goto 22, 3) := by decide +kernel
theorem dX0_sum_21 : decode cX0_sum 21 = .ok (.aload_n 0, 1) := by decide +kernel
theorem dX0_sum_22 : decode cX0_sum 22 = .ok (.iload_n 1, 1) := by decide +kernel
theorem dX0_sum_23 : decode cX0_sum 23 = .ok (.iload 4, 2) := by decide +kernel
theorem dX0_sum_25 : decode cX0_sum 25 = .ok (.aload_n 0, 1) := by decide +kernel
theorem dX0_sum_26 : decode cX0_sum 26 = .ok (.iload_n 1, 1) := by decide +kernel
theorem dX0_sum_27 : decode cX0_sum 27 = .ok (.iload_n 3, 1) := by decide +kernel
theorem dX0_sum_28 : decode cX0_sum 28 = .ok (.invokevirtual 28, 3) := by decide +kernel
theorem dX0_sum_31 : decode cX0_sum 31 = .ok (.aload_n 0, 1) := by decide +kernel
theorem dX0_sum_32 : decode cX0_sum 32 = .ok (.iload_n 1, 1) := by decide +kernel
theorem dX0_sum_33 : decode cX0_sum 33 = .ok (.iload_n 2, 1) := by decide +kernel
theorem dX0_sum_34 : decode cX0_sum 34 = .ok (.invokevirtual 28, 3) := by decide +kernel
theorem dX0_sum_37 : decode cX0_sum 37 = .ok (.invokevirtual 32, 3) := by decide +kernel
theorem dX0_sum_40 : decode cX0_sum 40 = .ok (.ireturn, 1) := by decide +kernel
set_option maxRecDepth 20000 in
theorem ggX0_less_X0_refusalOf : GoodIn wsX0_less wsX0_refusalOf := goodIn_r _ [5, 6, 7, 4, 8, 9, 10, 11, 12, 13, 14, 15, 16, 17, 18, 65, 66, 67] (by decide +kernel) (by decide +kernel)
set_option maxRecDepth 20000 in
theorem gX0_less_X0_refusalOf : GoodIn wsX0_less (wsV RX0 24 RX0 yX0_refusalOf wsX0_refusalOf) := goodIn_app (goodIn_of _ (by decide +kernel)) ggX0_less_X0_refusalOf
set_option maxRecDepth 20000 in
theorem ggX0_less_X0_valueIn : GoodIn wsX0_less wsX0_valueIn := goodIn_r _ [22, 16, 23, 24, 25, 26, 18, 65, 66, 67] (by decide +kernel) (by decide +kernel)
set_option maxRecDepth 20000 in
theorem gX0_less_X0_valueIn : GoodIn wsX0_less (wsV RX0 28 RX0 yX0_valueIn wsX0_valueIn) := goodIn_app (goodIn_of _ (by decide +kernel)) ggX0_less_X0_valueIn
set_option maxRecDepth 20000 in
theorem ggX0_less_X0_storeSum : GoodIn wsX0_less wsX0_storeSum := goodIn_r _ [30, 31, 32, 33, 34, 35, 36, 37, 4, 38, 39, 40, 41, 42, 16, 43, 44, 45, 46, 47, 48, 49, 50, 51, 52, 53, 54, 55, 56, 57, 58, 59, 60, 61, 26, 62, 63, 64, 65, 66, 67] (by decide +kernel) (by decide +kernel)
set_option maxRecDepth 20000 in
theorem gX0_less_X0_storeSum : GoodIn wsX0_less (wsV RX0 32 RX0 yX0_storeSum wsX0_storeSum) := goodIn_app (goodIn_of _ (by decide +kernel)) ggX0_less_X0_storeSum
theorem dX0_less_0 : decode cX0_less 0 = .ok (.aload_n 0, 1) := by decide +kernel
theorem dX0_less_1 : decode cX0_less 1 = .ok (.iload_n 1, 1) := by decide +kernel
theorem dX0_less_2 : decode cX0_less 2 = .ok (.iload_n 2, 1) := by decide +kernel
theorem dX0_less_3 : decode cX0_less 3 = .ok (.iload_n 3, 1) := by decide +kernel
theorem dX0_less_4 : decode cX0_less 4 = .ok (.iload 4, 2) := by decide +kernel
theorem dX0_less_6 : decode cX0_less 6 = .ok (.invokevirtual 24, 3) := by decide +kernel
theorem dX0_less_9 : decode cX0_less 9 = .ok (.istore 5, 2) := by decide +kernel
theorem dX0_less_11 : decode cX0_less 11 = .ok (.iload 5, 2) := by decide +kernel
theorem dX0_less_13 : decode cX0_less 13 = .ok (.ifCond .eq 8, 3) := by decide +kernel
theorem dX0_less_16 : decode cX0_less 16 = .ok (.iload 5, 2) := by decide +kernel
theorem dX0_less_18 : decode cX0_less 18 = .ok (.goto 23, 3) := by decide +kernel
theorem dX0_less_21 : decode cX0_less 21 = .ok (.aload_n 0, 1) := by decide +kernel
theorem dX0_less_22 : decode cX0_less 22 = .ok (.iload_n 1, 1) := by decide +kernel
theorem dX0_less_23 : decode cX0_less 23 = .ok (.iload 4, 2) := by decide +kernel
theorem dX0_less_25 : decode cX0_less 25 = .ok (.aload_n 0, 1) := by decide +kernel
theorem dX0_less_26 : decode cX0_less 26 = .ok (.iload_n 1, 1) := by decide +kernel
theorem dX0_less_27 : decode cX0_less 27 = .ok (.iload_n 3, 1) := by decide +kernel
theorem dX0_less_28 : decode cX0_less 28 = .ok (.invokevirtual 28, 3) := by decide +kernel
theorem dX0_less_31 : decode cX0_less 31 = .ok (.aload_n 0, 1) := by decide +kernel
theorem dX0_less_32 : decode cX0_less 32 = .ok (.iload_n 1, 1) := by decide +kernel
theorem dX0_less_33 : decode cX0_less 33 = .ok (.iload_n 2, 1) := by decide +kernel
theorem dX0_less_34 : decode cX0_less 34 = .ok (.invokevirtual 28, 3) := by decide +kernel
theorem dX0_less_37 : decode cX0_less 37 = .ok (.lneg, 1) := by decide +kernel
theorem dX0_less_38 : decode cX0_less 38 = .ok (.invokevirtual 32, 3) := by decide +kernel
theorem dX0_less_41 : decode cX0_less 41 = .ok (.ireturn, 1) := by decide +kernel
set_option maxRecDepth 20000 in
theorem ggX0_product_X0_refusalOf : GoodIn wsX0_product wsX0_refusalOf := goodIn_r _ [5, 6, 7, 4, 8, 9, 10, 11, 12, 13, 14, 15, 16, 17, 18, 63, 64, 65] (by decide +kernel) (by decide +kernel)
set_option maxRecDepth 20000 in
theorem gX0_product_X0_refusalOf : GoodIn wsX0_product (wsV RX0 24 RX0 yX0_refusalOf wsX0_refusalOf) := goodIn_app (goodIn_of _ (by decide +kernel)) ggX0_product_X0_refusalOf
set_option maxRecDepth 20000 in
theorem ggX0_product_X0_valueIn : GoodIn wsX0_product wsX0_valueIn := goodIn_r _ [22, 16, 23, 24, 25, 26, 18, 63, 64, 65] (by decide +kernel) (by decide +kernel)
set_option maxRecDepth 20000 in
theorem gX0_product_X0_valueIn : GoodIn wsX0_product (wsV RX0 28 RX0 yX0_valueIn wsX0_valueIn) := goodIn_app (goodIn_of _ (by decide +kernel)) ggX0_product_X0_valueIn
set_option maxRecDepth 20000 in
theorem ggX0_product_X0_storeProduct : GoodIn wsX0_product wsX0_storeProduct := goodIn_r _ [30, 31, 32, 33, 4, 34, 16, 35, 36, 37, 38, 39, 40, 41, 42, 43, 44, 45, 46, 47, 48, 49, 50, 51, 52, 53, 54, 55, 56, 57, 58, 59, 60, 61, 62, 26, 63, 64, 65] (by decide +kernel) (by decide +kernel)
set_option maxRecDepth 20000 in
theorem gX0_product_X0_storeProduct : GoodIn wsX0_product (wsV RX0 36 RX0 yX0_storeProduct wsX0_storeProduct) := goodIn_app (goodIn_of _ (by decide +kernel)) ggX0_product_X0_storeProduct
theorem dX0_product_0 : decode cX0_product 0 = .ok (.aload_n 0, 1) := by decide +kernel
theorem dX0_product_1 : decode cX0_product 1 = .ok (.iload_n 1, 1) := by decide +kernel
theorem dX0_product_2 : decode cX0_product 2 = .ok (.iload_n 2, 1) := by decide +kernel
theorem dX0_product_3 : decode cX0_product 3 = .ok (.iload_n 3, 1) := by decide +kernel
theorem dX0_product_4 : decode cX0_product 4 = .ok (.iload 4, 2) := by decide +kernel
theorem dX0_product_6 : decode cX0_product 6 = .ok (.invokevirtual 24, 3) := by decide +kernel
theorem dX0_product_9 : decode cX0_product 9 = .ok (.istore 5, 2) := by decide +kernel
theorem dX0_product_11 : decode cX0_product 11 = .ok (.iload 5, 2) := by decide +kernel
theorem dX0_product_13 : decode cX0_product 13 = .ok (.ifCond .eq 8, 3) := by decide +kernel
theorem dX0_product_16 : decode cX0_product 16 = .ok (.iload 5, 2) := by decide +kernel
theorem dX0_product_18 : decode cX0_product 18 = .ok (.goto 22, 3) := by decide +kernel
theorem dX0_product_21 : decode cX0_product 21 = .ok (.aload_n 0, 1) := by decide +kernel
theorem dX0_product_22 : decode cX0_product 22 = .ok (.iload_n 1, 1) := by decide +kernel
theorem dX0_product_23 : decode cX0_product 23 = .ok (.iload 4, 2) := by decide +kernel
theorem dX0_product_25 : decode cX0_product 25 = .ok (.aload_n 0, 1) := by decide +kernel
theorem dX0_product_26 : decode cX0_product 26 = .ok (.iload_n 1, 1) := by decide +kernel
theorem dX0_product_27 : decode cX0_product 27 = .ok (.iload_n 2, 1) := by decide +kernel
theorem dX0_product_28 : decode cX0_product 28 = .ok (.invokevirtual 28, 3) := by decide +kernel
theorem dX0_product_31 : decode cX0_product 31 = .ok (.aload_n 0, 1) := by decide +kernel
theorem dX0_product_32 : decode cX0_product 32 = .ok (.iload_n 1, 1) := by decide +kernel
theorem dX0_product_33 : decode cX0_product 33 = .ok (.iload_n 3, 1) := by decide +kernel
theorem dX0_product_34 : decode cX0_product 34 = .ok (.invokevirtual 28, 3) := by decide +kernel
theorem dX0_product_37 : decode cX0_product 37 = .ok (.invokevirtual 36, 3) := by decide +kernel
theorem dX0_product_40 : decode cX0_product 40 = .ok (.ireturn, 1) := by decide +kernel
set_option maxRecDepth 20000 in
theorem ggX0_quotient_X0_refusalOf : GoodIn wsX0_quotient wsX0_refusalOf := goodIn_r _ [5, 6, 7, 4, 8, 9, 10, 11, 12, 13, 14, 15, 16, 17, 18, 61, 62, 63] (by decide +kernel) (by decide +kernel)
set_option maxRecDepth 20000 in
theorem gX0_quotient_X0_refusalOf : GoodIn wsX0_quotient (wsV RX0 24 RX0 yX0_refusalOf wsX0_refusalOf) := goodIn_app (goodIn_of _ (by decide +kernel)) ggX0_quotient_X0_refusalOf
set_option maxRecDepth 20000 in
theorem ggX0_quotient_X0_valueIn : GoodIn wsX0_quotient wsX0_valueIn := goodIn_r _ [22, 16, 23, 24, 25, 26, 18, 61, 62, 63] (by decide +kernel) (by decide +kernel)
set_option maxRecDepth 20000 in
theorem gX0_quotient_X0_valueIn : GoodIn wsX0_quotient (wsV RX0 28 RX0 yX0_valueIn wsX0_valueIn) := goodIn_app (goodIn_of _ (by decide +kernel)) ggX0_quotient_X0_valueIn
set_option maxRecDepth 20000 in
theorem ggX0_quotient_X0_storeQuotient : GoodIn wsX0_quotient wsX0_storeQuotient := goodIn_r _ [30, 31, 32, 33, 4, 34, 16, 35, 36, 37, 38, 39, 40, 41, 42, 43, 44, 45, 46, 47, 48, 49, 50, 51, 52, 53, 54, 55, 56, 57, 58, 59, 60, 26, 61, 62, 63] (by decide +kernel) (by decide +kernel)
set_option maxRecDepth 20000 in
theorem gX0_quotient_X0_storeQuotient : GoodIn wsX0_quotient (wsV RX0 39 RX0 yX0_storeQuotient wsX0_storeQuotient) := goodIn_app (goodIn_of _ (by decide +kernel)) ggX0_quotient_X0_storeQuotient
theorem dX0_quotient_0 : decode cX0_quotient 0 = .ok (.aload_n 0, 1) := by decide +kernel
theorem dX0_quotient_1 : decode cX0_quotient 1 = .ok (.iload_n 1, 1) := by decide +kernel
theorem dX0_quotient_2 : decode cX0_quotient 2 = .ok (.iload_n 2, 1) := by decide +kernel
theorem dX0_quotient_3 : decode cX0_quotient 3 = .ok (.iload_n 3, 1) := by decide +kernel
theorem dX0_quotient_4 : decode cX0_quotient 4 = .ok (.iload 4, 2) := by decide +kernel
theorem dX0_quotient_6 : decode cX0_quotient 6 = .ok (.invokevirtual 24, 3) := by decide +kernel
theorem dX0_quotient_9 : decode cX0_quotient 9 = .ok (.istore 5, 2) := by decide +kernel
theorem dX0_quotient_11 : decode cX0_quotient 11 = .ok (.iload 5, 2) := by decide +kernel
theorem dX0_quotient_13 : decode cX0_quotient 13 = .ok (.ifCond .eq 6, 3) := by decide +kernel
theorem dX0_quotient_16 : decode cX0_quotient 16 = .ok (.iload 5, 2) := by decide +kernel
theorem dX0_quotient_18 : decode cX0_quotient 18 = .ok (.ireturn, 1) := by decide +kernel
theorem dX0_quotient_19 : decode cX0_quotient 19 = .ok (.aload_n 0, 1) := by decide +kernel
theorem dX0_quotient_20 : decode cX0_quotient 20 = .ok (.iload_n 1, 1) := by decide +kernel
theorem dX0_quotient_21 : decode cX0_quotient 21 = .ok (.iload_n 2, 1) := by decide +kernel
theorem dX0_quotient_22 : decode cX0_quotient 22 = .ok (.invokevirtual 28, 3) := by decide +kernel
theorem dX0_quotient_25 : decode cX0_quotient 25 = .ok (.lstore 6, 2) := by decide +kernel
theorem dX0_quotient_27 : decode cX0_quotient 27 = .ok (.lload 6, 2) := by decide +kernel
theorem dX0_quotient_29 : decode cX0_quotient 29 = .ok (.lconst 0, 1) := by decide +kernel
theorem dX0_quotient_30 : decode cX0_quotient 30 = .ok (.lcmp, 1) := by decide +kernel
theorem dX0_quotient_31 : decode cX0_quotient 31 = .ok (.ifCond .ne 8, 3) := by decide +kernel
theorem dX0_quotient_34 : decode cX0_quotient 34 = .ok (.bipush (-4), 2) := by decide +kernel
theorem dX0_quotient_36 : decode cX0_quotient 36 = .ok (.goto 18, 3) := by decide +kernel
theorem dX0_quotient_39 : decode cX0_quotient 39 = .ok (.aload_n 0, 1) := by decide +kernel
theorem dX0_quotient_40 : decode cX0_quotient 40 = .ok (.iload_n 1, 1) := by decide +kernel
theorem dX0_quotient_41 : decode cX0_quotient 41 = .ok (.iload 4, 2) := by decide +kernel
theorem dX0_quotient_43 : decode cX0_quotient 43 = .ok (.aload_n 0, 1) := by decide +kernel
theorem dX0_quotient_44 : decode cX0_quotient 44 = .ok (.iload_n 1, 1) := by decide +kernel
theorem dX0_quotient_45 : decode cX0_quotient 45 = .ok (.iload_n 3, 1) := by decide +kernel
theorem dX0_quotient_46 : decode cX0_quotient 46 = .ok (.invokevirtual 28, 3) := by decide +kernel
theorem dX0_quotient_49 : decode cX0_quotient 49 = .ok (.lload 6, 2) := by decide +kernel
theorem dX0_quotient_51 : decode cX0_quotient 51 = .ok (.invokevirtual 39, 3) := by decide +kernel
theorem dX0_quotient_54 : decode cX0_quotient 54 = .ok (.ireturn, 1) := by decide +kernel
set_option maxRecDepth 20000 in
theorem ggX0_negative_X0_refusalOf : GoodIn wsX0_negative wsX0_refusalOf := goodIn_r _ [5, 6, 7, 4, 8, 9, 10, 11, 12, 13, 14, 15, 16, 17, 18, 58, 59, 60] (by decide +kernel) (by decide +kernel)
set_option maxRecDepth 20000 in
theorem gX0_negative_X0_refusalOf : GoodIn wsX0_negative (wsV RX0 24 RX0 yX0_refusalOf wsX0_refusalOf) := goodIn_app (goodIn_of _ (by decide +kernel)) ggX0_negative_X0_refusalOf
set_option maxRecDepth 20000 in
theorem ggX0_negative_X0_valueIn : GoodIn wsX0_negative wsX0_valueIn := goodIn_r _ [22, 16, 23, 24, 25, 26, 18, 58, 59, 60] (by decide +kernel) (by decide +kernel)
set_option maxRecDepth 20000 in
theorem gX0_negative_X0_valueIn : GoodIn wsX0_negative (wsV RX0 28 RX0 yX0_valueIn wsX0_valueIn) := goodIn_app (goodIn_of _ (by decide +kernel)) ggX0_negative_X0_valueIn
set_option maxRecDepth 20000 in
theorem ggX0_negative_X0_storeValue : GoodIn wsX0_negative wsX0_storeValue := goodIn_r _ [30, 31, 32, 33, 4, 34, 16, 35, 36, 37, 38, 39, 40, 41, 42, 43, 44, 45, 46, 47, 48, 49, 50, 51, 52, 53, 54, 55, 56, 57, 26, 58, 59, 60] (by decide +kernel) (by decide +kernel)
set_option maxRecDepth 20000 in
theorem gX0_negative_X0_storeValue : GoodIn wsX0_negative (wsV RX0 42 RX0 yX0_storeValue wsX0_storeValue) := goodIn_app (goodIn_of _ (by decide +kernel)) ggX0_negative_X0_storeValue
theorem dX0_negative_0 : decode cX0_negative 0 = .ok (.aload_n 0, 1) := by decide +kernel
theorem dX0_negative_1 : decode cX0_negative 1 = .ok (.iload_n 1, 1) := by decide +kernel
theorem dX0_negative_2 : decode cX0_negative 2 = .ok (.iload_n 2, 1) := by decide +kernel
theorem dX0_negative_3 : decode cX0_negative 3 = .ok (.iload_n 2, 1) := by decide +kernel
theorem dX0_negative_4 : decode cX0_negative 4 = .ok (.iload_n 3, 1) := by decide +kernel
theorem dX0_negative_5 : decode cX0_negative 5 = .ok (.invokevirtual 24, 3) := by decide +kernel
theorem dX0_negative_8 : decode cX0_negative 8 = .ok (.istore 4, 2) := by decide +kernel
theorem dX0_negative_10 : decode cX0_negative 10 = .ok (.iload 4, 2) := by decide +kernel
theorem dX0_negative_12 : decode cX0_negative 12 = .ok (.ifCond .eq 8, 3) := by decide +kernel
theorem dX0_negative_15 : decode cX0_negative 15 = .ok (.iload 4, 2) := by decide +kernel
theorem dX0_negative_17 : decode cX0_negative 17 = .ok (.goto 16, 3) := by decide +kernel
theorem dX0_negative_20 : decode cX0_negative 20 = .ok (.aload_n 0, 1) := by decide +kernel
theorem dX0_negative_21 : decode cX0_negative 21 = .ok (.iload_n 1, 1) := by decide +kernel
theorem dX0_negative_22 : decode cX0_negative 22 = .ok (.iload_n 3, 1) := by decide +kernel
theorem dX0_negative_23 : decode cX0_negative 23 = .ok (.aload_n 0, 1) := by decide +kernel
theorem dX0_negative_24 : decode cX0_negative 24 = .ok (.iload_n 1, 1) := by decide +kernel
theorem dX0_negative_25 : decode cX0_negative 25 = .ok (.iload_n 2, 1) := by decide +kernel
theorem dX0_negative_26 : decode cX0_negative 26 = .ok (.invokevirtual 28, 3) := by decide +kernel
theorem dX0_negative_29 : decode cX0_negative 29 = .ok (.lneg, 1) := by decide +kernel
theorem dX0_negative_30 : decode cX0_negative 30 = .ok (.invokevirtual 42, 3) := by decide +kernel
theorem dX0_negative_33 : decode cX0_negative 33 = .ok (.ireturn, 1) := by decide +kernel
set_option maxRecDepth 20000 in
theorem ggX0_compare_X0_refusalOf : GoodIn wsX0_compare wsX0_refusalOf := goodIn_r _ [5, 6, 7, 4, 8, 9, 10, 11, 12, 13, 14, 15, 16, 17, 18, 34, 35, 36] (by decide +kernel) (by decide +kernel)
set_option maxRecDepth 20000 in
theorem gX0_compare_X0_refusalOf : GoodIn wsX0_compare (wsV RX0 24 RX0 yX0_refusalOf wsX0_refusalOf) := goodIn_app (goodIn_of _ (by decide +kernel)) ggX0_compare_X0_refusalOf
set_option maxRecDepth 20000 in
theorem ggX0_compare_X0_valueIn : GoodIn wsX0_compare wsX0_valueIn := goodIn_r _ [22, 16, 23, 24, 25, 26, 18, 34, 35, 36] (by decide +kernel) (by decide +kernel)
set_option maxRecDepth 20000 in
theorem gX0_compare_X0_valueIn : GoodIn wsX0_compare (wsV RX0 28 RX0 yX0_valueIn wsX0_valueIn) := goodIn_app (goodIn_of _ (by decide +kernel)) ggX0_compare_X0_valueIn
set_option maxRecDepth 20000 in
theorem ggX0_compare_J13_compare_74951 : GoodIn wsX0_compare wsJ13_compare_74951 := goodIn_r _ [30] (by decide +kernel) (by decide +kernel)
set_option maxRecDepth 20000 in
theorem gX0_compare_J13_compare_74951 : GoodIn wsX0_compare (va_wsS RX0 46 yJ13_compare_74951 wsJ13_compare_74951) := goodIn_app (goodIn_of _ (by decide +kernel)) ggX0_compare_J13_compare_74951
set_option maxRecDepth 20000 in
theorem ggX0_compare_X0_flagsOf : GoodIn wsX0_compare wsX0_flagsOf := goodIn_r _ [33] (by decide +kernel) (by decide +kernel)
set_option maxRecDepth 20000 in
theorem gX0_compare_X0_flagsOf : GoodIn wsX0_compare (va_wsS RX0 52 yX0_flagsOf wsX0_flagsOf) := goodIn_app (goodIn_of _ (by decide +kernel)) ggX0_compare_X0_flagsOf
theorem dX0_compare_0 : decode cX0_compare 0 = .ok (.aload_n 0, 1) := by decide +kernel
theorem dX0_compare_1 : decode cX0_compare 1 = .ok (.iload_n 1, 1) := by decide +kernel
theorem dX0_compare_2 : decode cX0_compare 2 = .ok (.iload_n 2, 1) := by decide +kernel
theorem dX0_compare_3 : decode cX0_compare 3 = .ok (.iload_n 3, 1) := by decide +kernel
theorem dX0_compare_4 : decode cX0_compare 4 = .ok (.iload_n 2, 1) := by decide +kernel
theorem dX0_compare_5 : decode cX0_compare 5 = .ok (.invokevirtual 24, 3) := by decide +kernel
theorem dX0_compare_8 : decode cX0_compare 8 = .ok (.istore 4, 2) := by decide +kernel
theorem dX0_compare_10 : decode cX0_compare 10 = .ok (.iload 4, 2) := by decide +kernel
theorem dX0_compare_12 : decode cX0_compare 12 = .ok (.ifCond .eq 6, 3) := by decide +kernel
theorem dX0_compare_15 : decode cX0_compare 15 = .ok (.iload 4, 2) := by decide +kernel
theorem dX0_compare_17 : decode cX0_compare 17 = .ok (.ireturn, 1) := by decide +kernel
theorem dX0_compare_18 : decode cX0_compare 18 = .ok (.aload_n 0, 1) := by decide +kernel
theorem dX0_compare_19 : decode cX0_compare 19 = .ok (.iload_n 1, 1) := by decide +kernel
theorem dX0_compare_20 : decode cX0_compare 20 = .ok (.iload_n 2, 1) := by decide +kernel
theorem dX0_compare_21 : decode cX0_compare 21 = .ok (.invokevirtual 28, 3) := by decide +kernel
theorem dX0_compare_24 : decode cX0_compare 24 = .ok (.aload_n 0, 1) := by decide +kernel
theorem dX0_compare_25 : decode cX0_compare 25 = .ok (.iload_n 1, 1) := by decide +kernel
theorem dX0_compare_26 : decode cX0_compare 26 = .ok (.iload_n 3, 1) := by decide +kernel
theorem dX0_compare_27 : decode cX0_compare 27 = .ok (.invokevirtual 28, 3) := by decide +kernel
theorem dX0_compare_30 : decode cX0_compare 30 = .ok (.invokestatic 46, 3) := by decide +kernel
theorem dX0_compare_33 : decode cX0_compare 33 = .ok (.i2l, 1) := by decide +kernel
theorem dX0_compare_34 : decode cX0_compare 34 = .ok (.invokestatic 52, 3) := by decide +kernel
theorem dX0_compare_37 : decode cX0_compare 37 = .ok (.ireturn, 1) := by decide +kernel
set_option maxRecDepth 20000 in
theorem ggX0_change_X0_refusalOf : GoodIn wsX0_change wsX0_refusalOf := goodIn_r _ [5, 6, 7, 4, 8, 9, 10, 11, 12, 13, 14, 15, 16, 17, 18, 58, 59, 60] (by decide +kernel) (by decide +kernel)
set_option maxRecDepth 20000 in
theorem gX0_change_X0_refusalOf : GoodIn wsX0_change (wsV RX0 24 RX0 yX0_refusalOf wsX0_refusalOf) := goodIn_app (goodIn_of _ (by decide +kernel)) ggX0_change_X0_refusalOf
set_option maxRecDepth 20000 in
theorem ggX0_change_X0_valueIn : GoodIn wsX0_change wsX0_valueIn := goodIn_r _ [22, 16, 23, 24, 25, 26, 18, 58, 59, 60] (by decide +kernel) (by decide +kernel)
set_option maxRecDepth 20000 in
theorem gX0_change_X0_valueIn : GoodIn wsX0_change (wsV RX0 28 RX0 yX0_valueIn wsX0_valueIn) := goodIn_app (goodIn_of _ (by decide +kernel)) ggX0_change_X0_valueIn
set_option maxRecDepth 20000 in
theorem ggX0_change_X0_storeValue : GoodIn wsX0_change wsX0_storeValue := goodIn_r _ [30, 31, 32, 33, 4, 34, 16, 35, 36, 37, 38, 39, 40, 41, 42, 43, 44, 45, 46, 47, 48, 49, 50, 51, 52, 53, 54, 55, 56, 57, 26, 58, 59, 60] (by decide +kernel) (by decide +kernel)
set_option maxRecDepth 20000 in
theorem gX0_change_X0_storeValue : GoodIn wsX0_change (wsV RX0 42 RX0 yX0_storeValue wsX0_storeValue) := goodIn_app (goodIn_of _ (by decide +kernel)) ggX0_change_X0_storeValue
theorem dX0_change_0 : decode cX0_change 0 = .ok (.aload_n 0, 1) := by decide +kernel
theorem dX0_change_1 : decode cX0_change 1 = .ok (.iload_n 1, 1) := by decide +kernel
theorem dX0_change_2 : decode cX0_change 2 = .ok (.iload_n 2, 1) := by decide +kernel
theorem dX0_change_3 : decode cX0_change 3 = .ok (.iload_n 2, 1) := by decide +kernel
theorem dX0_change_4 : decode cX0_change 4 = .ok (.iload_n 3, 1) := by decide +kernel
theorem dX0_change_5 : decode cX0_change 5 = .ok (.invokevirtual 24, 3) := by decide +kernel
theorem dX0_change_8 : decode cX0_change 8 = .ok (.istore 4, 2) := by decide +kernel
theorem dX0_change_10 : decode cX0_change 10 = .ok (.iload_n 1, 1) := by decide +kernel
theorem dX0_change_11 : decode cX0_change 11 = .ok (.iconst 4, 1) := by decide +kernel
theorem dX0_change_12 : decode cX0_change 12 = .ok (.if_icmp .ne 8, 3) := by decide +kernel
theorem dX0_change_15 : decode cX0_change 15 = .ok (.bipush 8, 2) := by decide +kernel
theorem dX0_change_17 : decode cX0_change 17 = .ok (.goto 4, 3) := by decide +kernel
theorem dX0_change_20 : decode cX0_change 20 = .ok (.iconst 4, 1) := by decide +kernel
theorem dX0_change_21 : decode cX0_change 21 = .ok (.istore 5, 2) := by decide +kernel
theorem dX0_change_23 : decode cX0_change 23 = .ok (.iload 4, 2) := by decide +kernel
theorem dX0_change_25 : decode cX0_change 25 = .ok (.ifCond .eq 8, 3) := by decide +kernel
theorem dX0_change_28 : decode cX0_change 28 = .ok (.iload 4, 2) := by decide +kernel
theorem dX0_change_30 : decode cX0_change 30 = .ok (.goto 16, 3) := by decide +kernel
theorem dX0_change_33 : decode cX0_change 33 = .ok (.aload_n 0, 1) := by decide +kernel
theorem dX0_change_34 : decode cX0_change 34 = .ok (.iload 5, 2) := by decide +kernel
theorem dX0_change_36 : decode cX0_change 36 = .ok (.iload_n 3, 1) := by decide +kernel
theorem dX0_change_37 : decode cX0_change 37 = .ok (.aload_n 0, 1) := by decide +kernel
theorem dX0_change_38 : decode cX0_change 38 = .ok (.iload_n 1, 1) := by decide +kernel
theorem dX0_change_39 : decode cX0_change 39 = .ok (.iload_n 2, 1) := by decide +kernel
theorem dX0_change_40 : decode cX0_change 40 = .ok (.invokevirtual 28, 3) := by decide +kernel
theorem dX0_change_43 : decode cX0_change 43 = .ok (.invokevirtual 42, 3) := by decide +kernel
theorem dX0_change_46 : decode cX0_change 46 = .ok (.ireturn, 1) := by decide +kernel
set_option maxRecDepth 20000 in
theorem ggX0_whole_X0_refusalOf : GoodIn wsX0_whole wsX0_refusalOf := goodIn_r _ [6, 7, 8, 5, 9, 10, 11, 12, 13, 14, 15, 16, 1, 17, 18, 48, 49, 50] (by decide +kernel) (by decide +kernel)
set_option maxRecDepth 20000 in
theorem gX0_whole_X0_refusalOf : GoodIn wsX0_whole (wsV RX0 24 RX0 yX0_refusalOf wsX0_refusalOf) := goodIn_app (goodIn_of _ (by decide +kernel)) ggX0_whole_X0_refusalOf
set_option maxRecDepth 20000 in
theorem ggX0_whole_X0_valueIn : GoodIn wsX0_whole wsX0_valueIn := goodIn_r _ [22, 1, 23, 24, 25, 26, 18, 48, 49, 50] (by decide +kernel) (by decide +kernel)
set_option maxRecDepth 20000 in
theorem gX0_whole_X0_valueIn : GoodIn wsX0_whole (wsV RX0 28 RX0 yX0_valueIn wsX0_valueIn) := goodIn_app (goodIn_of _ (by decide +kernel)) ggX0_whole_X0_valueIn
set_option maxRecDepth 20000 in
theorem ggX0_whole_X0_wholeOf : GoodIn wsX0_whole wsX0_wholeOf := goodIn_r _ [29, 30, 31, 5, 32, 33, 34, 35, 36, 37, 38, 39, 40, 41, 42, 43, 44, 23] (by decide +kernel) (by decide +kernel)
set_option maxRecDepth 20000 in
theorem gX0_whole_X0_wholeOf : GoodIn wsX0_whole (va_wsS RX0 56 yX0_wholeOf wsX0_wholeOf) := goodIn_app (goodIn_of _ (by decide +kernel)) ggX0_whole_X0_wholeOf
set_option maxRecDepth 20000 in
theorem ggX0_whole_X0_flagsOf : GoodIn wsX0_whole wsX0_flagsOf := goodIn_r _ [47] (by decide +kernel) (by decide +kernel)
set_option maxRecDepth 20000 in
theorem gX0_whole_X0_flagsOf : GoodIn wsX0_whole (va_wsS RX0 52 yX0_flagsOf wsX0_flagsOf) := goodIn_app (goodIn_of _ (by decide +kernel)) ggX0_whole_X0_flagsOf
theorem dX0_whole_0 : decode cX0_whole 0 = .ok (.iload_n 3, 1) := by decide +kernel
theorem dX0_whole_1 : decode cX0_whole 1 = .ok (.iconst 1, 1) := by decide +kernel
theorem dX0_whole_2 : decode cX0_whole 2 = .ok (.if_icmp .eq 16, 3) := by decide +kernel
theorem dX0_whole_5 : decode cX0_whole 5 = .ok (.iload_n 3, 1) := by decide +kernel
theorem dX0_whole_6 : decode cX0_whole 6 = .ok (.iconst 2, 1) := by decide +kernel
theorem dX0_whole_7 : decode cX0_whole 7 = .ok (.if_icmp .eq 11, 3) := by decide +kernel
theorem dX0_whole_10 : decode cX0_whole 10 = .ok (.iload_n 3, 1) := by decide +kernel
theorem dX0_whole_11 : decode cX0_whole 11 = .ok (.iconst 4, 1) := by decide +kernel
theorem dX0_whole_12 : decode cX0_whole 12 = .ok (.if_icmp .eq 6, 3) := by decide +kernel
theorem dX0_whole_15 : decode cX0_whole 15 = .ok (.bipush (-5), 2) := by decide +kernel
theorem dX0_whole_17 : decode cX0_whole 17 = .ok (.ireturn, 1) := by decide +kernel
theorem dX0_whole_18 : decode cX0_whole 18 = .ok (.aload_n 0, 1) := by decide +kernel
theorem dX0_whole_19 : decode cX0_whole 19 = .ok (.iload_n 1, 1) := by decide +kernel
theorem dX0_whole_20 : decode cX0_whole 20 = .ok (.iload_n 2, 1) := by decide +kernel
theorem dX0_whole_21 : decode cX0_whole 21 = .ok (.iload_n 2, 1) := by decide +kernel
theorem dX0_whole_22 : decode cX0_whole 22 = .ok (.iload 5, 2) := by decide +kernel
theorem dX0_whole_24 : decode cX0_whole 24 = .ok (.invokevirtual 24, 3) := by decide +kernel
theorem dX0_whole_27 : decode cX0_whole 27 = .ok (.istore 6, 2) := by decide +kernel
theorem dX0_whole_29 : decode cX0_whole 29 = .ok (.iload 6, 2) := by decide +kernel
theorem dX0_whole_31 : decode cX0_whole 31 = .ok (.ifCond .eq 6, 3) := by decide +kernel
theorem dX0_whole_34 : decode cX0_whole 34 = .ok (.iload 6, 2) := by decide +kernel
theorem dX0_whole_36 : decode cX0_whole 36 = .ok (.ireturn, 1) := by decide +kernel
theorem dX0_whole_37 : decode cX0_whole 37 = .ok (.aload_n 0, 1) := by decide +kernel
theorem dX0_whole_38 : decode cX0_whole 38 = .ok (.iload_n 1, 1) := by decide +kernel
theorem dX0_whole_39 : decode cX0_whole 39 = .ok (.iload_n 2, 1) := by decide +kernel
theorem dX0_whole_40 : decode cX0_whole 40 = .ok (.invokevirtual 28, 3) := by decide +kernel
theorem dX0_whole_43 : decode cX0_whole 43 = .ok (.iload 4, 2) := by decide +kernel
theorem dX0_whole_45 : decode cX0_whole 45 = .ok (.invokestatic 56, 3) := by decide +kernel
theorem dX0_whole_48 : decode cX0_whole 48 = .ok (.lstore 7, 2) := by decide +kernel
theorem dX0_whole_50 : decode cX0_whole 50 = .ok (.bipush 64, 2) := by decide +kernel
theorem dX0_whole_52 : decode cX0_whole 52 = .ok (.bipush 8, 2) := by decide +kernel
theorem dX0_whole_54 : decode cX0_whole 54 = .ok (.iload_n 3, 1) := by decide +kernel
theorem dX0_whole_55 : decode cX0_whole 55 = .ok (.imul, 1) := by decide +kernel
theorem dX0_whole_56 : decode cX0_whole 56 = .ok (.isub, 1) := by decide +kernel
theorem dX0_whole_57 : decode cX0_whole 57 = .ok (.istore 9, 2) := by decide +kernel
theorem dX0_whole_59 : decode cX0_whole 59 = .ok (.lload 7, 2) := by decide +kernel
theorem dX0_whole_61 : decode cX0_whole 61 = .ok (.iload 9, 2) := by decide +kernel
theorem dX0_whole_63 : decode cX0_whole 63 = .ok (.lshl, 1) := by decide +kernel
theorem dX0_whole_64 : decode cX0_whole 64 = .ok (.iload 9, 2) := by decide +kernel
theorem dX0_whole_66 : decode cX0_whole 66 = .ok (.lshr, 1) := by decide +kernel
theorem dX0_whole_67 : decode cX0_whole 67 = .ok (.lstore 10, 2) := by decide +kernel
theorem dX0_whole_69 : decode cX0_whole 69 = .ok (.aload_n 0, 1) := by decide +kernel
theorem dX0_whole_70 : decode cX0_whole 70 = .ok (.getfield 9, 3) := by decide +kernel
theorem dX0_whole_73 : decode cX0_whole 73 = .ok (.iload 5, 2) := by decide +kernel
theorem dX0_whole_75 : decode cX0_whole 75 = .ok (.lload 10, 2) := by decide +kernel
theorem dX0_whole_77 : decode cX0_whole 77 = .ok (.lastore, 1) := by decide +kernel
theorem dX0_whole_78 : decode cX0_whole 78 = .ok (.lload 10, 2) := by decide +kernel
theorem dX0_whole_80 : decode cX0_whole 80 = .ok (.invokestatic 52, 3) := by decide +kernel
theorem dX0_whole_83 : decode cX0_whole 83 = .ok (.lload 10, 2) := by decide +kernel
theorem dX0_whole_85 : decode cX0_whole 85 = .ok (.lload 7, 2) := by decide +kernel
theorem dX0_whole_87 : decode cX0_whole 87 = .ok (.lcmp, 1) := by decide +kernel
theorem dX0_whole_88 : decode cX0_whole 88 = .ok (.ifCond .eq 7, 3) := by decide +kernel
theorem dX0_whole_91 : decode cX0_whole 91 = .ok (.iconst 2, 1) := by decide +kernel
theorem dX0_whole_92 : decode cX0_whole 92 = .ok (.goto 4, 3) := by decide +kernel
theorem dX0_whole_95 : decode cX0_whole 95 = .ok (.iconst 0, 1) := by decide +kernel
theorem dX0_whole_96 : decode cX0_whole 96 = .ok (.ior, 1) := by decide +kernel
theorem dX0_whole_97 : decode cX0_whole 97 = .ok (.ireturn, 1) := by decide +kernel
set_option maxRecDepth 20000 in
theorem ggX0_number_X0_isSize : GoodIn wsX0_number wsX0_isSize := goodIn_r _ [8] (by decide +kernel) (by decide +kernel)
set_option maxRecDepth 20000 in
theorem gX0_number_X0_isSize : GoodIn wsX0_number (va_wsS RX0 60 yX0_isSize wsX0_isSize) := goodIn_app (goodIn_of _ (by decide +kernel)) ggX0_number_X0_isSize
set_option maxRecDepth 20000 in
theorem ggX0_number_X0_isRegister : GoodIn wsX0_number wsX0_isRegister := goodIn_r _ [11] (by decide +kernel) (by decide +kernel)
set_option maxRecDepth 20000 in
theorem gX0_number_X0_isRegister : GoodIn wsX0_number (va_wsS RX0 20 yX0_isRegister wsX0_isRegister) := goodIn_app (goodIn_of _ (by decide +kernel)) ggX0_number_X0_isRegister
set_option maxRecDepth 20000 in
theorem ggX0_number_X0_storeRounded : GoodIn wsX0_number wsX0_storeRounded := goodIn_r _ [15, 16, 17, 18, 19, 20, 21, 22, 23, 7, 24, 25, 26, 27, 28, 29, 30, 31, 32] (by decide +kernel) (by decide +kernel)
set_option maxRecDepth 20000 in
theorem gX0_number_X0_storeRounded : GoodIn wsX0_number (wsV RX0 69 RX0 yX0_storeRounded wsX0_storeRounded) := goodIn_app (goodIn_of _ (by decide +kernel)) ggX0_number_X0_storeRounded
theorem dX0_number_0 : decode cX0_number 0 = .ok (.iload_n 1, 1) := by decide +kernel
theorem dX0_number_1 : decode cX0_number 1 = .ok (.invokestatic 60, 3) := by decide +kernel
theorem dX0_number_4 : decode cX0_number 4 = .ok (.ifCond .eq 10, 3) := by decide +kernel
theorem dX0_number_7 : decode cX0_number 7 = .ok (.iload_n 3, 1) := by decide +kernel
theorem dX0_number_8 : decode cX0_number 8 = .ok (.invokestatic 20, 3) := by decide +kernel
theorem dX0_number_11 : decode cX0_number 11 = .ok (.ifCond .ne 6, 3) := by decide +kernel
theorem dX0_number_14 : decode cX0_number 14 = .ok (.bipush (-5), 2) := by decide +kernel
theorem dX0_number_16 : decode cX0_number 16 = .ok (.ireturn, 1) := by decide +kernel
theorem dX0_number_17 : decode cX0_number 17 = .ok (.aload_n 0, 1) := by decide +kernel
theorem dX0_number_18 : decode cX0_number 18 = .ok (.iload_n 1, 1) := by decide +kernel
theorem dX0_number_19 : decode cX0_number 19 = .ok (.iload_n 3, 1) := by decide +kernel
theorem dX0_number_20 : decode cX0_number 20 = .ok (.iload_n 2, 1) := by decide +kernel
theorem dX0_number_21 : decode cX0_number 21 = .ok (.ifCond .ge 7, 3) := by decide +kernel
theorem dX0_number_24 : decode cX0_number 24 = .ok (.iconst 1, 1) := by decide +kernel
theorem dX0_number_25 : decode cX0_number 25 = .ok (.goto 4, 3) := by decide +kernel
theorem dX0_number_28 : decode cX0_number 28 = .ok (.iconst 0, 1) := by decide +kernel
theorem dX0_number_29 : decode cX0_number 29 = .ok (.sipush 191, 3) := by decide +kernel
theorem dX0_number_32 : decode cX0_number 32 = .ok (.iload_n 2, 1) := by decide +kernel
theorem dX0_number_33 : decode cX0_number 33 = .ok (.i2l, 1) := by decide +kernel
theorem dX0_number_34 : decode cX0_number 34 = .ok (.invokestatic 63, 3) := by decide +kernel
theorem dX0_number_37 : decode cX0_number 37 = .ok (.invokevirtual 69, 3) := by decide +kernel
theorem dX0_number_40 : decode cX0_number 40 = .ok (.ireturn, 1) := by decide +kernel
theorem dX0_lost_0 : decode cX0_lost 0 = .ok (.aload_n 0, 1) := by decide +kernel
theorem dX0_lost_1 : decode cX0_lost 1 = .ok (.getfield 17, 3) := by decide +kernel
theorem dX0_lost_4 : decode cX0_lost 4 = .ok (.ireturn, 1) := by decide +kernel
theorem dX0_isRegister_0 : decode cX0_isRegister 0 = .ok (.iload_n 0, 1) := by decide +kernel
theorem dX0_isRegister_1 : decode cX0_isRegister 1 = .ok (.ifCond .lt 13, 3) := by decide +kernel
theorem dX0_isRegister_4 : decode cX0_isRegister 4 = .ok (.iload_n 0, 1) := by decide +kernel
theorem dX0_isRegister_5 : decode cX0_isRegister 5 = .ok (.bipush 8, 2) := by decide +kernel
theorem dX0_isRegister_7 : decode cX0_isRegister 7 = .ok (.if_icmp .ge 7, 3) := by decide +kernel
theorem dX0_isRegister_10 : decode cX0_isRegister 10 = .ok (.iconst 1, 1) := by decide +kernel
theorem dX0_isRegister_11 : decode cX0_isRegister 11 = .ok (.goto 4, 3) := by decide +kernel
theorem dX0_isRegister_14 : decode cX0_isRegister 14 = .ok (.iconst 0, 1) := by decide +kernel
theorem dX0_isRegister_15 : decode cX0_isRegister 15 = .ok (.ireturn, 1) := by decide +kernel
theorem dX0_isSize_0 : decode cX0_isSize 0 = .ok (.iload_n 0, 1) := by decide +kernel
theorem dX0_isSize_1 : decode cX0_isSize 1 = .ok (.iconst 4, 1) := by decide +kernel
theorem dX0_isSize_2 : decode cX0_isSize 2 = .ok (.if_icmp .eq 9, 3) := by decide +kernel
theorem dX0_isSize_5 : decode cX0_isSize 5 = .ok (.iload_n 0, 1) := by decide +kernel
theorem dX0_isSize_6 : decode cX0_isSize 6 = .ok (.bipush 8, 2) := by decide +kernel
theorem dX0_isSize_8 : decode cX0_isSize 8 = .ok (.if_icmp .ne 7, 3) := by decide +kernel
theorem dX0_isSize_11 : decode cX0_isSize 11 = .ok (.iconst 1, 1) := by decide +kernel
theorem dX0_isSize_12 : decode cX0_isSize 12 = .ok (.goto 4, 3) := by decide +kernel
theorem dX0_isSize_15 : decode cX0_isSize 15 = .ok (.iconst 0, 1) := by decide +kernel
theorem dX0_isSize_16 : decode cX0_isSize 16 = .ok (.ireturn, 1) := by decide +kernel
theorem dX0_isReserved_0 : decode cX0_isReserved 0 = .ok (.aload_n 0, 1) := by decide +kernel
theorem dX0_isReserved_1 : decode cX0_isReserved 1 = .ok (.getfield 9, 3) := by decide +kernel
theorem dX0_isReserved_4 : decode cX0_isReserved 4 = .ok (.iload_n 1, 1) := by decide +kernel
theorem dX0_isReserved_5 : decode cX0_isReserved 5 = .ok (.laload, 1) := by decide +kernel
theorem dX0_isReserved_6 : decode cX0_isReserved 6 = .ok (.ldc2_w 73, 3) := by decide +kernel
theorem dX0_isReserved_9 : decode cX0_isReserved 9 = .ok (.land, 1) := by decide +kernel
theorem dX0_isReserved_10 : decode cX0_isReserved 10 = .ok (.ldc2_w 75, 3) := by decide +kernel
theorem dX0_isReserved_13 : decode cX0_isReserved 13 = .ok (.lcmp, 1) := by decide +kernel
theorem dX0_isReserved_14 : decode cX0_isReserved 14 = .ok (.ifCond .ne 7, 3) := by decide +kernel
theorem dX0_isReserved_17 : decode cX0_isReserved 17 = .ok (.iconst 1, 1) := by decide +kernel
theorem dX0_isReserved_18 : decode cX0_isReserved 18 = .ok (.goto 4, 3) := by decide +kernel
theorem dX0_isReserved_21 : decode cX0_isReserved 21 = .ok (.iconst 0, 1) := by decide +kernel
theorem dX0_isReserved_22 : decode cX0_isReserved 22 = .ok (.ireturn, 1) := by decide +kernel
set_option maxRecDepth 20000 in
theorem ggX0_refusalOf_X0_isSize : GoodIn wsX0_refusalOf wsX0_isSize := goodIn_r _ [4] (by decide +kernel) (by decide +kernel)
set_option maxRecDepth 20000 in
theorem gX0_refusalOf_X0_isSize : GoodIn wsX0_refusalOf (va_wsS RX0 60 yX0_isSize wsX0_isSize) := goodIn_app (goodIn_of _ (by decide +kernel)) ggX0_refusalOf_X0_isSize
set_option maxRecDepth 20000 in
theorem ggX0_refusalOf_X0_isRegister : GoodIn wsX0_refusalOf wsX0_isRegister := goodIn_r _ [7] (by decide +kernel) (by decide +kernel)
set_option maxRecDepth 20000 in
theorem gX0_refusalOf_X0_isRegister : GoodIn wsX0_refusalOf (va_wsS RX0 20 yX0_isRegister wsX0_isRegister) := goodIn_app (goodIn_of _ (by decide +kernel)) ggX0_refusalOf_X0_isRegister
set_option maxRecDepth 20000 in
theorem ggX0_refusalOf_X0_isReserved : GoodIn wsX0_refusalOf wsX0_isReserved := goodIn_r _ [11, 12, 13, 14, 15, 16, 17] (by decide +kernel) (by decide +kernel)
set_option maxRecDepth 20000 in
theorem gX0_refusalOf_X0_isReserved : GoodIn wsX0_refusalOf (wsV RX0 77 RX0 yX0_isReserved wsX0_isReserved) := goodIn_app (goodIn_of _ (by decide +kernel)) ggX0_refusalOf_X0_isReserved
theorem dX0_refusalOf_0 : decode cX0_refusalOf 0 = .ok (.iload_n 1, 1) := by decide +kernel
theorem dX0_refusalOf_1 : decode cX0_refusalOf 1 = .ok (.invokestatic 60, 3) := by decide +kernel
theorem dX0_refusalOf_4 : decode cX0_refusalOf 4 = .ok (.ifCond .eq 25, 3) := by decide +kernel
theorem dX0_refusalOf_7 : decode cX0_refusalOf 7 = .ok (.iload_n 2, 1) := by decide +kernel
theorem dX0_refusalOf_8 : decode cX0_refusalOf 8 = .ok (.invokestatic 20, 3) := by decide +kernel
theorem dX0_refusalOf_11 : decode cX0_refusalOf 11 = .ok (.ifCond .eq 18, 3) := by decide +kernel
theorem dX0_refusalOf_14 : decode cX0_refusalOf 14 = .ok (.iload_n 3, 1) := by decide +kernel
theorem dX0_refusalOf_15 : decode cX0_refusalOf 15 = .ok (.invokestatic 20, 3) := by decide +kernel
theorem dX0_refusalOf_18 : decode cX0_refusalOf 18 = .ok (.ifCond .eq 11, 3) := by decide +kernel
theorem dX0_refusalOf_21 : decode cX0_refusalOf 21 = .ok (.iload 4, 2) := by decide +kernel
theorem dX0_refusalOf_23 : decode cX0_refusalOf 23 = .ok (.invokestatic 20, 3) := by decide +kernel
theorem dX0_refusalOf_26 : decode cX0_refusalOf 26 = .ok (.ifCond .ne 6, 3) := by decide +kernel
theorem dX0_refusalOf_29 : decode cX0_refusalOf 29 = .ok (.bipush (-5), 2) := by decide +kernel
theorem dX0_refusalOf_31 : decode cX0_refusalOf 31 = .ok (.ireturn, 1) := by decide +kernel
theorem dX0_refusalOf_32 : decode cX0_refusalOf 32 = .ok (.aload_n 0, 1) := by decide +kernel
theorem dX0_refusalOf_33 : decode cX0_refusalOf 33 = .ok (.iload_n 2, 1) := by decide +kernel
theorem dX0_refusalOf_34 : decode cX0_refusalOf 34 = .ok (.invokevirtual 77, 3) := by decide +kernel
theorem dX0_refusalOf_37 : decode cX0_refusalOf 37 = .ok (.ifCond .ne 11, 3) := by decide +kernel
theorem dX0_refusalOf_40 : decode cX0_refusalOf 40 = .ok (.aload_n 0, 1) := by decide +kernel
theorem dX0_refusalOf_41 : decode cX0_refusalOf 41 = .ok (.iload_n 3, 1) := by decide +kernel
theorem dX0_refusalOf_42 : decode cX0_refusalOf 42 = .ok (.invokevirtual 77, 3) := by decide +kernel
theorem dX0_refusalOf_45 : decode cX0_refusalOf 45 = .ok (.ifCond .eq 7, 3) := by decide +kernel
theorem dX0_refusalOf_48 : decode cX0_refusalOf 48 = .ok (.iconst (-1), 1) := by decide +kernel
theorem dX0_refusalOf_49 : decode cX0_refusalOf 49 = .ok (.goto 4, 3) := by decide +kernel
theorem dX0_refusalOf_52 : decode cX0_refusalOf 52 = .ok (.iconst 0, 1) := by decide +kernel
theorem dX0_refusalOf_53 : decode cX0_refusalOf 53 = .ok (.ireturn, 1) := by decide +kernel
theorem dX0_flagsOf_0 : decode cX0_flagsOf 0 = .ok (.lload_n 0, 1) := by decide +kernel
theorem dX0_flagsOf_1 : decode cX0_flagsOf 1 = .ok (.lconst 0, 1) := by decide +kernel
theorem dX0_flagsOf_2 : decode cX0_flagsOf 2 = .ok (.lcmp, 1) := by decide +kernel
theorem dX0_flagsOf_3 : decode cX0_flagsOf 3 = .ok (.ifCond .ne 5, 3) := by decide +kernel
theorem dX0_flagsOf_6 : decode cX0_flagsOf 6 = .ok (.iconst 4, 1) := by decide +kernel
theorem dX0_flagsOf_7 : decode cX0_flagsOf 7 = .ok (.ireturn, 1) := by decide +kernel
theorem dX0_flagsOf_8 : decode cX0_flagsOf 8 = .ok (.lload_n 0, 1) := by decide +kernel
theorem dX0_flagsOf_9 : decode cX0_flagsOf 9 = .ok (.lconst 0, 1) := by decide +kernel
theorem dX0_flagsOf_10 : decode cX0_flagsOf 10 = .ok (.lcmp, 1) := by decide +kernel
theorem dX0_flagsOf_11 : decode cX0_flagsOf 11 = .ok (.ifCond .ge 8, 3) := by decide +kernel
theorem dX0_flagsOf_14 : decode cX0_flagsOf 14 = .ok (.bipush 8, 2) := by decide +kernel
theorem dX0_flagsOf_16 : decode cX0_flagsOf 16 = .ok (.goto 4, 3) := by decide +kernel
theorem dX0_flagsOf_19 : decode cX0_flagsOf 19 = .ok (.iconst 0, 1) := by decide +kernel
theorem dX0_flagsOf_20 : decode cX0_flagsOf 20 = .ok (.ireturn, 1) := by decide +kernel
theorem dX0_valueIn_0 : decode cX0_valueIn 0 = .ok (.iload_n 1, 1) := by decide +kernel
theorem dX0_valueIn_1 : decode cX0_valueIn 1 = .ok (.iconst 4, 1) := by decide +kernel
theorem dX0_valueIn_2 : decode cX0_valueIn 2 = .ok (.if_icmp .ne 16, 3) := by decide +kernel
theorem dX0_valueIn_5 : decode cX0_valueIn 5 = .ok (.aload_n 0, 1) := by decide +kernel
theorem dX0_valueIn_6 : decode cX0_valueIn 6 = .ok (.getfield 9, 3) := by decide +kernel
theorem dX0_valueIn_9 : decode cX0_valueIn 9 = .ok (.iload_n 2, 1) := by decide +kernel
theorem dX0_valueIn_10 : decode cX0_valueIn 10 = .ok (.laload, 1) := by decide +kernel
theorem dX0_valueIn_11 : decode cX0_valueIn 11 = .ok (.ldc2_w 80, 3) := by decide +kernel
theorem dX0_valueIn_14 : decode cX0_valueIn 14 = .ok (.land, 1) := by decide +kernel
theorem dX0_valueIn_15 : decode cX0_valueIn 15 = .ok (.goto 9, 3) := by decide +kernel
theorem dX0_valueIn_18 : decode cX0_valueIn 18 = .ok (.aload_n 0, 1) := by decide +kernel
theorem dX0_valueIn_19 : decode cX0_valueIn 19 = .ok (.getfield 9, 3) := by decide +kernel
theorem dX0_valueIn_22 : decode cX0_valueIn 22 = .ok (.iload_n 2, 1) := by decide +kernel
theorem dX0_valueIn_23 : decode cX0_valueIn 23 = .ok (.laload, 1) := by decide +kernel
theorem dX0_valueIn_24 : decode cX0_valueIn 24 = .ok (.lstore_n 3, 1) := by decide +kernel
theorem dX0_valueIn_25 : decode cX0_valueIn 25 = .ok (.lload_n 3, 1) := by decide +kernel
theorem dX0_valueIn_26 : decode cX0_valueIn 26 = .ok (.bipush 7, 2) := by decide +kernel
theorem dX0_valueIn_28 : decode cX0_valueIn 28 = .ok (.lushr, 1) := by decide +kernel
theorem dX0_valueIn_29 : decode cX0_valueIn 29 = .ok (.ldc2_w 82, 3) := by decide +kernel
theorem dX0_valueIn_32 : decode cX0_valueIn 32 = .ok (.land, 1) := by decide +kernel
theorem dX0_valueIn_33 : decode cX0_valueIn 33 = .ok (.lstore 5, 2) := by decide +kernel
theorem dX0_valueIn_35 : decode cX0_valueIn 35 = .ok (.lload 5, 2) := by decide +kernel
theorem dX0_valueIn_37 : decode cX0_valueIn 37 = .ok (.lconst 0, 1) := by decide +kernel
theorem dX0_valueIn_38 : decode cX0_valueIn 38 = .ok (.lcmp, 1) := by decide +kernel
theorem dX0_valueIn_39 : decode cX0_valueIn 39 = .ok (.ifCond .ne 5, 3) := by decide +kernel
theorem dX0_valueIn_42 : decode cX0_valueIn 42 = .ok (.lconst 0, 1) := by decide +kernel
theorem dX0_valueIn_43 : decode cX0_valueIn 43 = .ok (.lreturn, 1) := by decide +kernel
theorem dX0_valueIn_44 : decode cX0_valueIn 44 = .ok (.lload_n 3, 1) := by decide +kernel
theorem dX0_valueIn_45 : decode cX0_valueIn 45 = .ok (.ldc2_w 84, 3) := by decide +kernel
theorem dX0_valueIn_48 : decode cX0_valueIn 48 = .ok (.land, 1) := by decide +kernel
theorem dX0_valueIn_49 : decode cX0_valueIn 49 = .ok (.bipush 48, 2) := by decide +kernel
theorem dX0_valueIn_51 : decode cX0_valueIn 51 = .ok (.lshl, 1) := by decide +kernel
theorem dX0_valueIn_52 : decode cX0_valueIn 52 = .ok (.lload_n 3, 1) := by decide +kernel
theorem dX0_valueIn_53 : decode cX0_valueIn 53 = .ok (.bipush 16, 2) := by decide +kernel
theorem dX0_valueIn_55 : decode cX0_valueIn 55 = .ok (.lushr, 1) := by decide +kernel
theorem dX0_valueIn_56 : decode cX0_valueIn 56 = .ok (.ldc2_w 86, 3) := by decide +kernel
theorem dX0_valueIn_59 : decode cX0_valueIn 59 = .ok (.land, 1) := by decide +kernel
theorem dX0_valueIn_60 : decode cX0_valueIn 60 = .ok (.bipush 32, 2) := by decide +kernel
theorem dX0_valueIn_62 : decode cX0_valueIn 62 = .ok (.lshl, 1) := by decide +kernel
theorem dX0_valueIn_63 : decode cX0_valueIn 63 = .ok (.lor, 1) := by decide +kernel
theorem dX0_valueIn_64 : decode cX0_valueIn 64 = .ok (.lload_n 3, 1) := by decide +kernel
theorem dX0_valueIn_65 : decode cX0_valueIn 65 = .ok (.bipush 32, 2) := by decide +kernel
theorem dX0_valueIn_67 : decode cX0_valueIn 67 = .ok (.lushr, 1) := by decide +kernel
theorem dX0_valueIn_68 : decode cX0_valueIn 68 = .ok (.ldc2_w 86, 3) := by decide +kernel
theorem dX0_valueIn_71 : decode cX0_valueIn 71 = .ok (.land, 1) := by decide +kernel
theorem dX0_valueIn_72 : decode cX0_valueIn 72 = .ok (.bipush 16, 2) := by decide +kernel
theorem dX0_valueIn_74 : decode cX0_valueIn 74 = .ok (.lshl, 1) := by decide +kernel
theorem dX0_valueIn_75 : decode cX0_valueIn 75 = .ok (.lor, 1) := by decide +kernel
theorem dX0_valueIn_76 : decode cX0_valueIn 76 = .ok (.lload_n 3, 1) := by decide +kernel
theorem dX0_valueIn_77 : decode cX0_valueIn 77 = .ok (.bipush 48, 2) := by decide +kernel
theorem dX0_valueIn_79 : decode cX0_valueIn 79 = .ok (.lushr, 1) := by decide +kernel
theorem dX0_valueIn_80 : decode cX0_valueIn 80 = .ok (.lor, 1) := by decide +kernel
theorem dX0_valueIn_81 : decode cX0_valueIn 81 = .ok (.lstore 7, 2) := by decide +kernel
theorem dX0_valueIn_83 : decode cX0_valueIn 83 = .ok (.lload 5, 2) := by decide +kernel
theorem dX0_valueIn_85 : decode cX0_valueIn 85 = .ok (.bipush 55, 2) := by decide +kernel
theorem dX0_valueIn_87 : decode cX0_valueIn 87 = .ok (.lshl, 1) := by decide +kernel
theorem dX0_valueIn_88 : decode cX0_valueIn 88 = .ok (.lload 7, 2) := by decide +kernel
theorem dX0_valueIn_90 : decode cX0_valueIn 90 = .ok (.lor, 1) := by decide +kernel
theorem dX0_valueIn_91 : decode cX0_valueIn 91 = .ok (.lstore 9, 2) := by decide +kernel
theorem dX0_valueIn_93 : decode cX0_valueIn 93 = .ok (.lload_n 3, 1) := by decide +kernel
theorem dX0_valueIn_94 : decode cX0_valueIn 94 = .ok (.ldc2_w 75, 3) := by decide +kernel
theorem dX0_valueIn_97 : decode cX0_valueIn 97 = .ok (.land, 1) := by decide +kernel
theorem dX0_valueIn_98 : decode cX0_valueIn 98 = .ok (.lconst 0, 1) := by decide +kernel
theorem dX0_valueIn_99 : decode cX0_valueIn 99 = .ok (.lcmp, 1) := by decide +kernel
theorem dX0_valueIn_100 : decode cX0_valueIn 100 = .ok (.ifCond .eq 9, 3) := by decide +kernel
theorem dX0_valueIn_103 : decode cX0_valueIn 103 = .ok (.lload 9, 2) := by decide +kernel
theorem dX0_valueIn_105 : decode cX0_valueIn 105 = .ok (.lneg, 1) := by decide +kernel
theorem dX0_valueIn_106 : decode cX0_valueIn 106 = .ok (.goto 5, 3) := by decide +kernel
theorem dX0_valueIn_109 : decode cX0_valueIn 109 = .ok (.lload 9, 2) := by decide +kernel
theorem dX0_valueIn_111 : decode cX0_valueIn 111 = .ok (.lreturn, 1) := by decide +kernel
theorem dX0_bitsOf_0 : decode cX0_bitsOf 0 = .ok (.iload_n 0, 1) := by decide +kernel
theorem dX0_bitsOf_1 : decode cX0_bitsOf 1 = .ok (.ifCond .eq 8, 3) := by decide +kernel
theorem dX0_bitsOf_4 : decode cX0_bitsOf 4 = .ok (.ldc 88, 2) := by decide +kernel
theorem dX0_bitsOf_6 : decode cX0_bitsOf 6 = .ok (.goto 4, 3) := by decide +kernel
theorem dX0_bitsOf_9 : decode cX0_bitsOf 9 = .ok (.iconst 0, 1) := by decide +kernel
theorem dX0_bitsOf_10 : decode cX0_bitsOf 10 = .ok (.i2l, 1) := by decide +kernel
theorem dX0_bitsOf_11 : decode cX0_bitsOf 11 = .ok (.iload_n 1, 1) := by decide +kernel
theorem dX0_bitsOf_12 : decode cX0_bitsOf 12 = .ok (.i2l, 1) := by decide +kernel
theorem dX0_bitsOf_13 : decode cX0_bitsOf 13 = .ok (.bipush 7, 2) := by decide +kernel
theorem dX0_bitsOf_15 : decode cX0_bitsOf 15 = .ok (.lshl, 1) := by decide +kernel
theorem dX0_bitsOf_16 : decode cX0_bitsOf 16 = .ok (.lor, 1) := by decide +kernel
theorem dX0_bitsOf_17 : decode cX0_bitsOf 17 = .ok (.lload_n 2, 1) := by decide +kernel
theorem dX0_bitsOf_18 : decode cX0_bitsOf 18 = .ok (.bipush 48, 2) := by decide +kernel
theorem dX0_bitsOf_20 : decode cX0_bitsOf 20 = .ok (.lushr, 1) := by decide +kernel
theorem dX0_bitsOf_21 : decode cX0_bitsOf 21 = .ok (.lor, 1) := by decide +kernel
theorem dX0_bitsOf_22 : decode cX0_bitsOf 22 = .ok (.lload_n 2, 1) := by decide +kernel
theorem dX0_bitsOf_23 : decode cX0_bitsOf 23 = .ok (.bipush 32, 2) := by decide +kernel
theorem dX0_bitsOf_25 : decode cX0_bitsOf 25 = .ok (.lushr, 1) := by decide +kernel
theorem dX0_bitsOf_26 : decode cX0_bitsOf 26 = .ok (.ldc2_w 86, 3) := by decide +kernel
theorem dX0_bitsOf_29 : decode cX0_bitsOf 29 = .ok (.land, 1) := by decide +kernel
theorem dX0_bitsOf_30 : decode cX0_bitsOf 30 = .ok (.bipush 16, 2) := by decide +kernel
theorem dX0_bitsOf_32 : decode cX0_bitsOf 32 = .ok (.lshl, 1) := by decide +kernel
theorem dX0_bitsOf_33 : decode cX0_bitsOf 33 = .ok (.lor, 1) := by decide +kernel
theorem dX0_bitsOf_34 : decode cX0_bitsOf 34 = .ok (.lload_n 2, 1) := by decide +kernel
theorem dX0_bitsOf_35 : decode cX0_bitsOf 35 = .ok (.bipush 16, 2) := by decide +kernel
theorem dX0_bitsOf_37 : decode cX0_bitsOf 37 = .ok (.lushr, 1) := by decide +kernel
theorem dX0_bitsOf_38 : decode cX0_bitsOf 38 = .ok (.ldc2_w 86, 3) := by decide +kernel
theorem dX0_bitsOf_41 : decode cX0_bitsOf 41 = .ok (.land, 1) := by decide +kernel
theorem dX0_bitsOf_42 : decode cX0_bitsOf 42 = .ok (.bipush 32, 2) := by decide +kernel
theorem dX0_bitsOf_44 : decode cX0_bitsOf 44 = .ok (.lshl, 1) := by decide +kernel
theorem dX0_bitsOf_45 : decode cX0_bitsOf 45 = .ok (.lor, 1) := by decide +kernel
theorem dX0_bitsOf_46 : decode cX0_bitsOf 46 = .ok (.lload_n 2, 1) := by decide +kernel
theorem dX0_bitsOf_47 : decode cX0_bitsOf 47 = .ok (.ldc2_w 86, 3) := by decide +kernel
theorem dX0_bitsOf_50 : decode cX0_bitsOf 50 = .ok (.land, 1) := by decide +kernel
theorem dX0_bitsOf_51 : decode cX0_bitsOf 51 = .ok (.bipush 48, 2) := by decide +kernel
theorem dX0_bitsOf_53 : decode cX0_bitsOf 53 = .ok (.lshl, 1) := by decide +kernel
theorem dX0_bitsOf_54 : decode cX0_bitsOf 54 = .ok (.lor, 1) := by decide +kernel
theorem dX0_bitsOf_55 : decode cX0_bitsOf 55 = .ok (.lreturn, 1) := by decide +kernel
theorem dX0_exponentOf_0 : decode cX0_exponentOf 0 = .ok (.lload_n 0, 1) := by decide +kernel
theorem dX0_exponentOf_1 : decode cX0_exponentOf 1 = .ok (.invokestatic 63, 3) := by decide +kernel
theorem dX0_exponentOf_4 : decode cX0_exponentOf 4 = .ok (.bipush 55, 2) := by decide +kernel
theorem dX0_exponentOf_6 : decode cX0_exponentOf 6 = .ok (.lushr, 1) := by decide +kernel
theorem dX0_exponentOf_7 : decode cX0_exponentOf 7 = .ok (.l2i, 1) := by decide +kernel
theorem dX0_exponentOf_8 : decode cX0_exponentOf 8 = .ok (.ireturn, 1) := by decide +kernel
theorem dX0_significandOf_0 : decode cX0_significandOf 0 = .ok (.lload_n 0, 1) := by decide +kernel
theorem dX0_significandOf_1 : decode cX0_significandOf 1 = .ok (.invokestatic 63, 3) := by decide +kernel
theorem dX0_significandOf_4 : decode cX0_significandOf 4 = .ok (.ldc2_w 89, 3) := by decide +kernel
theorem dX0_significandOf_7 : decode cX0_significandOf 7 = .ok (.land, 1) := by decide +kernel
theorem dX0_significandOf_8 : decode cX0_significandOf 8 = .ok (.ldc2_w 91, 3) := by decide +kernel
theorem dX0_significandOf_11 : decode cX0_significandOf 11 = .ok (.lor, 1) := by decide +kernel
theorem dX0_significandOf_12 : decode cX0_significandOf 12 = .ok (.lreturn, 1) := by decide +kernel
theorem dX0_storeZero_0 : decode cX0_storeZero 0 = .ok (.aload_n 0, 1) := by decide +kernel
theorem dX0_storeZero_1 : decode cX0_storeZero 1 = .ok (.getfield 9, 3) := by decide +kernel
theorem dX0_storeZero_4 : decode cX0_storeZero 4 = .ok (.iload_n 1, 1) := by decide +kernel
theorem dX0_storeZero_5 : decode cX0_storeZero 5 = .ok (.lconst 0, 1) := by decide +kernel
theorem dX0_storeZero_6 : decode cX0_storeZero 6 = .ok (.lastore, 1) := by decide +kernel
theorem dX0_storeZero_7 : decode cX0_storeZero 7 = .ok (.aload_n 0, 1) := by decide +kernel
theorem dX0_storeZero_8 : decode cX0_storeZero 8 = .ok (.iload_n 2, 1) := by decide +kernel
theorem dX0_storeZero_9 : decode cX0_storeZero 9 = .ok (.putfield 17, 3) := by decide +kernel
theorem dX0_storeZero_12 : decode cX0_storeZero 12 = .ok (.iconst 4, 1) := by decide +kernel
theorem dX0_storeZero_13 : decode cX0_storeZero 13 = .ok (.ireturn, 1) := by decide +kernel
set_option maxRecDepth 20000 in
theorem ggX0_storeValue_X0_storeZero : GoodIn wsX0_storeValue wsX0_storeZero := goodIn_r _ [5, 6, 7, 31, 32, 33] (by decide +kernel) (by decide +kernel)
set_option maxRecDepth 20000 in
theorem gX0_storeValue_X0_storeZero : GoodIn wsX0_storeValue (wsV RX0 93 RX0 yX0_storeZero wsX0_storeZero) := goodIn_app (goodIn_of _ (by decide +kernel)) ggX0_storeValue_X0_storeZero
set_option maxRecDepth 20000 in
theorem ggX0_storeValue_X0_exponentOf : GoodIn wsX0_storeValue wsX0_exponentOf := goodIn_r _ [10, 11, 12, 13, 14] (by decide +kernel) (by decide +kernel)
set_option maxRecDepth 20000 in
theorem gX0_storeValue_X0_exponentOf : GoodIn wsX0_storeValue (va_wsS RX0 97 yX0_exponentOf wsX0_exponentOf) := goodIn_app (goodIn_of _ (by decide +kernel)) ggX0_storeValue_X0_exponentOf
set_option maxRecDepth 20000 in
theorem ggX0_storeValue_X0_significandOf : GoodIn wsX0_storeValue wsX0_significandOf := goodIn_r _ [17, 11, 12, 13, 14, 18, 19] (by decide +kernel) (by decide +kernel)
set_option maxRecDepth 20000 in
theorem gX0_storeValue_X0_significandOf : GoodIn wsX0_storeValue (va_wsS RX0 100 yX0_significandOf wsX0_significandOf) := goodIn_app (goodIn_of _ (by decide +kernel)) ggX0_storeValue_X0_significandOf
set_option maxRecDepth 20000 in
theorem ggX0_storeValue_X0_storeRounded : GoodIn wsX0_storeValue wsX0_storeRounded := goodIn_r _ [23, 24, 25, 6, 18, 7, 1, 2, 3, 4, 5, 26, 27, 28, 29, 30, 31, 32, 33] (by decide +kernel) (by decide +kernel)
set_option maxRecDepth 20000 in
theorem gX0_storeValue_X0_storeRounded : GoodIn wsX0_storeValue (wsV RX0 69 RX0 yX0_storeRounded wsX0_storeRounded) := goodIn_app (goodIn_of _ (by decide +kernel)) ggX0_storeValue_X0_storeRounded
theorem dX0_storeValue_0 : decode cX0_storeValue 0 = .ok (.lload_n 3, 1) := by decide +kernel
theorem dX0_storeValue_1 : decode cX0_storeValue 1 = .ok (.lconst 0, 1) := by decide +kernel
theorem dX0_storeValue_2 : decode cX0_storeValue 2 = .ok (.lcmp, 1) := by decide +kernel
theorem dX0_storeValue_3 : decode cX0_storeValue 3 = .ok (.ifCond .ne 10, 3) := by decide +kernel
theorem dX0_storeValue_6 : decode cX0_storeValue 6 = .ok (.aload_n 0, 1) := by decide +kernel
theorem dX0_storeValue_7 : decode cX0_storeValue 7 = .ok (.iload_n 2, 1) := by decide +kernel
theorem dX0_storeValue_8 : decode cX0_storeValue 8 = .ok (.iconst 0, 1) := by decide +kernel
theorem dX0_storeValue_9 : decode cX0_storeValue 9 = .ok (.invokevirtual 93, 3) := by decide +kernel
theorem dX0_storeValue_12 : decode cX0_storeValue 12 = .ok (.ireturn, 1) := by decide +kernel
theorem dX0_storeValue_13 : decode cX0_storeValue 13 = .ok (.aload_n 0, 1) := by decide +kernel
theorem dX0_storeValue_14 : decode cX0_storeValue 14 = .ok (.iload_n 1, 1) := by decide +kernel
theorem dX0_storeValue_15 : decode cX0_storeValue 15 = .ok (.iload_n 2, 1) := by decide +kernel
theorem dX0_storeValue_16 : decode cX0_storeValue 16 = .ok (.lload_n 3, 1) := by decide +kernel
theorem dX0_storeValue_17 : decode cX0_storeValue 17 = .ok (.lconst 0, 1) := by decide +kernel
theorem dX0_storeValue_18 : decode cX0_storeValue 18 = .ok (.lcmp, 1) := by decide +kernel
theorem dX0_storeValue_19 : decode cX0_storeValue 19 = .ok (.ifCond .ge 7, 3) := by decide +kernel
theorem dX0_storeValue_22 : decode cX0_storeValue 22 = .ok (.iconst 1, 1) := by decide +kernel
theorem dX0_storeValue_23 : decode cX0_storeValue 23 = .ok (.goto 4, 3) := by decide +kernel
theorem dX0_storeValue_26 : decode cX0_storeValue 26 = .ok (.iconst 0, 1) := by decide +kernel
end
section
theorem dX0_storeValue_27 : decode cX0_storeValue 27 = .ok (.lload_n 3, 1) := by decide +kernel
theorem dX0_storeValue_28 : decode cX0_storeValue 28 = .ok (.invokestatic 97, 3) := by decide +kernel
theorem dX0_storeValue_31 : decode cX0_storeValue 31 = .ok (.lload_n 3, 1) := by decide +kernel
theorem dX0_storeValue_32 : decode cX0_storeValue 32 = .ok (.invokestatic 100, 3) := by decide +kernel
theorem dX0_storeValue_35 : decode cX0_storeValue 35 = .ok (.bipush 7, 2) := by decide +kernel
theorem dX0_storeValue_37 : decode cX0_storeValue 37 = .ok (.lshl, 1) := by decide +kernel
theorem dX0_storeValue_38 : decode cX0_storeValue 38 = .ok (.invokevirtual 69, 3) := by decide +kernel
theorem dX0_storeValue_41 : decode cX0_storeValue 41 = .ok (.ireturn, 1) := by decide +kernel
set_option maxRecDepth 20000 in
theorem ggX0_storeRounded_X0_storeZero : GoodIn wsX0_storeRounded wsX0_storeZero := goodIn_r _ [10, 3, 5, 16, 17, 18] (by decide +kernel) (by decide +kernel)
set_option maxRecDepth 20000 in
theorem gX0_storeRounded_X0_storeZero : GoodIn wsX0_storeRounded (wsV RX0 93 RX0 yX0_storeZero wsX0_storeZero) := goodIn_app (goodIn_of _ (by decide +kernel)) ggX0_storeRounded_X0_storeZero
set_option maxRecDepth 20000 in
theorem ggX0_storeRounded_X0_bitsOf : GoodIn wsX0_storeRounded wsX0_bitsOf := goodIn_r _ [13, 14, 15] (by decide +kernel) (by decide +kernel)
set_option maxRecDepth 20000 in
theorem gX0_storeRounded_X0_bitsOf : GoodIn wsX0_storeRounded (va_wsS RX0 105 yX0_bitsOf wsX0_bitsOf) := goodIn_app (goodIn_of _ (by decide +kernel)) ggX0_storeRounded_X0_bitsOf
theorem dX0_storeRounded_0 : decode cX0_storeRounded 0 = .ok (.lload 5, 2) := by decide +kernel
theorem dX0_storeRounded_2 : decode cX0_storeRounded 2 = .ok (.lconst 0, 1) := by decide +kernel
theorem dX0_storeRounded_3 : decode cX0_storeRounded 3 = .ok (.lcmp, 1) := by decide +kernel
theorem dX0_storeRounded_4 : decode cX0_storeRounded 4 = .ok (.ifCond .ne 10, 3) := by decide +kernel
theorem dX0_storeRounded_7 : decode cX0_storeRounded 7 = .ok (.aload_n 0, 1) := by decide +kernel
theorem dX0_storeRounded_8 : decode cX0_storeRounded 8 = .ok (.iload_n 2, 1) := by decide +kernel
theorem dX0_storeRounded_9 : decode cX0_storeRounded 9 = .ok (.iconst 0, 1) := by decide +kernel
theorem dX0_storeRounded_10 : decode cX0_storeRounded 10 = .ok (.invokevirtual 93, 3) := by decide +kernel
theorem dX0_storeRounded_13 : decode cX0_storeRounded 13 = .ok (.ireturn, 1) := by decide +kernel
theorem dX0_storeRounded_14 : decode cX0_storeRounded 14 = .ok (.iload 4, 2) := by decide +kernel
theorem dX0_storeRounded_16 : decode cX0_storeRounded 16 = .ok (.istore 7, 2) := by decide +kernel
theorem dX0_storeRounded_18 : decode cX0_storeRounded 18 = .ok (.lload 5, 2) := by decide +kernel
theorem dX0_storeRounded_20 : decode cX0_storeRounded 20 = .ok (.lstore 8, 2) := by decide +kernel
theorem dX0_storeRounded_22 : decode cX0_storeRounded 22 = .ok (.iconst 0, 1) := by decide +kernel
theorem dX0_storeRounded_23 : decode cX0_storeRounded 23 = .ok (.istore 10, 2) := by decide +kernel
theorem dX0_storeRounded_25 : decode cX0_storeRounded 25 = .ok (.iload 10, 2) := by decide +kernel
theorem dX0_storeRounded_27 : decode cX0_storeRounded 27 = .ok (.bipush 63, 2) := by decide +kernel
theorem dX0_storeRounded_29 : decode cX0_storeRounded 29 = .ok (.if_icmp .ge 27, 3) := by decide +kernel
theorem dX0_storeRounded_32 : decode cX0_storeRounded 32 = .ok (.lload 8, 2) := by decide +kernel
theorem dX0_storeRounded_34 : decode cX0_storeRounded 34 = .ok (.ldc2_w 103, 3) := by decide +kernel
theorem dX0_storeRounded_37 : decode cX0_storeRounded 37 = .ok (.lcmp, 1) := by decide +kernel
theorem dX0_storeRounded_38 : decode cX0_storeRounded 38 = .ok (.ifCond .ge 18, 3) := by decide +kernel
theorem dX0_storeRounded_41 : decode cX0_storeRounded 41 = .ok (.lload 8, 2) := by decide +kernel
theorem dX0_storeRounded_43 : decode cX0_storeRounded 43 = .ok (.iconst 1, 1) := by decide +kernel
theorem dX0_storeRounded_44 : decode cX0_storeRounded 44 = .ok (.lshl, 1) := by decide +kernel
theorem dX0_storeRounded_45 : decode cX0_storeRounded 45 = .ok (.lstore 8, 2) := by decide +kernel
theorem dX0_storeRounded_47 : decode cX0_storeRounded 47 = .ok (.iinc 7 (-1), 3) := by decide +kernel
theorem dX0_storeRounded_50 : decode cX0_storeRounded 50 = .ok (.iinc 10 1, 3) := by decide +kernel
theorem dX0_storeRounded_53 : decode cX0_storeRounded 53 = .ok (.goto (-28), 3) := by decide +kernel
theorem dX0_storeRounded_56 : decode cX0_storeRounded 56 = .ok (.iload_n 1, 1) := by decide +kernel
theorem dX0_storeRounded_57 : decode cX0_storeRounded 57 = .ok (.iconst 4, 1) := by decide +kernel
theorem dX0_storeRounded_58 : decode cX0_storeRounded 58 = .ok (.if_icmp .ne 8, 3) := by decide +kernel
theorem dX0_storeRounded_61 : decode cX0_storeRounded 61 = .ok (.bipush 39, 2) := by decide +kernel
theorem dX0_storeRounded_63 : decode cX0_storeRounded 63 = .ok (.goto 5, 3) := by decide +kernel
theorem dX0_storeRounded_66 : decode cX0_storeRounded 66 = .ok (.bipush 7, 2) := by decide +kernel
theorem dX0_storeRounded_68 : decode cX0_storeRounded 68 = .ok (.istore 10, 2) := by decide +kernel
theorem dX0_storeRounded_70 : decode cX0_storeRounded 70 = .ok (.lload 8, 2) := by decide +kernel
theorem dX0_storeRounded_72 : decode cX0_storeRounded 72 = .ok (.lconst 1, 1) := by decide +kernel
theorem dX0_storeRounded_73 : decode cX0_storeRounded 73 = .ok (.iload 10, 2) := by decide +kernel
theorem dX0_storeRounded_75 : decode cX0_storeRounded 75 = .ok (.lshl, 1) := by decide +kernel
theorem dX0_storeRounded_76 : decode cX0_storeRounded 76 = .ok (.lconst 1, 1) := by decide +kernel
theorem dX0_storeRounded_77 : decode cX0_storeRounded 77 = .ok (.lsub, 1) := by decide +kernel
theorem dX0_storeRounded_78 : decode cX0_storeRounded 78 = .ok (.land, 1) := by decide +kernel
theorem dX0_storeRounded_79 : decode cX0_storeRounded 79 = .ok (.lconst 0, 1) := by decide +kernel
theorem dX0_storeRounded_80 : decode cX0_storeRounded 80 = .ok (.lcmp, 1) := by decide +kernel
theorem dX0_storeRounded_81 : decode cX0_storeRounded 81 = .ok (.ifCond .eq 7, 3) := by decide +kernel
theorem dX0_storeRounded_84 : decode cX0_storeRounded 84 = .ok (.iconst 1, 1) := by decide +kernel
theorem dX0_storeRounded_85 : decode cX0_storeRounded 85 = .ok (.goto 4, 3) := by decide +kernel
theorem dX0_storeRounded_88 : decode cX0_storeRounded 88 = .ok (.iconst 0, 1) := by decide +kernel
theorem dX0_storeRounded_89 : decode cX0_storeRounded 89 = .ok (.istore 11, 2) := by decide +kernel
theorem dX0_storeRounded_91 : decode cX0_storeRounded 91 = .ok (.lload 8, 2) := by decide +kernel
theorem dX0_storeRounded_93 : decode cX0_storeRounded 93 = .ok (.lconst 1, 1) := by decide +kernel
theorem dX0_storeRounded_94 : decode cX0_storeRounded 94 = .ok (.iload 10, 2) := by decide +kernel
theorem dX0_storeRounded_96 : decode cX0_storeRounded 96 = .ok (.iconst 1, 1) := by decide +kernel
theorem dX0_storeRounded_97 : decode cX0_storeRounded 97 = .ok (.isub, 1) := by decide +kernel
theorem dX0_storeRounded_98 : decode cX0_storeRounded 98 = .ok (.lshl, 1) := by decide +kernel
theorem dX0_storeRounded_99 : decode cX0_storeRounded 99 = .ok (.ladd, 1) := by decide +kernel
theorem dX0_storeRounded_100 : decode cX0_storeRounded 100 = .ok (.iload 10, 2) := by decide +kernel
theorem dX0_storeRounded_102 : decode cX0_storeRounded 102 = .ok (.lushr, 1) := by decide +kernel
theorem dX0_storeRounded_103 : decode cX0_storeRounded 103 = .ok (.iload 10, 2) := by decide +kernel
theorem dX0_storeRounded_105 : decode cX0_storeRounded 105 = .ok (.lshl, 1) := by decide +kernel
theorem dX0_storeRounded_106 : decode cX0_storeRounded 106 = .ok (.lstore 8, 2) := by decide +kernel
theorem dX0_storeRounded_108 : decode cX0_storeRounded 108 = .ok (.lload 8, 2) := by decide +kernel
theorem dX0_storeRounded_110 : decode cX0_storeRounded 110 = .ok (.lconst 0, 1) := by decide +kernel
theorem dX0_storeRounded_111 : decode cX0_storeRounded 111 = .ok (.lcmp, 1) := by decide +kernel
theorem dX0_storeRounded_112 : decode cX0_storeRounded 112 = .ok (.ifCond .ge 12, 3) := by decide +kernel
theorem dX0_storeRounded_115 : decode cX0_storeRounded 115 = .ok (.lload 8, 2) := by decide +kernel
theorem dX0_storeRounded_117 : decode cX0_storeRounded 117 = .ok (.iconst 1, 1) := by decide +kernel
theorem dX0_storeRounded_118 : decode cX0_storeRounded 118 = .ok (.lushr, 1) := by decide +kernel
theorem dX0_storeRounded_119 : decode cX0_storeRounded 119 = .ok (.lstore 8, 2) := by decide +kernel
theorem dX0_storeRounded_121 : decode cX0_storeRounded 121 = .ok (.iinc 7 1, 3) := by decide +kernel
theorem dX0_storeRounded_124 : decode cX0_storeRounded 124 = .ok (.iload 7, 2) := by decide +kernel
theorem dX0_storeRounded_126 : decode cX0_storeRounded 126 = .ok (.sipush 255, 3) := by decide +kernel
theorem dX0_storeRounded_129 : decode cX0_storeRounded 129 = .ok (.if_icmp .le 6, 3) := by decide +kernel
theorem dX0_storeRounded_132 : decode cX0_storeRounded 132 = .ok (.bipush (-2), 2) := by decide +kernel
theorem dX0_storeRounded_134 : decode cX0_storeRounded 134 = .ok (.ireturn, 1) := by decide +kernel
theorem dX0_storeRounded_135 : decode cX0_storeRounded 135 = .ok (.iload 7, 2) := by decide +kernel
theorem dX0_storeRounded_137 : decode cX0_storeRounded 137 = .ok (.iconst 1, 1) := by decide +kernel
theorem dX0_storeRounded_138 : decode cX0_storeRounded 138 = .ok (.if_icmp .ge 22, 3) := by decide +kernel
theorem dX0_storeRounded_141 : decode cX0_storeRounded 141 = .ok (.aload_n 0, 1) := by decide +kernel
theorem dX0_storeRounded_142 : decode cX0_storeRounded 142 = .ok (.getfield 13, 3) := by decide +kernel
theorem dX0_storeRounded_145 : decode cX0_storeRounded 145 = .ok (.ifCond .eq 8, 3) := by decide +kernel
theorem dX0_storeRounded_148 : decode cX0_storeRounded 148 = .ok (.bipush (-3), 2) := by decide +kernel
theorem dX0_storeRounded_150 : decode cX0_storeRounded 150 = .ok (.goto 9, 3) := by decide +kernel
theorem dX0_storeRounded_153 : decode cX0_storeRounded 153 = .ok (.aload_n 0, 1) := by decide +kernel
theorem dX0_storeRounded_154 : decode cX0_storeRounded 154 = .ok (.iload_n 2, 1) := by decide +kernel
theorem dX0_storeRounded_155 : decode cX0_storeRounded 155 = .ok (.iconst 1, 1) := by decide +kernel
theorem dX0_storeRounded_156 : decode cX0_storeRounded 156 = .ok (.invokevirtual 93, 3) := by decide +kernel
theorem dX0_storeRounded_159 : decode cX0_storeRounded 159 = .ok (.ireturn, 1) := by decide +kernel
theorem dX0_storeRounded_160 : decode cX0_storeRounded 160 = .ok (.aload_n 0, 1) := by decide +kernel
theorem dX0_storeRounded_161 : decode cX0_storeRounded 161 = .ok (.getfield 9, 3) := by decide +kernel
theorem dX0_storeRounded_164 : decode cX0_storeRounded 164 = .ok (.iload_n 2, 1) := by decide +kernel
theorem dX0_storeRounded_165 : decode cX0_storeRounded 165 = .ok (.iload_n 3, 1) := by decide +kernel
theorem dX0_storeRounded_166 : decode cX0_storeRounded 166 = .ok (.iload 7, 2) := by decide +kernel
theorem dX0_storeRounded_168 : decode cX0_storeRounded 168 = .ok (.lload 8, 2) := by decide +kernel
theorem dX0_storeRounded_170 : decode cX0_storeRounded 170 = .ok (.bipush 7, 2) := by decide +kernel
theorem dX0_storeRounded_172 : decode cX0_storeRounded 172 = .ok (.lushr, 1) := by decide +kernel
theorem dX0_storeRounded_173 : decode cX0_storeRounded 173 = .ok (.ldc2_w 89, 3) := by decide +kernel
theorem dX0_storeRounded_176 : decode cX0_storeRounded 176 = .ok (.land, 1) := by decide +kernel
theorem dX0_storeRounded_177 : decode cX0_storeRounded 177 = .ok (.invokestatic 105, 3) := by decide +kernel
theorem dX0_storeRounded_180 : decode cX0_storeRounded 180 = .ok (.lastore, 1) := by decide +kernel
theorem dX0_storeRounded_181 : decode cX0_storeRounded 181 = .ok (.aload_n 0, 1) := by decide +kernel
theorem dX0_storeRounded_182 : decode cX0_storeRounded 182 = .ok (.iload 11, 2) := by decide +kernel
theorem dX0_storeRounded_184 : decode cX0_storeRounded 184 = .ok (.putfield 17, 3) := by decide +kernel
theorem dX0_storeRounded_187 : decode cX0_storeRounded 187 = .ok (.iload_n 3, 1) := by decide +kernel
theorem dX0_storeRounded_188 : decode cX0_storeRounded 188 = .ok (.ifCond .eq 8, 3) := by decide +kernel
theorem dX0_storeRounded_191 : decode cX0_storeRounded 191 = .ok (.bipush 8, 2) := by decide +kernel
theorem dX0_storeRounded_193 : decode cX0_storeRounded 193 = .ok (.goto 4, 3) := by decide +kernel
theorem dX0_storeRounded_196 : decode cX0_storeRounded 196 = .ok (.iconst 0, 1) := by decide +kernel
theorem dX0_storeRounded_197 : decode cX0_storeRounded 197 = .ok (.ireturn, 1) := by decide +kernel
set_option maxRecDepth 20000 in
theorem ggX0_storeSum_X0_storeValue : GoodIn wsX0_storeSum wsX0_storeValue := goodIn_r _ [9, 10, 11, 12, 8, 13, 14, 15, 16, 17, 18, 1, 2, 3, 4, 19, 20, 21, 22, 23, 24, 25, 26, 27, 28, 29, 30, 31, 32, 33, 34, 38, 39, 40] (by decide +kernel) (by decide +kernel)
set_option maxRecDepth 20000 in
theorem gX0_storeSum_X0_storeValue : GoodIn wsX0_storeSum (wsV RX0 42 RX0 yX0_storeValue wsX0_storeValue) := goodIn_app (goodIn_of _ (by decide +kernel)) ggX0_storeSum_X0_storeValue
set_option maxRecDepth 20000 in
theorem ggX0_storeSum_X0_exponentOf : GoodIn wsX0_storeSum wsX0_exponentOf := goodIn_r _ [18, 1, 2, 3, 4] (by decide +kernel) (by decide +kernel)
set_option maxRecDepth 20000 in
theorem gX0_storeSum_X0_exponentOf : GoodIn wsX0_storeSum (va_wsS RX0 97 yX0_exponentOf wsX0_exponentOf) := goodIn_app (goodIn_of _ (by decide +kernel)) ggX0_storeSum_X0_exponentOf
set_option maxRecDepth 20000 in
theorem ggX0_storeSum_X0_significandOf : GoodIn wsX0_storeSum wsX0_significandOf := goodIn_r _ [21, 1, 2, 3, 4, 22, 23] (by decide +kernel) (by decide +kernel)
set_option maxRecDepth 20000 in
theorem gX0_storeSum_X0_significandOf : GoodIn wsX0_storeSum (va_wsS RX0 100 yX0_significandOf wsX0_significandOf) := goodIn_app (goodIn_of _ (by decide +kernel)) ggX0_storeSum_X0_significandOf
set_option maxRecDepth 20000 in
theorem ggX0_storeSum_X0_shiftedDown : GoodIn wsX0_storeSum wsX0_shiftedDown := goodIn_r _ [37] (by decide +kernel) (by decide +kernel)
set_option maxRecDepth 20000 in
theorem gX0_storeSum_X0_shiftedDown : GoodIn wsX0_storeSum (va_wsS RX0 109 yX0_shiftedDown wsX0_shiftedDown) := goodIn_app (goodIn_of _ (by decide +kernel)) ggX0_storeSum_X0_shiftedDown
set_option maxRecDepth 20000 in
theorem ggX0_storeSum_X0_storeRounded : GoodIn wsX0_storeSum wsX0_storeRounded := goodIn_r _ [27, 28, 29, 14, 22, 15, 10, 11, 12, 8, 13, 30, 31, 32, 33, 34, 38, 39, 40] (by decide +kernel) (by decide +kernel)
set_option maxRecDepth 20000 in
theorem gX0_storeSum_X0_storeRounded : GoodIn wsX0_storeSum (wsV RX0 69 RX0 yX0_storeRounded wsX0_storeRounded) := goodIn_app (goodIn_of _ (by decide +kernel)) ggX0_storeSum_X0_storeRounded
theorem dX0_storeSum_0 : decode cX0_storeSum 0 = .ok (.lload_n 3, 1) := by decide +kernel
theorem dX0_storeSum_1 : decode cX0_storeSum 1 = .ok (.lconst 0, 1) := by decide +kernel
theorem dX0_storeSum_2 : decode cX0_storeSum 2 = .ok (.lcmp, 1) := by decide +kernel
theorem dX0_storeSum_3 : decode cX0_storeSum 3 = .ok (.ifCond .eq 10, 3) := by decide +kernel
theorem dX0_storeSum_6 : decode cX0_storeSum 6 = .ok (.lload 5, 2) := by decide +kernel
theorem dX0_storeSum_8 : decode cX0_storeSum 8 = .ok (.lconst 0, 1) := by decide +kernel
theorem dX0_storeSum_9 : decode cX0_storeSum 9 = .ok (.lcmp, 1) := by decide +kernel
theorem dX0_storeSum_10 : decode cX0_storeSum 10 = .ok (.ifCond .ne 22, 3) := by decide +kernel
theorem dX0_storeSum_13 : decode cX0_storeSum 13 = .ok (.aload_n 0, 1) := by decide +kernel
theorem dX0_storeSum_14 : decode cX0_storeSum 14 = .ok (.iload_n 1, 1) := by decide +kernel
theorem dX0_storeSum_15 : decode cX0_storeSum 15 = .ok (.iload_n 2, 1) := by decide +kernel
theorem dX0_storeSum_16 : decode cX0_storeSum 16 = .ok (.lload_n 3, 1) := by decide +kernel
theorem dX0_storeSum_17 : decode cX0_storeSum 17 = .ok (.lconst 0, 1) := by decide +kernel
theorem dX0_storeSum_18 : decode cX0_storeSum 18 = .ok (.lcmp, 1) := by decide +kernel
theorem dX0_storeSum_19 : decode cX0_storeSum 19 = .ok (.ifCond .ne 8, 3) := by decide +kernel
theorem dX0_storeSum_22 : decode cX0_storeSum 22 = .ok (.lload 5, 2) := by decide +kernel
theorem dX0_storeSum_24 : decode cX0_storeSum 24 = .ok (.goto 4, 3) := by decide +kernel
theorem dX0_storeSum_27 : decode cX0_storeSum 27 = .ok (.lload_n 3, 1) := by decide +kernel
theorem dX0_storeSum_28 : decode cX0_storeSum 28 = .ok (.invokevirtual 42, 3) := by decide +kernel
theorem dX0_storeSum_31 : decode cX0_storeSum 31 = .ok (.ireturn, 1) := by decide +kernel
theorem dX0_storeSum_32 : decode cX0_storeSum 32 = .ok (.lload_n 3, 1) := by decide +kernel
theorem dX0_storeSum_33 : decode cX0_storeSum 33 = .ok (.invokestatic 63, 3) := by decide +kernel
theorem dX0_storeSum_36 : decode cX0_storeSum 36 = .ok (.lload 5, 2) := by decide +kernel
theorem dX0_storeSum_38 : decode cX0_storeSum 38 = .ok (.invokestatic 63, 3) := by decide +kernel
theorem dX0_storeSum_41 : decode cX0_storeSum 41 = .ok (.lcmp, 1) := by decide +kernel
theorem dX0_storeSum_42 : decode cX0_storeSum 42 = .ok (.ifCond .lt 7, 3) := by decide +kernel
theorem dX0_storeSum_45 : decode cX0_storeSum 45 = .ok (.iconst 1, 1) := by decide +kernel
theorem dX0_storeSum_46 : decode cX0_storeSum 46 = .ok (.goto 4, 3) := by decide +kernel
theorem dX0_storeSum_49 : decode cX0_storeSum 49 = .ok (.iconst 0, 1) := by decide +kernel
theorem dX0_storeSum_50 : decode cX0_storeSum 50 = .ok (.istore 7, 2) := by decide +kernel
theorem dX0_storeSum_52 : decode cX0_storeSum 52 = .ok (.iload 7, 2) := by decide +kernel
theorem dX0_storeSum_54 : decode cX0_storeSum 54 = .ok (.ifCond .eq 7, 3) := by decide +kernel
theorem dX0_storeSum_57 : decode cX0_storeSum 57 = .ok (.lload_n 3, 1) := by decide +kernel
theorem dX0_storeSum_58 : decode cX0_storeSum 58 = .ok (.goto 5, 3) := by decide +kernel
theorem dX0_storeSum_61 : decode cX0_storeSum 61 = .ok (.lload 5, 2) := by decide +kernel
theorem dX0_storeSum_63 : decode cX0_storeSum 63 = .ok (.lstore 8, 2) := by decide +kernel
theorem dX0_storeSum_65 : decode cX0_storeSum 65 = .ok (.iload 7, 2) := by decide +kernel
theorem dX0_storeSum_67 : decode cX0_storeSum 67 = .ok (.ifCond .eq 8, 3) := by decide +kernel
theorem dX0_storeSum_70 : decode cX0_storeSum 70 = .ok (.lload 5, 2) := by decide +kernel
theorem dX0_storeSum_72 : decode cX0_storeSum 72 = .ok (.goto 4, 3) := by decide +kernel
theorem dX0_storeSum_75 : decode cX0_storeSum 75 = .ok (.lload_n 3, 1) := by decide +kernel
theorem dX0_storeSum_76 : decode cX0_storeSum 76 = .ok (.lstore 10, 2) := by decide +kernel
theorem dX0_storeSum_78 : decode cX0_storeSum 78 = .ok (.bipush 6, 2) := by decide +kernel
theorem dX0_storeSum_80 : decode cX0_storeSum 80 = .ok (.istore 12, 2) := by decide +kernel
theorem dX0_storeSum_82 : decode cX0_storeSum 82 = .ok (.lload 8, 2) := by decide +kernel
theorem dX0_storeSum_84 : decode cX0_storeSum 84 = .ok (.invokestatic 97, 3) := by decide +kernel
theorem dX0_storeSum_87 : decode cX0_storeSum 87 = .ok (.lload 10, 2) := by decide +kernel
theorem dX0_storeSum_89 : decode cX0_storeSum 89 = .ok (.invokestatic 97, 3) := by decide +kernel
theorem dX0_storeSum_92 : decode cX0_storeSum 92 = .ok (.isub, 1) := by decide +kernel
theorem dX0_storeSum_93 : decode cX0_storeSum 93 = .ok (.istore 13, 2) := by decide +kernel
theorem dX0_storeSum_95 : decode cX0_storeSum 95 = .ok (.lload 8, 2) := by decide +kernel
theorem dX0_storeSum_97 : decode cX0_storeSum 97 = .ok (.invokestatic 100, 3) := by decide +kernel
theorem dX0_storeSum_100 : decode cX0_storeSum 100 = .ok (.iload 12, 2) := by decide +kernel
theorem dX0_storeSum_102 : decode cX0_storeSum 102 = .ok (.lshl, 1) := by decide +kernel
theorem dX0_storeSum_103 : decode cX0_storeSum 103 = .ok (.lstore 14, 2) := by decide +kernel
theorem dX0_storeSum_105 : decode cX0_storeSum 105 = .ok (.lload 10, 2) := by decide +kernel
theorem dX0_storeSum_107 : decode cX0_storeSum 107 = .ok (.invokestatic 100, 3) := by decide +kernel
theorem dX0_storeSum_110 : decode cX0_storeSum 110 = .ok (.iload 12, 2) := by decide +kernel
theorem dX0_storeSum_112 : decode cX0_storeSum 112 = .ok (.lshl, 1) := by decide +kernel
theorem dX0_storeSum_113 : decode cX0_storeSum 113 = .ok (.iload 13, 2) := by decide +kernel
theorem dX0_storeSum_115 : decode cX0_storeSum 115 = .ok (.invokestatic 109, 3) := by decide +kernel
theorem dX0_storeSum_118 : decode cX0_storeSum 118 = .ok (.lstore 16, 2) := by decide +kernel
theorem dX0_storeSum_120 : decode cX0_storeSum 120 = .ok (.lload 8, 2) := by decide +kernel
theorem dX0_storeSum_122 : decode cX0_storeSum 122 = .ok (.lconst 0, 1) := by decide +kernel
theorem dX0_storeSum_123 : decode cX0_storeSum 123 = .ok (.lcmp, 1) := by decide +kernel
theorem dX0_storeSum_124 : decode cX0_storeSum 124 = .ok (.ifCond .ge 7, 3) := by decide +kernel
theorem dX0_storeSum_127 : decode cX0_storeSum 127 = .ok (.iconst 1, 1) := by decide +kernel
theorem dX0_storeSum_128 : decode cX0_storeSum 128 = .ok (.goto 4, 3) := by decide +kernel
theorem dX0_storeSum_131 : decode cX0_storeSum 131 = .ok (.iconst 0, 1) := by decide +kernel
theorem dX0_storeSum_132 : decode cX0_storeSum 132 = .ok (.lload 10, 2) := by decide +kernel
theorem dX0_storeSum_134 : decode cX0_storeSum 134 = .ok (.lconst 0, 1) := by decide +kernel
theorem dX0_storeSum_135 : decode cX0_storeSum 135 = .ok (.lcmp, 1) := by decide +kernel
theorem dX0_storeSum_136 : decode cX0_storeSum 136 = .ok (.ifCond .ge 7, 3) := by decide +kernel
theorem dX0_storeSum_139 : decode cX0_storeSum 139 = .ok (.iconst 1, 1) := by decide +kernel
theorem dX0_storeSum_140 : decode cX0_storeSum 140 = .ok (.goto 4, 3) := by decide +kernel
theorem dX0_storeSum_143 : decode cX0_storeSum 143 = .ok (.iconst 0, 1) := by decide +kernel
theorem dX0_storeSum_144 : decode cX0_storeSum 144 = .ok (.if_icmp .ne 7, 3) := by decide +kernel
theorem dX0_storeSum_147 : decode cX0_storeSum 147 = .ok (.iconst 1, 1) := by decide +kernel
theorem dX0_storeSum_148 : decode cX0_storeSum 148 = .ok (.goto 4, 3) := by decide +kernel
theorem dX0_storeSum_151 : decode cX0_storeSum 151 = .ok (.iconst 0, 1) := by decide +kernel
theorem dX0_storeSum_152 : decode cX0_storeSum 152 = .ok (.istore 18, 2) := by decide +kernel
theorem dX0_storeSum_154 : decode cX0_storeSum 154 = .ok (.iload 18, 2) := by decide +kernel
theorem dX0_storeSum_156 : decode cX0_storeSum 156 = .ok (.ifCond .eq 11, 3) := by decide +kernel
theorem dX0_storeSum_159 : decode cX0_storeSum 159 = .ok (.lload 14, 2) := by decide +kernel
theorem dX0_storeSum_161 : decode cX0_storeSum 161 = .ok (.lload 16, 2) := by decide +kernel
theorem dX0_storeSum_163 : decode cX0_storeSum 163 = .ok (.ladd, 1) := by decide +kernel
theorem dX0_storeSum_164 : decode cX0_storeSum 164 = .ok (.goto 8, 3) := by decide +kernel
theorem dX0_storeSum_167 : decode cX0_storeSum 167 = .ok (.lload 14, 2) := by decide +kernel
theorem dX0_storeSum_169 : decode cX0_storeSum 169 = .ok (.lload 16, 2) := by decide +kernel
theorem dX0_storeSum_171 : decode cX0_storeSum 171 = .ok (.lsub, 1) := by decide +kernel
theorem dX0_storeSum_172 : decode cX0_storeSum 172 = .ok (.lstore 19, 2) := by decide +kernel
theorem dX0_storeSum_174 : decode cX0_storeSum 174 = .ok (.aload_n 0, 1) := by decide +kernel
theorem dX0_storeSum_175 : decode cX0_storeSum 175 = .ok (.iload_n 1, 1) := by decide +kernel
theorem dX0_storeSum_176 : decode cX0_storeSum 176 = .ok (.iload_n 2, 1) := by decide +kernel
theorem dX0_storeSum_177 : decode cX0_storeSum 177 = .ok (.lload 8, 2) := by decide +kernel
theorem dX0_storeSum_179 : decode cX0_storeSum 179 = .ok (.lconst 0, 1) := by decide +kernel
theorem dX0_storeSum_180 : decode cX0_storeSum 180 = .ok (.lcmp, 1) := by decide +kernel
theorem dX0_storeSum_181 : decode cX0_storeSum 181 = .ok (.ifCond .ge 7, 3) := by decide +kernel
theorem dX0_storeSum_184 : decode cX0_storeSum 184 = .ok (.iconst 1, 1) := by decide +kernel
theorem dX0_storeSum_185 : decode cX0_storeSum 185 = .ok (.goto 4, 3) := by decide +kernel
theorem dX0_storeSum_188 : decode cX0_storeSum 188 = .ok (.iconst 0, 1) := by decide +kernel
theorem dX0_storeSum_189 : decode cX0_storeSum 189 = .ok (.lload 8, 2) := by decide +kernel
theorem dX0_storeSum_191 : decode cX0_storeSum 191 = .ok (.invokestatic 97, 3) := by decide +kernel
theorem dX0_storeSum_194 : decode cX0_storeSum 194 = .ok (.iconst 1, 1) := by decide +kernel
theorem dX0_storeSum_195 : decode cX0_storeSum 195 = .ok (.iadd, 1) := by decide +kernel
theorem dX0_storeSum_196 : decode cX0_storeSum 196 = .ok (.lload 19, 2) := by decide +kernel
theorem dX0_storeSum_198 : decode cX0_storeSum 198 = .ok (.invokevirtual 69, 3) := by decide +kernel
theorem dX0_storeSum_201 : decode cX0_storeSum 201 = .ok (.ireturn, 1) := by decide +kernel
theorem dX0_shiftedDown_0 : decode cX0_shiftedDown 0 = .ok (.iload_n 2, 1) := by decide +kernel
theorem dX0_shiftedDown_1 : decode cX0_shiftedDown 1 = .ok (.bipush 63, 2) := by decide +kernel
theorem dX0_shiftedDown_3 : decode cX0_shiftedDown 3 = .ok (.if_icmp .lt 5, 3) := by decide +kernel
theorem dX0_shiftedDown_6 : decode cX0_shiftedDown 6 = .ok (.lconst 1, 1) := by decide +kernel
theorem dX0_shiftedDown_7 : decode cX0_shiftedDown 7 = .ok (.lreturn, 1) := by decide +kernel
theorem dX0_shiftedDown_8 : decode cX0_shiftedDown 8 = .ok (.lload_n 0, 1) := by decide +kernel
theorem dX0_shiftedDown_9 : decode cX0_shiftedDown 9 = .ok (.iload_n 2, 1) := by decide +kernel
theorem dX0_shiftedDown_10 : decode cX0_shiftedDown 10 = .ok (.lushr, 1) := by decide +kernel
theorem dX0_shiftedDown_11 : decode cX0_shiftedDown 11 = .ok (.lstore_n 3, 1) := by decide +kernel
theorem dX0_shiftedDown_12 : decode cX0_shiftedDown 12 = .ok (.lload_n 3, 1) := by decide +kernel
theorem dX0_shiftedDown_13 : decode cX0_shiftedDown 13 = .ok (.iload_n 2, 1) := by decide +kernel
theorem dX0_shiftedDown_14 : decode cX0_shiftedDown 14 = .ok (.lshl, 1) := by decide +kernel
theorem dX0_shiftedDown_15 : decode cX0_shiftedDown 15 = .ok (.lload_n 0, 1) := by decide +kernel
theorem dX0_shiftedDown_16 : decode cX0_shiftedDown 16 = .ok (.lcmp, 1) := by decide +kernel
theorem dX0_shiftedDown_17 : decode cX0_shiftedDown 17 = .ok (.ifCond .ne 7, 3) := by decide +kernel
theorem dX0_shiftedDown_20 : decode cX0_shiftedDown 20 = .ok (.lload_n 3, 1) := by decide +kernel
theorem dX0_shiftedDown_21 : decode cX0_shiftedDown 21 = .ok (.goto 6, 3) := by decide +kernel
theorem dX0_shiftedDown_24 : decode cX0_shiftedDown 24 = .ok (.lload_n 3, 1) := by decide +kernel
theorem dX0_shiftedDown_25 : decode cX0_shiftedDown 25 = .ok (.lconst 1, 1) := by decide +kernel
theorem dX0_shiftedDown_26 : decode cX0_shiftedDown 26 = .ok (.lor, 1) := by decide +kernel
theorem dX0_shiftedDown_27 : decode cX0_shiftedDown 27 = .ok (.lreturn, 1) := by decide +kernel
set_option maxRecDepth 20000 in
theorem ggX0_storeProduct_X0_storeZero : GoodIn wsX0_storeProduct wsX0_storeZero := goodIn_r _ [5, 6, 7, 36, 37, 38] (by decide +kernel) (by decide +kernel)
set_option maxRecDepth 20000 in
theorem gX0_storeProduct_X0_storeZero : GoodIn wsX0_storeProduct (wsV RX0 93 RX0 yX0_storeZero wsX0_storeZero) := goodIn_app (goodIn_of _ (by decide +kernel)) ggX0_storeProduct_X0_storeZero
set_option maxRecDepth 20000 in
theorem ggX0_storeProduct_X0_significandOf : GoodIn wsX0_storeProduct wsX0_significandOf := goodIn_r _ [10, 11, 12, 13, 14, 15, 16] (by decide +kernel) (by decide +kernel)
set_option maxRecDepth 20000 in
theorem gX0_storeProduct_X0_significandOf : GoodIn wsX0_storeProduct (va_wsS RX0 100 yX0_significandOf wsX0_significandOf) := goodIn_app (goodIn_of _ (by decide +kernel)) ggX0_storeProduct_X0_significandOf
set_option maxRecDepth 20000 in
theorem ggX0_storeProduct_X0_wideProduct : GoodIn wsX0_storeProduct wsX0_wideProduct := goodIn_r _ [19, 20, 21] (by decide +kernel) (by decide +kernel)
set_option maxRecDepth 20000 in
theorem gX0_storeProduct_X0_wideProduct : GoodIn wsX0_storeProduct (va_wsS RX0 113 yX0_wideProduct wsX0_wideProduct) := goodIn_app (goodIn_of _ (by decide +kernel)) ggX0_storeProduct_X0_wideProduct
set_option maxRecDepth 20000 in
theorem ggX0_storeProduct_X0_exponentOf : GoodIn wsX0_storeProduct wsX0_exponentOf := goodIn_r _ [24, 11, 12, 13, 14] (by decide +kernel) (by decide +kernel)
set_option maxRecDepth 20000 in
theorem gX0_storeProduct_X0_exponentOf : GoodIn wsX0_storeProduct (va_wsS RX0 97 yX0_exponentOf wsX0_exponentOf) := goodIn_app (goodIn_of _ (by decide +kernel)) ggX0_storeProduct_X0_exponentOf
set_option maxRecDepth 20000 in
theorem ggX0_storeProduct_X0_storeRounded : GoodIn wsX0_storeProduct wsX0_storeRounded := goodIn_r _ [28, 29, 30, 6, 15, 7, 1, 2, 3, 4, 5, 31, 32, 33, 34, 35, 36, 37, 38] (by decide +kernel) (by decide +kernel)
set_option maxRecDepth 20000 in
theorem gX0_storeProduct_X0_storeRounded : GoodIn wsX0_storeProduct (wsV RX0 69 RX0 yX0_storeRounded wsX0_storeRounded) := goodIn_app (goodIn_of _ (by decide +kernel)) ggX0_storeProduct_X0_storeRounded
theorem dX0_storeProduct_0 : decode cX0_storeProduct 0 = .ok (.lload_n 3, 1) := by decide +kernel
theorem dX0_storeProduct_1 : decode cX0_storeProduct 1 = .ok (.lconst 0, 1) := by decide +kernel
theorem dX0_storeProduct_2 : decode cX0_storeProduct 2 = .ok (.lcmp, 1) := by decide +kernel
theorem dX0_storeProduct_3 : decode cX0_storeProduct 3 = .ok (.ifCond .eq 10, 3) := by decide +kernel
theorem dX0_storeProduct_6 : decode cX0_storeProduct 6 = .ok (.lload 5, 2) := by decide +kernel
theorem dX0_storeProduct_8 : decode cX0_storeProduct 8 = .ok (.lconst 0, 1) := by decide +kernel
theorem dX0_storeProduct_9 : decode cX0_storeProduct 9 = .ok (.lcmp, 1) := by decide +kernel
theorem dX0_storeProduct_10 : decode cX0_storeProduct 10 = .ok (.ifCond .ne 10, 3) := by decide +kernel
theorem dX0_storeProduct_13 : decode cX0_storeProduct 13 = .ok (.aload_n 0, 1) := by decide +kernel
theorem dX0_storeProduct_14 : decode cX0_storeProduct 14 = .ok (.iload_n 2, 1) := by decide +kernel
theorem dX0_storeProduct_15 : decode cX0_storeProduct 15 = .ok (.iconst 0, 1) := by decide +kernel
theorem dX0_storeProduct_16 : decode cX0_storeProduct 16 = .ok (.invokevirtual 93, 3) := by decide +kernel
theorem dX0_storeProduct_19 : decode cX0_storeProduct 19 = .ok (.ireturn, 1) := by decide +kernel
theorem dX0_storeProduct_20 : decode cX0_storeProduct 20 = .ok (.lload_n 3, 1) := by decide +kernel
theorem dX0_storeProduct_21 : decode cX0_storeProduct 21 = .ok (.invokestatic 100, 3) := by decide +kernel
theorem dX0_storeProduct_24 : decode cX0_storeProduct 24 = .ok (.lload 5, 2) := by decide +kernel
theorem dX0_storeProduct_26 : decode cX0_storeProduct 26 = .ok (.invokestatic 100, 3) := by decide +kernel
theorem dX0_storeProduct_29 : decode cX0_storeProduct 29 = .ok (.invokestatic 113, 3) := by decide +kernel
theorem dX0_storeProduct_32 : decode cX0_storeProduct 32 = .ok (.lstore 7, 2) := by decide +kernel
theorem dX0_storeProduct_34 : decode cX0_storeProduct 34 = .ok (.aload_n 0, 1) := by decide +kernel
theorem dX0_storeProduct_35 : decode cX0_storeProduct 35 = .ok (.iload_n 1, 1) := by decide +kernel
theorem dX0_storeProduct_36 : decode cX0_storeProduct 36 = .ok (.iload_n 2, 1) := by decide +kernel
theorem dX0_storeProduct_37 : decode cX0_storeProduct 37 = .ok (.lload_n 3, 1) := by decide +kernel
theorem dX0_storeProduct_38 : decode cX0_storeProduct 38 = .ok (.lconst 0, 1) := by decide +kernel
theorem dX0_storeProduct_39 : decode cX0_storeProduct 39 = .ok (.lcmp, 1) := by decide +kernel
theorem dX0_storeProduct_40 : decode cX0_storeProduct 40 = .ok (.ifCond .ge 7, 3) := by decide +kernel
theorem dX0_storeProduct_43 : decode cX0_storeProduct 43 = .ok (.iconst 1, 1) := by decide +kernel
theorem dX0_storeProduct_44 : decode cX0_storeProduct 44 = .ok (.goto 4, 3) := by decide +kernel
theorem dX0_storeProduct_47 : decode cX0_storeProduct 47 = .ok (.iconst 0, 1) := by decide +kernel
theorem dX0_storeProduct_48 : decode cX0_storeProduct 48 = .ok (.lload 5, 2) := by decide +kernel
theorem dX0_storeProduct_50 : decode cX0_storeProduct 50 = .ok (.lconst 0, 1) := by decide +kernel
theorem dX0_storeProduct_51 : decode cX0_storeProduct 51 = .ok (.lcmp, 1) := by decide +kernel
theorem dX0_storeProduct_52 : decode cX0_storeProduct 52 = .ok (.ifCond .ge 7, 3) := by decide +kernel
theorem dX0_storeProduct_55 : decode cX0_storeProduct 55 = .ok (.iconst 1, 1) := by decide +kernel
theorem dX0_storeProduct_56 : decode cX0_storeProduct 56 = .ok (.goto 4, 3) := by decide +kernel
theorem dX0_storeProduct_59 : decode cX0_storeProduct 59 = .ok (.iconst 0, 1) := by decide +kernel
theorem dX0_storeProduct_60 : decode cX0_storeProduct 60 = .ok (.if_icmp .eq 7, 3) := by decide +kernel
theorem dX0_storeProduct_63 : decode cX0_storeProduct 63 = .ok (.iconst 1, 1) := by decide +kernel
theorem dX0_storeProduct_64 : decode cX0_storeProduct 64 = .ok (.goto 4, 3) := by decide +kernel
theorem dX0_storeProduct_67 : decode cX0_storeProduct 67 = .ok (.iconst 0, 1) := by decide +kernel
theorem dX0_storeProduct_68 : decode cX0_storeProduct 68 = .ok (.lload_n 3, 1) := by decide +kernel
theorem dX0_storeProduct_69 : decode cX0_storeProduct 69 = .ok (.invokestatic 97, 3) := by decide +kernel
theorem dX0_storeProduct_72 : decode cX0_storeProduct 72 = .ok (.lload 5, 2) := by decide +kernel
theorem dX0_storeProduct_74 : decode cX0_storeProduct 74 = .ok (.invokestatic 97, 3) := by decide +kernel
theorem dX0_storeProduct_77 : decode cX0_storeProduct 77 = .ok (.iadd, 1) := by decide +kernel
theorem dX0_storeProduct_78 : decode cX0_storeProduct 78 = .ok (.sipush 128, 3) := by decide +kernel
theorem dX0_storeProduct_81 : decode cX0_storeProduct 81 = .ok (.isub, 1) := by decide +kernel
theorem dX0_storeProduct_82 : decode cX0_storeProduct 82 = .ok (.lload 7, 2) := by decide +kernel
theorem dX0_storeProduct_84 : decode cX0_storeProduct 84 = .ok (.invokevirtual 69, 3) := by decide +kernel
theorem dX0_storeProduct_87 : decode cX0_storeProduct 87 = .ok (.ireturn, 1) := by decide +kernel
theorem dX0_wideProduct_0 : decode cX0_wideProduct 0 = .ok (.lload_n 0, 1) := by decide +kernel
theorem dX0_wideProduct_1 : decode cX0_wideProduct 1 = .ok (.bipush 28, 2) := by decide +kernel
theorem dX0_wideProduct_3 : decode cX0_wideProduct 3 = .ok (.lushr, 1) := by decide +kernel
theorem dX0_wideProduct_4 : decode cX0_wideProduct 4 = .ok (.lstore 4, 2) := by decide +kernel
theorem dX0_wideProduct_6 : decode cX0_wideProduct 6 = .ok (.lload_n 0, 1) := by decide +kernel
theorem dX0_wideProduct_7 : decode cX0_wideProduct 7 = .ok (.ldc2_w 117, 3) := by decide +kernel
theorem dX0_wideProduct_10 : decode cX0_wideProduct 10 = .ok (.land, 1) := by decide +kernel
theorem dX0_wideProduct_11 : decode cX0_wideProduct 11 = .ok (.lstore 6, 2) := by decide +kernel
theorem dX0_wideProduct_13 : decode cX0_wideProduct 13 = .ok (.lload_n 2, 1) := by decide +kernel
theorem dX0_wideProduct_14 : decode cX0_wideProduct 14 = .ok (.bipush 28, 2) := by decide +kernel
theorem dX0_wideProduct_16 : decode cX0_wideProduct 16 = .ok (.lushr, 1) := by decide +kernel
theorem dX0_wideProduct_17 : decode cX0_wideProduct 17 = .ok (.lstore 8, 2) := by decide +kernel
theorem dX0_wideProduct_19 : decode cX0_wideProduct 19 = .ok (.lload_n 2, 1) := by decide +kernel
theorem dX0_wideProduct_20 : decode cX0_wideProduct 20 = .ok (.ldc2_w 117, 3) := by decide +kernel
theorem dX0_wideProduct_23 : decode cX0_wideProduct 23 = .ok (.land, 1) := by decide +kernel
theorem dX0_wideProduct_24 : decode cX0_wideProduct 24 = .ok (.lstore 10, 2) := by decide +kernel
theorem dX0_wideProduct_26 : decode cX0_wideProduct 26 = .ok (.lload 4, 2) := by decide +kernel
theorem dX0_wideProduct_28 : decode cX0_wideProduct 28 = .ok (.lload 10, 2) := by decide +kernel
theorem dX0_wideProduct_30 : decode cX0_wideProduct 30 = .ok (.lmul, 1) := by decide +kernel
theorem dX0_wideProduct_31 : decode cX0_wideProduct 31 = .ok (.lload 6, 2) := by decide +kernel
theorem dX0_wideProduct_33 : decode cX0_wideProduct 33 = .ok (.lload 8, 2) := by decide +kernel
theorem dX0_wideProduct_35 : decode cX0_wideProduct 35 = .ok (.lmul, 1) := by decide +kernel
theorem dX0_wideProduct_36 : decode cX0_wideProduct 36 = .ok (.ladd, 1) := by decide +kernel
theorem dX0_wideProduct_37 : decode cX0_wideProduct 37 = .ok (.lstore 12, 2) := by decide +kernel
theorem dX0_wideProduct_39 : decode cX0_wideProduct 39 = .ok (.lload 6, 2) := by decide +kernel
theorem dX0_wideProduct_41 : decode cX0_wideProduct 41 = .ok (.lload 10, 2) := by decide +kernel
theorem dX0_wideProduct_43 : decode cX0_wideProduct 43 = .ok (.lmul, 1) := by decide +kernel
theorem dX0_wideProduct_44 : decode cX0_wideProduct 44 = .ok (.lload 12, 2) := by decide +kernel
theorem dX0_wideProduct_46 : decode cX0_wideProduct 46 = .ok (.ldc2_w 117, 3) := by decide +kernel
theorem dX0_wideProduct_49 : decode cX0_wideProduct 49 = .ok (.land, 1) := by decide +kernel
theorem dX0_wideProduct_50 : decode cX0_wideProduct 50 = .ok (.bipush 28, 2) := by decide +kernel
theorem dX0_wideProduct_52 : decode cX0_wideProduct 52 = .ok (.lshl, 1) := by decide +kernel
theorem dX0_wideProduct_53 : decode cX0_wideProduct 53 = .ok (.ladd, 1) := by decide +kernel
theorem dX0_wideProduct_54 : decode cX0_wideProduct 54 = .ok (.lstore 14, 2) := by decide +kernel
theorem dX0_wideProduct_56 : decode cX0_wideProduct 56 = .ok (.lload 4, 2) := by decide +kernel
theorem dX0_wideProduct_58 : decode cX0_wideProduct 58 = .ok (.lload 8, 2) := by decide +kernel
theorem dX0_wideProduct_60 : decode cX0_wideProduct 60 = .ok (.lmul, 1) := by decide +kernel
theorem dX0_wideProduct_61 : decode cX0_wideProduct 61 = .ok (.lload 12, 2) := by decide +kernel
theorem dX0_wideProduct_63 : decode cX0_wideProduct 63 = .ok (.bipush 28, 2) := by decide +kernel
theorem dX0_wideProduct_65 : decode cX0_wideProduct 65 = .ok (.lushr, 1) := by decide +kernel
theorem dX0_wideProduct_66 : decode cX0_wideProduct 66 = .ok (.ladd, 1) := by decide +kernel
theorem dX0_wideProduct_67 : decode cX0_wideProduct 67 = .ok (.lload 14, 2) := by decide +kernel
theorem dX0_wideProduct_69 : decode cX0_wideProduct 69 = .ok (.bipush 56, 2) := by decide +kernel
theorem dX0_wideProduct_71 : decode cX0_wideProduct 71 = .ok (.lushr, 1) := by decide +kernel
theorem dX0_wideProduct_72 : decode cX0_wideProduct 72 = .ok (.ladd, 1) := by decide +kernel
theorem dX0_wideProduct_73 : decode cX0_wideProduct 73 = .ok (.lstore 16, 2) := by decide +kernel
theorem dX0_wideProduct_75 : decode cX0_wideProduct 75 = .ok (.lload 14, 2) := by decide +kernel
theorem dX0_wideProduct_77 : decode cX0_wideProduct 77 = .ok (.ldc2_w 119, 3) := by decide +kernel
theorem dX0_wideProduct_80 : decode cX0_wideProduct 80 = .ok (.land, 1) := by decide +kernel
theorem dX0_wideProduct_81 : decode cX0_wideProduct 81 = .ok (.lstore 18, 2) := by decide +kernel
theorem dX0_wideProduct_83 : decode cX0_wideProduct 83 = .ok (.bipush 49, 2) := by decide +kernel
theorem dX0_wideProduct_85 : decode cX0_wideProduct 85 = .ok (.istore 20, 2) := by decide +kernel
theorem dX0_wideProduct_87 : decode cX0_wideProduct 87 = .ok (.lload 16, 2) := by decide +kernel
theorem dX0_wideProduct_89 : decode cX0_wideProduct 89 = .ok (.bipush 7, 2) := by decide +kernel
theorem dX0_wideProduct_91 : decode cX0_wideProduct 91 = .ok (.lshl, 1) := by decide +kernel
theorem dX0_wideProduct_92 : decode cX0_wideProduct 92 = .ok (.lload 18, 2) := by decide +kernel
theorem dX0_wideProduct_94 : decode cX0_wideProduct 94 = .ok (.iload 20, 2) := by decide +kernel
theorem dX0_wideProduct_96 : decode cX0_wideProduct 96 = .ok (.lushr, 1) := by decide +kernel
theorem dX0_wideProduct_97 : decode cX0_wideProduct 97 = .ok (.lor, 1) := by decide +kernel
theorem dX0_wideProduct_98 : decode cX0_wideProduct 98 = .ok (.lstore 21, 2) := by decide +kernel
theorem dX0_wideProduct_100 : decode cX0_wideProduct 100 = .ok (.lload 18, 2) := by decide +kernel
theorem dX0_wideProduct_102 : decode cX0_wideProduct 102 = .ok (.lconst 1, 1) := by decide +kernel
theorem dX0_wideProduct_103 : decode cX0_wideProduct 103 = .ok (.iload 20, 2) := by decide +kernel
theorem dX0_wideProduct_105 : decode cX0_wideProduct 105 = .ok (.lshl, 1) := by decide +kernel
theorem dX0_wideProduct_106 : decode cX0_wideProduct 106 = .ok (.lconst 1, 1) := by decide +kernel
theorem dX0_wideProduct_107 : decode cX0_wideProduct 107 = .ok (.lsub, 1) := by decide +kernel
theorem dX0_wideProduct_108 : decode cX0_wideProduct 108 = .ok (.land, 1) := by decide +kernel
theorem dX0_wideProduct_109 : decode cX0_wideProduct 109 = .ok (.lconst 0, 1) := by decide +kernel
theorem dX0_wideProduct_110 : decode cX0_wideProduct 110 = .ok (.lcmp, 1) := by decide +kernel
theorem dX0_wideProduct_111 : decode cX0_wideProduct 111 = .ok (.ifCond .eq 10, 3) := by decide +kernel
theorem dX0_wideProduct_114 : decode cX0_wideProduct 114 = .ok (.lload 21, 2) := by decide +kernel
theorem dX0_wideProduct_116 : decode cX0_wideProduct 116 = .ok (.lconst 1, 1) := by decide +kernel
theorem dX0_wideProduct_117 : decode cX0_wideProduct 117 = .ok (.lor, 1) := by decide +kernel
theorem dX0_wideProduct_118 : decode cX0_wideProduct 118 = .ok (.goto 5, 3) := by decide +kernel
theorem dX0_wideProduct_121 : decode cX0_wideProduct 121 = .ok (.lload 21, 2) := by decide +kernel
theorem dX0_wideProduct_123 : decode cX0_wideProduct 123 = .ok (.lreturn, 1) := by decide +kernel
set_option maxRecDepth 20000 in
theorem ggX0_storeQuotient_X0_storeZero : GoodIn wsX0_storeQuotient wsX0_storeZero := goodIn_r _ [5, 6, 7, 34, 35, 36] (by decide +kernel) (by decide +kernel)
set_option maxRecDepth 20000 in
theorem gX0_storeQuotient_X0_storeZero : GoodIn wsX0_storeQuotient (wsV RX0 93 RX0 yX0_storeZero wsX0_storeZero) := goodIn_app (goodIn_of _ (by decide +kernel)) ggX0_storeQuotient_X0_storeZero
set_option maxRecDepth 20000 in
theorem ggX0_storeQuotient_X0_significandOf : GoodIn wsX0_storeQuotient wsX0_significandOf := goodIn_r _ [10, 11, 12, 13, 14, 15, 16] (by decide +kernel) (by decide +kernel)
set_option maxRecDepth 20000 in
theorem gX0_storeQuotient_X0_significandOf : GoodIn wsX0_storeQuotient (va_wsS RX0 100 yX0_significandOf wsX0_significandOf) := goodIn_app (goodIn_of _ (by decide +kernel)) ggX0_storeQuotient_X0_significandOf
set_option maxRecDepth 20000 in
theorem ggX0_storeQuotient_X0_wideQuotient : GoodIn wsX0_storeQuotient wsX0_wideQuotient := goodIn_r _ [19] (by decide +kernel) (by decide +kernel)
set_option maxRecDepth 20000 in
theorem gX0_storeQuotient_X0_wideQuotient : GoodIn wsX0_storeQuotient (va_wsS RX0 121 yX0_wideQuotient wsX0_wideQuotient) := goodIn_app (goodIn_of _ (by decide +kernel)) ggX0_storeQuotient_X0_wideQuotient
set_option maxRecDepth 20000 in
theorem ggX0_storeQuotient_X0_exponentOf : GoodIn wsX0_storeQuotient wsX0_exponentOf := goodIn_r _ [22, 11, 12, 13, 14] (by decide +kernel) (by decide +kernel)
set_option maxRecDepth 20000 in
theorem gX0_storeQuotient_X0_exponentOf : GoodIn wsX0_storeQuotient (va_wsS RX0 97 yX0_exponentOf wsX0_exponentOf) := goodIn_app (goodIn_of _ (by decide +kernel)) ggX0_storeQuotient_X0_exponentOf
set_option maxRecDepth 20000 in
theorem ggX0_storeQuotient_X0_storeRounded : GoodIn wsX0_storeQuotient wsX0_storeRounded := goodIn_r _ [26, 27, 28, 6, 15, 7, 1, 2, 3, 4, 5, 29, 30, 31, 32, 33, 34, 35, 36] (by decide +kernel) (by decide +kernel)
set_option maxRecDepth 20000 in
theorem gX0_storeQuotient_X0_storeRounded : GoodIn wsX0_storeQuotient (wsV RX0 69 RX0 yX0_storeRounded wsX0_storeRounded) := goodIn_app (goodIn_of _ (by decide +kernel)) ggX0_storeQuotient_X0_storeRounded
theorem dX0_storeQuotient_0 : decode cX0_storeQuotient 0 = .ok (.lload_n 3, 1) := by decide +kernel
theorem dX0_storeQuotient_1 : decode cX0_storeQuotient 1 = .ok (.lconst 0, 1) := by decide +kernel
theorem dX0_storeQuotient_2 : decode cX0_storeQuotient 2 = .ok (.lcmp, 1) := by decide +kernel
theorem dX0_storeQuotient_3 : decode cX0_storeQuotient 3 = .ok (.ifCond .ne 10, 3) := by decide +kernel
theorem dX0_storeQuotient_6 : decode cX0_storeQuotient 6 = .ok (.aload_n 0, 1) := by decide +kernel
theorem dX0_storeQuotient_7 : decode cX0_storeQuotient 7 = .ok (.iload_n 2, 1) := by decide +kernel
theorem dX0_storeQuotient_8 : decode cX0_storeQuotient 8 = .ok (.iconst 0, 1) := by decide +kernel
theorem dX0_storeQuotient_9 : decode cX0_storeQuotient 9 = .ok (.invokevirtual 93, 3) := by decide +kernel
theorem dX0_storeQuotient_12 : decode cX0_storeQuotient 12 = .ok (.ireturn, 1) := by decide +kernel
theorem dX0_storeQuotient_13 : decode cX0_storeQuotient 13 = .ok (.lload_n 3, 1) := by decide +kernel
theorem dX0_storeQuotient_14 : decode cX0_storeQuotient 14 = .ok (.invokestatic 100, 3) := by decide +kernel
theorem dX0_storeQuotient_17 : decode cX0_storeQuotient 17 = .ok (.lload 5, 2) := by decide +kernel
theorem dX0_storeQuotient_19 : decode cX0_storeQuotient 19 = .ok (.invokestatic 100, 3) := by decide +kernel
theorem dX0_storeQuotient_22 : decode cX0_storeQuotient 22 = .ok (.invokestatic 121, 3) := by decide +kernel
theorem dX0_storeQuotient_25 : decode cX0_storeQuotient 25 = .ok (.lstore 7, 2) := by decide +kernel
theorem dX0_storeQuotient_27 : decode cX0_storeQuotient 27 = .ok (.lload_n 3, 1) := by decide +kernel
theorem dX0_storeQuotient_28 : decode cX0_storeQuotient 28 = .ok (.invokestatic 97, 3) := by decide +kernel
theorem dX0_storeQuotient_31 : decode cX0_storeQuotient 31 = .ok (.lload 5, 2) := by decide +kernel
theorem dX0_storeQuotient_33 : decode cX0_storeQuotient 33 = .ok (.invokestatic 97, 3) := by decide +kernel
theorem dX0_storeQuotient_36 : decode cX0_storeQuotient 36 = .ok (.isub, 1) := by decide +kernel
theorem dX0_storeQuotient_37 : decode cX0_storeQuotient 37 = .ok (.sipush 128, 3) := by decide +kernel
theorem dX0_storeQuotient_40 : decode cX0_storeQuotient 40 = .ok (.iadd, 1) := by decide +kernel
theorem dX0_storeQuotient_41 : decode cX0_storeQuotient 41 = .ok (.iconst 1, 1) := by decide +kernel
theorem dX0_storeQuotient_42 : decode cX0_storeQuotient 42 = .ok (.iadd, 1) := by decide +kernel
theorem dX0_storeQuotient_43 : decode cX0_storeQuotient 43 = .ok (.istore 9, 2) := by decide +kernel
theorem dX0_storeQuotient_45 : decode cX0_storeQuotient 45 = .ok (.aload_n 0, 1) := by decide +kernel
theorem dX0_storeQuotient_46 : decode cX0_storeQuotient 46 = .ok (.iload_n 1, 1) := by decide +kernel
theorem dX0_storeQuotient_47 : decode cX0_storeQuotient 47 = .ok (.iload_n 2, 1) := by decide +kernel
theorem dX0_storeQuotient_48 : decode cX0_storeQuotient 48 = .ok (.lload_n 3, 1) := by decide +kernel
theorem dX0_storeQuotient_49 : decode cX0_storeQuotient 49 = .ok (.lconst 0, 1) := by decide +kernel
theorem dX0_storeQuotient_50 : decode cX0_storeQuotient 50 = .ok (.lcmp, 1) := by decide +kernel
theorem dX0_storeQuotient_51 : decode cX0_storeQuotient 51 = .ok (.ifCond .ge 7, 3) := by decide +kernel
theorem dX0_storeQuotient_54 : decode cX0_storeQuotient 54 = .ok (.iconst 1, 1) := by decide +kernel
theorem dX0_storeQuotient_55 : decode cX0_storeQuotient 55 = .ok (.goto 4, 3) := by decide +kernel
theorem dX0_storeQuotient_58 : decode cX0_storeQuotient 58 = .ok (.iconst 0, 1) := by decide +kernel
theorem dX0_storeQuotient_59 : decode cX0_storeQuotient 59 = .ok (.lload 5, 2) := by decide +kernel
theorem dX0_storeQuotient_61 : decode cX0_storeQuotient 61 = .ok (.lconst 0, 1) := by decide +kernel
theorem dX0_storeQuotient_62 : decode cX0_storeQuotient 62 = .ok (.lcmp, 1) := by decide +kernel
theorem dX0_storeQuotient_63 : decode cX0_storeQuotient 63 = .ok (.ifCond .ge 7, 3) := by decide +kernel
theorem dX0_storeQuotient_66 : decode cX0_storeQuotient 66 = .ok (.iconst 1, 1) := by decide +kernel
theorem dX0_storeQuotient_67 : decode cX0_storeQuotient 67 = .ok (.goto 4, 3) := by decide +kernel
theorem dX0_storeQuotient_70 : decode cX0_storeQuotient 70 = .ok (.iconst 0, 1) := by decide +kernel
theorem dX0_storeQuotient_71 : decode cX0_storeQuotient 71 = .ok (.if_icmp .eq 7, 3) := by decide +kernel
theorem dX0_storeQuotient_74 : decode cX0_storeQuotient 74 = .ok (.iconst 1, 1) := by decide +kernel
theorem dX0_storeQuotient_75 : decode cX0_storeQuotient 75 = .ok (.goto 4, 3) := by decide +kernel
theorem dX0_storeQuotient_78 : decode cX0_storeQuotient 78 = .ok (.iconst 0, 1) := by decide +kernel
theorem dX0_storeQuotient_79 : decode cX0_storeQuotient 79 = .ok (.iload 9, 2) := by decide +kernel
theorem dX0_storeQuotient_81 : decode cX0_storeQuotient 81 = .ok (.lload 7, 2) := by decide +kernel
theorem dX0_storeQuotient_83 : decode cX0_storeQuotient 83 = .ok (.invokevirtual 69, 3) := by decide +kernel
theorem dX0_storeQuotient_86 : decode cX0_storeQuotient 86 = .ok (.ireturn, 1) := by decide +kernel
theorem dX0_wideQuotient_0 : decode cX0_wideQuotient 0 = .ok (.lload_n 0, 1) := by decide +kernel
theorem dX0_wideQuotient_1 : decode cX0_wideQuotient 1 = .ok (.lstore 4, 2) := by decide +kernel
theorem dX0_wideQuotient_3 : decode cX0_wideQuotient 3 = .ok (.lconst 0, 1) := by decide +kernel
theorem dX0_wideQuotient_4 : decode cX0_wideQuotient 4 = .ok (.lstore 6, 2) := by decide +kernel
theorem dX0_wideQuotient_6 : decode cX0_wideQuotient 6 = .ok (.iconst 0, 1) := by decide +kernel
theorem dX0_wideQuotient_7 : decode cX0_wideQuotient 7 = .ok (.istore 8, 2) := by decide +kernel
theorem dX0_wideQuotient_9 : decode cX0_wideQuotient 9 = .ok (.iload 8, 2) := by decide +kernel
theorem dX0_wideQuotient_11 : decode cX0_wideQuotient 11 = .ok (.bipush 63, 2) := by decide +kernel
theorem dX0_wideQuotient_13 : decode cX0_wideQuotient 13 = .ok (.if_icmp .ge 40, 3) := by decide +kernel
theorem dX0_wideQuotient_16 : decode cX0_wideQuotient 16 = .ok (.lload 6, 2) := by decide +kernel
theorem dX0_wideQuotient_18 : decode cX0_wideQuotient 18 = .ok (.iconst 1, 1) := by decide +kernel
theorem dX0_wideQuotient_19 : decode cX0_wideQuotient 19 = .ok (.lshl, 1) := by decide +kernel
theorem dX0_wideQuotient_20 : decode cX0_wideQuotient 20 = .ok (.lstore 6, 2) := by decide +kernel
theorem dX0_wideQuotient_22 : decode cX0_wideQuotient 22 = .ok (.lload 4, 2) := by decide +kernel
theorem dX0_wideQuotient_24 : decode cX0_wideQuotient 24 = .ok (.lload_n 2, 1) := by decide +kernel
theorem dX0_wideQuotient_25 : decode cX0_wideQuotient 25 = .ok (.lcmp, 1) := by decide +kernel
theorem dX0_wideQuotient_26 : decode cX0_wideQuotient 26 = .ok (.ifCond .lt 15, 3) := by decide +kernel
theorem dX0_wideQuotient_29 : decode cX0_wideQuotient 29 = .ok (.lload 4, 2) := by decide +kernel
theorem dX0_wideQuotient_31 : decode cX0_wideQuotient 31 = .ok (.lload_n 2, 1) := by decide +kernel
theorem dX0_wideQuotient_32 : decode cX0_wideQuotient 32 = .ok (.lsub, 1) := by decide +kernel
theorem dX0_wideQuotient_33 : decode cX0_wideQuotient 33 = .ok (.lstore 4, 2) := by decide +kernel
theorem dX0_wideQuotient_35 : decode cX0_wideQuotient 35 = .ok (.lload 6, 2) := by decide +kernel
theorem dX0_wideQuotient_37 : decode cX0_wideQuotient 37 = .ok (.lconst 1, 1) := by decide +kernel
theorem dX0_wideQuotient_38 : decode cX0_wideQuotient 38 = .ok (.lor, 1) := by decide +kernel
theorem dX0_wideQuotient_39 : decode cX0_wideQuotient 39 = .ok (.lstore 6, 2) := by decide +kernel
theorem dX0_wideQuotient_41 : decode cX0_wideQuotient 41 = .ok (.lload 4, 2) := by decide +kernel
theorem dX0_wideQuotient_43 : decode cX0_wideQuotient 43 = .ok (.iconst 1, 1) := by decide +kernel
theorem dX0_wideQuotient_44 : decode cX0_wideQuotient 44 = .ok (.lshl, 1) := by decide +kernel
theorem dX0_wideQuotient_45 : decode cX0_wideQuotient 45 = .ok (.lstore 4, 2) := by decide +kernel
theorem dX0_wideQuotient_47 : decode cX0_wideQuotient 47 = .ok (.iinc 8 1, 3) := by decide +kernel
theorem dX0_wideQuotient_50 : decode cX0_wideQuotient 50 = .ok (.goto (-41), 3) := by decide +kernel
theorem dX0_wideQuotient_53 : decode cX0_wideQuotient 53 = .ok (.lload 4, 2) := by decide +kernel
theorem dX0_wideQuotient_55 : decode cX0_wideQuotient 55 = .ok (.lconst 0, 1) := by decide +kernel
theorem dX0_wideQuotient_56 : decode cX0_wideQuotient 56 = .ok (.lcmp, 1) := by decide +kernel
theorem dX0_wideQuotient_57 : decode cX0_wideQuotient 57 = .ok (.ifCond .eq 10, 3) := by decide +kernel
theorem dX0_wideQuotient_60 : decode cX0_wideQuotient 60 = .ok (.lload 6, 2) := by decide +kernel
theorem dX0_wideQuotient_62 : decode cX0_wideQuotient 62 = .ok (.lconst 1, 1) := by decide +kernel
theorem dX0_wideQuotient_63 : decode cX0_wideQuotient 63 = .ok (.lor, 1) := by decide +kernel
theorem dX0_wideQuotient_64 : decode cX0_wideQuotient 64 = .ok (.goto 5, 3) := by decide +kernel
theorem dX0_wideQuotient_67 : decode cX0_wideQuotient 67 = .ok (.lload 6, 2) := by decide +kernel
theorem dX0_wideQuotient_69 : decode cX0_wideQuotient 69 = .ok (.lreturn, 1) := by decide +kernel
set_option maxRecDepth 20000 in
theorem ggX0_wholeOf_X0_exponentOf : GoodIn wsX0_wholeOf wsX0_exponentOf := goodIn_r _ [4, 5, 6, 7, 8] (by decide +kernel) (by decide +kernel)
set_option maxRecDepth 20000 in
theorem gX0_wholeOf_X0_exponentOf : GoodIn wsX0_wholeOf (va_wsS RX0 97 yX0_exponentOf wsX0_exponentOf) := goodIn_app (goodIn_of _ (by decide +kernel)) ggX0_wholeOf_X0_exponentOf
set_option maxRecDepth 20000 in
theorem ggX0_wholeOf_X0_significandOf : GoodIn wsX0_wholeOf wsX0_significandOf := goodIn_r _ [11, 5, 6, 7, 8, 12, 13] (by decide +kernel) (by decide +kernel)
set_option maxRecDepth 20000 in
theorem gX0_wholeOf_X0_significandOf : GoodIn wsX0_wholeOf (va_wsS RX0 100 yX0_significandOf wsX0_significandOf) := goodIn_app (goodIn_of _ (by decide +kernel)) ggX0_wholeOf_X0_significandOf
set_option maxRecDepth 20000 in
theorem ggX0_wholeOf_X0_wholeSize : GoodIn wsX0_wholeOf wsX0_wholeSize := goodIn_r _ [16, 17, 13] (by decide +kernel) (by decide +kernel)
set_option maxRecDepth 20000 in
theorem gX0_wholeOf_X0_wholeSize : GoodIn wsX0_wholeOf (va_wsS RX0 124 yX0_wholeSize wsX0_wholeSize) := goodIn_app (goodIn_of _ (by decide +kernel)) ggX0_wholeOf_X0_wholeSize
theorem dX0_wholeOf_0 : decode cX0_wholeOf 0 = .ok (.lload_n 0, 1) := by decide +kernel
theorem dX0_wholeOf_1 : decode cX0_wholeOf 1 = .ok (.lconst 0, 1) := by decide +kernel
theorem dX0_wholeOf_2 : decode cX0_wholeOf 2 = .ok (.lcmp, 1) := by decide +kernel
theorem dX0_wholeOf_3 : decode cX0_wholeOf 3 = .ok (.ifCond .ne 5, 3) := by decide +kernel
theorem dX0_wholeOf_6 : decode cX0_wholeOf 6 = .ok (.lconst 0, 1) := by decide +kernel
theorem dX0_wholeOf_7 : decode cX0_wholeOf 7 = .ok (.lreturn, 1) := by decide +kernel
theorem dX0_wholeOf_8 : decode cX0_wholeOf 8 = .ok (.lload_n 0, 1) := by decide +kernel
theorem dX0_wholeOf_9 : decode cX0_wholeOf 9 = .ok (.invokestatic 97, 3) := by decide +kernel
theorem dX0_wholeOf_12 : decode cX0_wholeOf 12 = .ok (.sipush 128, 3) := by decide +kernel
theorem dX0_wholeOf_15 : decode cX0_wholeOf 15 = .ok (.isub, 1) := by decide +kernel
theorem dX0_wholeOf_16 : decode cX0_wholeOf 16 = .ok (.bipush 56, 2) := by decide +kernel
theorem dX0_wholeOf_18 : decode cX0_wholeOf 18 = .ok (.isub, 1) := by decide +kernel
theorem dX0_wholeOf_19 : decode cX0_wholeOf 19 = .ok (.istore_n 3, 1) := by decide +kernel
theorem dX0_wholeOf_20 : decode cX0_wholeOf 20 = .ok (.lload_n 0, 1) := by decide +kernel
theorem dX0_wholeOf_21 : decode cX0_wholeOf 21 = .ok (.invokestatic 100, 3) := by decide +kernel
theorem dX0_wholeOf_24 : decode cX0_wholeOf 24 = .ok (.iload_n 3, 1) := by decide +kernel
theorem dX0_wholeOf_25 : decode cX0_wholeOf 25 = .ok (.iload_n 2, 1) := by decide +kernel
theorem dX0_wholeOf_26 : decode cX0_wholeOf 26 = .ok (.invokestatic 124, 3) := by decide +kernel
theorem dX0_wholeOf_29 : decode cX0_wholeOf 29 = .ok (.lstore 4, 2) := by decide +kernel
theorem dX0_wholeOf_31 : decode cX0_wholeOf 31 = .ok (.lload_n 0, 1) := by decide +kernel
theorem dX0_wholeOf_32 : decode cX0_wholeOf 32 = .ok (.lconst 0, 1) := by decide +kernel
theorem dX0_wholeOf_33 : decode cX0_wholeOf 33 = .ok (.lcmp, 1) := by decide +kernel
theorem dX0_wholeOf_34 : decode cX0_wholeOf 34 = .ok (.ifCond .ge 9, 3) := by decide +kernel
theorem dX0_wholeOf_37 : decode cX0_wholeOf 37 = .ok (.lload 4, 2) := by decide +kernel
theorem dX0_wholeOf_39 : decode cX0_wholeOf 39 = .ok (.lneg, 1) := by decide +kernel
theorem dX0_wholeOf_40 : decode cX0_wholeOf 40 = .ok (.goto 5, 3) := by decide +kernel
theorem dX0_wholeOf_43 : decode cX0_wholeOf 43 = .ok (.lload 4, 2) := by decide +kernel
theorem dX0_wholeOf_45 : decode cX0_wholeOf 45 = .ok (.lreturn, 1) := by decide +kernel
theorem dX0_wholeSize_0 : decode cX0_wholeSize 0 = .ok (.iload_n 2, 1) := by decide +kernel
theorem dX0_wholeSize_1 : decode cX0_wholeSize 1 = .ok (.ifCond .lt 29, 3) := by decide +kernel
theorem dX0_wholeSize_4 : decode cX0_wholeSize 4 = .ok (.iload_n 2, 1) := by decide +kernel
theorem dX0_wholeSize_5 : decode cX0_wholeSize 5 = .ok (.bipush 32, 2) := by decide +kernel
theorem dX0_wholeSize_7 : decode cX0_wholeSize 7 = .ok (.if_icmp .ge 13, 3) := by decide +kernel
theorem dX0_wholeSize_10 : decode cX0_wholeSize 10 = .ok (.lload_n 0, 1) := by decide +kernel
theorem dX0_wholeSize_11 : decode cX0_wholeSize 11 = .ok (.iload_n 2, 1) := by decide +kernel
theorem dX0_wholeSize_12 : decode cX0_wholeSize 12 = .ok (.lshl, 1) := by decide +kernel
theorem dX0_wholeSize_13 : decode cX0_wholeSize 13 = .ok (.ldc2_w 80, 3) := by decide +kernel
theorem dX0_wholeSize_16 : decode cX0_wholeSize 16 = .ok (.land, 1) := by decide +kernel
theorem dX0_wholeSize_17 : decode cX0_wholeSize 17 = .ok (.goto 4, 3) := by decide +kernel
theorem dX0_wholeSize_20 : decode cX0_wholeSize 20 = .ok (.lconst 0, 1) := by decide +kernel
theorem dX0_wholeSize_21 : decode cX0_wholeSize 21 = .ok (.lstore 4, 2) := by decide +kernel
theorem dX0_wholeSize_23 : decode cX0_wholeSize 23 = .ok (.lload 4, 2) := by decide +kernel
theorem dX0_wholeSize_25 : decode cX0_wholeSize 25 = .ok (.ldc2_w 91, 3) := by decide +kernel
theorem dX0_wholeSize_28 : decode cX0_wholeSize 28 = .ok (.lor, 1) := by decide +kernel
theorem dX0_wholeSize_29 : decode cX0_wholeSize 29 = .ok (.lreturn, 1) := by decide +kernel
theorem dX0_wholeSize_30 : decode cX0_wholeSize 30 = .ok (.iload_n 2, 1) := by decide +kernel
theorem dX0_wholeSize_31 : decode cX0_wholeSize 31 = .ok (.ineg, 1) := by decide +kernel
theorem dX0_wholeSize_32 : decode cX0_wholeSize 32 = .ok (.istore 4, 2) := by decide +kernel
theorem dX0_wholeSize_34 : decode cX0_wholeSize 34 = .ok (.iload 4, 2) := by decide +kernel
theorem dX0_wholeSize_36 : decode cX0_wholeSize 36 = .ok (.bipush 56, 2) := by decide +kernel
theorem dX0_wholeSize_38 : decode cX0_wholeSize 38 = .ok (.if_icmp .le 5, 3) := by decide +kernel
theorem dX0_wholeSize_41 : decode cX0_wholeSize 41 = .ok (.lconst 0, 1) := by decide +kernel
theorem dX0_wholeSize_42 : decode cX0_wholeSize 42 = .ok (.lreturn, 1) := by decide +kernel
theorem dX0_wholeSize_43 : decode cX0_wholeSize 43 = .ok (.iload_n 3, 1) := by decide +kernel
theorem dX0_wholeSize_44 : decode cX0_wholeSize 44 = .ok (.ifCond .eq 16, 3) := by decide +kernel
theorem dX0_wholeSize_47 : decode cX0_wholeSize 47 = .ok (.lload_n 0, 1) := by decide +kernel
theorem dX0_wholeSize_48 : decode cX0_wholeSize 48 = .ok (.iload 4, 2) := by decide +kernel
theorem dX0_wholeSize_50 : decode cX0_wholeSize 50 = .ok (.iconst 1, 1) := by decide +kernel
theorem dX0_wholeSize_51 : decode cX0_wholeSize 51 = .ok (.isub, 1) := by decide +kernel
theorem dX0_wholeSize_52 : decode cX0_wholeSize 52 = .ok (.lushr, 1) := by decide +kernel
theorem dX0_wholeSize_53 : decode cX0_wholeSize 53 = .ok (.lconst 1, 1) := by decide +kernel
theorem dX0_wholeSize_54 : decode cX0_wholeSize 54 = .ok (.ladd, 1) := by decide +kernel
theorem dX0_wholeSize_55 : decode cX0_wholeSize 55 = .ok (.iconst 1, 1) := by decide +kernel
theorem dX0_wholeSize_56 : decode cX0_wholeSize 56 = .ok (.lushr, 1) := by decide +kernel
theorem dX0_wholeSize_57 : decode cX0_wholeSize 57 = .ok (.goto 7, 3) := by decide +kernel
theorem dX0_wholeSize_60 : decode cX0_wholeSize 60 = .ok (.lload_n 0, 1) := by decide +kernel
theorem dX0_wholeSize_61 : decode cX0_wholeSize 61 = .ok (.iload 4, 2) := by decide +kernel
theorem dX0_wholeSize_63 : decode cX0_wholeSize 63 = .ok (.lushr, 1) := by decide +kernel
theorem dX0_wholeSize_64 : decode cX0_wholeSize 64 = .ok (.lreturn, 1) := by decide +kernel
theorem dJ13_compare_74951_0 : decode cJ13_compare_74951 0 = .ok (.lload_n 0, 1) := by decide +kernel
theorem dJ13_compare_74951_1 : decode cJ13_compare_74951 1 = .ok (.lload_n 2, 1) := by decide +kernel
theorem dJ13_compare_74951_2 : decode cJ13_compare_74951 2 = .ok (.lcmp, 1) := by decide +kernel
theorem dJ13_compare_74951_3 : decode cJ13_compare_74951 3 = .ok (.ifCond .ge 7, 3) := by decide +kernel
theorem dJ13_compare_74951_6 : decode cJ13_compare_74951 6 = .ok (.iconst (-1), 1) := by decide +kernel
theorem dJ13_compare_74951_7 : decode cJ13_compare_74951 7 = .ok (.goto 14, 3) := by decide +kernel
theorem dJ13_compare_74951_10 : decode cJ13_compare_74951 10 = .ok (.lload_n 0, 1) := by decide +kernel
theorem dJ13_compare_74951_11 : decode cJ13_compare_74951 11 = .ok (.lload_n 2, 1) := by decide +kernel
theorem dJ13_compare_74951_12 : decode cJ13_compare_74951 12 = .ok (.lcmp, 1) := by decide +kernel
theorem dJ13_compare_74951_13 : decode cJ13_compare_74951 13 = .ok (.ifCond .ne 7, 3) := by decide +kernel
theorem dJ13_compare_74951_16 : decode cJ13_compare_74951 16 = .ok (.iconst 0, 1) := by decide +kernel
theorem dJ13_compare_74951_17 : decode cJ13_compare_74951 17 = .ok (.goto 4, 3) := by decide +kernel
theorem dJ13_compare_74951_20 : decode cJ13_compare_74951 20 = .ok (.iconst 1, 1) := by decide +kernel
theorem dJ13_compare_74951_21 : decode cJ13_compare_74951 21 = .ok (.ireturn, 1) := by decide +kernel
theorem dJ9_abs_067f4_0 : decode cJ9_abs_067f4 0 = .ok (.lload_n 0, 1) := by decide +kernel
theorem dJ9_abs_067f4_1 : decode cJ9_abs_067f4 1 = .ok (.lconst 0, 1) := by decide +kernel
theorem dJ9_abs_067f4_2 : decode cJ9_abs_067f4 2 = .ok (.lcmp, 1) := by decide +kernel
theorem dJ9_abs_067f4_3 : decode cJ9_abs_067f4 3 = .ok (.ifCond .ge 8, 3) := by decide +kernel
theorem dJ9_abs_067f4_6 : decode cJ9_abs_067f4 6 = .ok (.lload_n 0, 1) := by decide +kernel
theorem dJ9_abs_067f4_7 : decode cJ9_abs_067f4 7 = .ok (.lneg, 1) := by decide +kernel
theorem dJ9_abs_067f4_8 : decode cJ9_abs_067f4 8 = .ok (.goto 4, 3) := by decide +kernel
theorem dJ9_abs_067f4_11 : decode cJ9_abs_067f4 11 = .ok (.lload_n 0, 1) := by decide +kernel
theorem dJ9_abs_067f4_12 : decode cJ9_abs_067f4 12 = .ok (.lreturn, 1) := by decide +kernel
end
section
abbrev mw_X0 (h0 h_f : Nat) (cA_f : ClassId) (st : (Nat → Int64) × Int32 × Int32) : va_W := [(h0, .inr (0, [.ref h_f, .int st.2.1, .int st.2.2])), (h_f, .inl (cA_f, 8, .inr (.inl st.1)))]
def mf_J13_compare_74951 (p1 : Int64) (p2 : Int64) : Int32 := (if p2 ≤ p1 then (if p1 = p2 then (0 : Int32) else (1 : Int32)) else (-1 : Int32))
set_option maxHeartbeats 4000000 in
set_option maxRecDepth 100000 in
theorem mc_J13_compare_74951 (l : Launch) (p1 : Int64) (p2 : Int64) : xj_Pi l yJ13_compare_74951 wsJ13_compare_74951 ({ frames := 0, cells := 0, slots := 0, locals := 0 }) [.long p1, .long p2] (mf_J13_compare_74951 p1 p2) := by
  intro sz
  refine Met.ofW (cc := cJ13_compare_74951) (maxL := 4) (ret := (some .int)) (by decide) rfl ?_
  intro p e s m args below meth c s₁ B hml hv
  obtain ⟨rfl, hsz⟩ := hv
  have hx := B.exec
  have hb := B.bytes
  have hr := B.returns
  have hts := atoms_spec (ws := wsJ13_compare_74951) B.pre
  have hown : s.vm.findClass RJ13 = some m.cls := findClass_of_methodNamed B.named
  have hlocks := B.notSynchronized
  subst hsz
  generalize hAe : va_A [] s.heap.size = A
  have hA : ∀ q : Nat, s.heap.size ≤ q → A q := fun q h => by rw [← hAe]; exact Or.inr h
  have hS : va_S A s.heap s.heap [] := va_S.rf
  generalize hT : mf_J13_compare_74951 p1 p2 = T
  have hF := hT.symm
  unfold mf_J13_compare_74951 at hF
  have hl := lv_entry ([.long p1, .long p2]) (n := 4) (Nat.le_of_ble_eq_true rfl)
  rw [lg_entry_eq]
  generalize (lg_sl ([.long p1, .long p2]) ++ List.replicate (4 - (lg_sl ([.long p1, .long p2])).length) Slot.unset).toArray = ls at hl ⊢
  have hl : lv_has ls 4 [(0, .long p1), (2, .long p2)] := hl
  refine lv_lload_n hx hb dJ13_compare_74951_0 rfl (lv_at hl 0 rfl) ?_
  refine lv_lload_n hx hb dJ13_compare_74951_1 rfl (lv_at hl 1 rfl) ?_
  refine xj_l_ge (tgt := 10) hx hb dJ13_compare_74951_2 dJ13_compare_74951_3 (by decide) (fun c1 => ?_) (fun c1 => ?_)
  · replace hF := xj_t hF c1
    refine lv_lload_n hx hb dJ13_compare_74951_10 rfl (lv_at hl 0 rfl) ?_
    refine lv_lload_n hx hb dJ13_compare_74951_11 rfl (lv_at hl 1 rfl) ?_
    refine xj_l_ne (tgt := 20) hx hb dJ13_compare_74951_12 dJ13_compare_74951_13 (by decide) (fun c2 => ?_) (fun c2 => ?_)
    · replace hF := xj_f hF c2
      refine lv_iconst (v := (1 : Int32)) hx hb dJ13_compare_74951_20 (by decide) ?_
      exact W.iret (v := (1 : Int32)) hx hb hr (fun t ht hW => ⟨⟨_, (), rfl, hF.symm, trivial⟩, hS.F ht⟩) hS.2.2 dJ13_compare_74951_21
    · replace hF := xj_t hF c2
      refine lv_iconst (v := (0 : Int32)) hx hb dJ13_compare_74951_16 (by decide) ?_
      refine lv_goto (tgt := 21) hx hb dJ13_compare_74951_17 (by decide) ?_
      exact W.iret (v := (0 : Int32)) hx hb hr (fun t ht hW => ⟨⟨_, (), rfl, hF.symm, trivial⟩, hS.F ht⟩) hS.2.2 dJ13_compare_74951_21
  · replace hF := xj_f hF c1
    refine lv_iconst (v := (-1 : Int32)) hx hb dJ13_compare_74951_6 (by decide) ?_
    refine lv_goto (tgt := 21) hx hb dJ13_compare_74951_7 (by decide) ?_
    exact W.iret (v := (-1 : Int32)) hx hb hr (fun t ht hW => ⟨⟨_, (), rfl, hF.symm, trivial⟩, hS.F ht⟩) hS.2.2 dJ13_compare_74951_21
def mf_X0_isRegister (p1 : Int32) : Int32 := (if p1 < 0 then (0 : Int32) else (if (8 : Int32) ≤ p1 then (0 : Int32) else (1 : Int32)))
set_option maxHeartbeats 4000000 in
set_option maxRecDepth 100000 in
theorem mc_X0_isRegister (l : Launch) (p1 : Int32) : xj_Pi l yX0_isRegister wsX0_isRegister ({ frames := 0, cells := 0, slots := 0, locals := 0 }) [.int p1] (mf_X0_isRegister p1) := by
  intro sz
  refine Met.ofW (cc := cX0_isRegister) (maxL := 1) (ret := (some .boolean)) (by decide) rfl ?_
  intro p e s m args below meth c s₁ B hml hv
  obtain ⟨rfl, hsz⟩ := hv
  have hx := B.exec
  have hb := B.bytes
  have hr := B.returns
  have hts := atoms_spec (ws := wsX0_isRegister) B.pre
  have hown : s.vm.findClass RX0 = some m.cls := findClass_of_methodNamed B.named
  have hlocks := B.notSynchronized
  subst hsz
  generalize hAe : va_A [] s.heap.size = A
  have hA : ∀ q : Nat, s.heap.size ≤ q → A q := fun q h => by rw [← hAe]; exact Or.inr h
  have hS : va_S A s.heap s.heap [] := va_S.rf
  generalize hT : mf_X0_isRegister p1 = T
  have hF := hT.symm
  unfold mf_X0_isRegister at hF
  have hl := lv_entry ([.int p1]) (n := 1) (Nat.le_of_ble_eq_true rfl)
  rw [lg_entry_eq]
  generalize (lg_sl ([.int p1]) ++ List.replicate (1 - (lg_sl ([.int p1])).length) Slot.unset).toArray = ls at hl ⊢
  have hl : lv_has ls 1 [(0, .int p1)] := hl
  refine lv_iload_n hx hb dX0_isRegister_0 rfl (lv_at hl 0 rfl) ?_
  refine lv_if_lt (tgt := 14) hx hb dX0_isRegister_1 (by decide) (fun c1 => ?_) (fun c1 => ?_)
  · replace hF := xj_t hF c1
    refine lv_iconst (v := (0 : Int32)) hx hb dX0_isRegister_14 (by decide) ?_
    exact W.zret (v := (0 : Int32)) hx hb hr rfl (fun t ht hW => ⟨⟨_, (), rfl, hF.symm, trivial⟩, hS.F ht⟩) hS.2.2 dX0_isRegister_15
  · replace hF := xj_f hF c1
    refine lv_iload_n hx hb dX0_isRegister_4 rfl (lv_at hl 0 rfl) ?_
    refine lv_bipush (v := (8 : Int32)) hx hb dX0_isRegister_5 (by decide) ?_
    refine lv_icmp_ge (tgt := 14) hx hb dX0_isRegister_7 (by decide) (fun c2 => ?_) (fun c2 => ?_)
    · replace hF := xj_t hF c2
      refine lv_iconst (v := (0 : Int32)) hx hb dX0_isRegister_14 (by decide) ?_
      exact W.zret (v := (0 : Int32)) hx hb hr rfl (fun t ht hW => ⟨⟨_, (), rfl, hF.symm, trivial⟩, hS.F ht⟩) hS.2.2 dX0_isRegister_15
    · replace hF := xj_f hF c2
      refine lv_iconst (v := (1 : Int32)) hx hb dX0_isRegister_10 (by decide) ?_
      refine lv_goto (tgt := 15) hx hb dX0_isRegister_11 (by decide) ?_
      exact W.zret (v := (1 : Int32)) hx hb hr rfl (fun t ht hW => ⟨⟨_, (), rfl, hF.symm, trivial⟩, hS.F ht⟩) hS.2.2 dX0_isRegister_15
theorem mr_reg {r : Int32} (h : ¬ mf_X0_isRegister r = 0) : vp_in r 8 := by
  unfold mf_X0_isRegister at h
  rw [vp_in_iff]
  by_cases h1 : r < 0
  · rw [if_pos h1] at h; exact absurd rfl h
  · rw [if_neg h1] at h
    by_cases h2 : (8 : Int32) ≤ r
    · rw [if_pos h2] at h; exact absurd rfl h
    · rw [Int32.lt_iff_toInt_lt] at h1
      rw [Int32.le_iff_toInt_le] at h2
      have e8 : (8 : Int32).toInt = 8 := by decide
      have e0 : (0 : Int32).toInt = 0 := by decide
      omega

def mf_X0_isSize (p1 : Int32) : Int32 := (if p1 = (4 : Int32) then (1 : Int32) else (if p1 = (8 : Int32) then (1 : Int32) else (0 : Int32)))
set_option maxHeartbeats 4000000 in
set_option maxRecDepth 100000 in
theorem mc_X0_isSize (l : Launch) (p1 : Int32) : xj_Pi l yX0_isSize wsX0_isSize ({ frames := 0, cells := 0, slots := 0, locals := 0 }) [.int p1] (mf_X0_isSize p1) := by
  intro sz
  refine Met.ofW (cc := cX0_isSize) (maxL := 1) (ret := (some .boolean)) (by decide) rfl ?_
  intro p e s m args below meth c s₁ B hml hv
  obtain ⟨rfl, hsz⟩ := hv
  have hx := B.exec
  have hb := B.bytes
  have hr := B.returns
  have hts := atoms_spec (ws := wsX0_isSize) B.pre
  have hown : s.vm.findClass RX0 = some m.cls := findClass_of_methodNamed B.named
  have hlocks := B.notSynchronized
  subst hsz
  generalize hAe : va_A [] s.heap.size = A
  have hA : ∀ q : Nat, s.heap.size ≤ q → A q := fun q h => by rw [← hAe]; exact Or.inr h
  have hS : va_S A s.heap s.heap [] := va_S.rf
  generalize hT : mf_X0_isSize p1 = T
  have hF := hT.symm
  unfold mf_X0_isSize at hF
  have hl := lv_entry ([.int p1]) (n := 1) (Nat.le_of_ble_eq_true rfl)
  rw [lg_entry_eq]
  generalize (lg_sl ([.int p1]) ++ List.replicate (1 - (lg_sl ([.int p1])).length) Slot.unset).toArray = ls at hl ⊢
  have hl : lv_has ls 1 [(0, .int p1)] := hl
  refine lv_iload_n hx hb dX0_isSize_0 rfl (lv_at hl 0 rfl) ?_
  refine lv_iconst (v := (4 : Int32)) hx hb dX0_isSize_1 (by decide) ?_
  refine lv_icmp_eq (tgt := 11) hx hb dX0_isSize_2 (by decide) (fun c1 => ?_) (fun c1 => ?_)
  · replace hF := xj_t hF c1
    refine lv_iconst (v := (1 : Int32)) hx hb dX0_isSize_11 (by decide) ?_
    refine lv_goto (tgt := 16) hx hb dX0_isSize_12 (by decide) ?_
    exact W.zret (v := (1 : Int32)) hx hb hr rfl (fun t ht hW => ⟨⟨_, (), rfl, hF.symm, trivial⟩, hS.F ht⟩) hS.2.2 dX0_isSize_16
  · replace hF := xj_f hF c1
    refine lv_iload_n hx hb dX0_isSize_5 rfl (lv_at hl 0 rfl) ?_
    refine lv_bipush (v := (8 : Int32)) hx hb dX0_isSize_6 (by decide) ?_
    refine lv_icmp_ne (tgt := 15) hx hb dX0_isSize_8 (by decide) (fun c2 => ?_) (fun c2 => ?_)
    · replace hF := xj_f hF c2
      refine lv_iconst (v := (0 : Int32)) hx hb dX0_isSize_15 (by decide) ?_
      exact W.zret (v := (0 : Int32)) hx hb hr rfl (fun t ht hW => ⟨⟨_, (), rfl, hF.symm, trivial⟩, hS.F ht⟩) hS.2.2 dX0_isSize_16
    · replace hF := xj_t hF c2
      refine lv_iconst (v := (1 : Int32)) hx hb dX0_isSize_11 (by decide) ?_
      refine lv_goto (tgt := 16) hx hb dX0_isSize_12 (by decide) ?_
      exact W.zret (v := (1 : Int32)) hx hb hr rfl (fun t ht hW => ⟨⟨_, (), rfl, hF.symm, trivial⟩, hS.F ht⟩) hS.2.2 dX0_isSize_16
def mf_X0_isReserved (f : Nat → Int64) (u : Int32) (o : Int32) (p1 : Int32) : Int32 := (if ((f (Int32.toNatClampNeg p1)) &&& (65408 : Int64)) = (32768 : Int64) then (1 : Int32) else (0 : Int32))
set_option maxHeartbeats 4000000 in
set_option maxRecDepth 100000 in
theorem mc_X0_isReserved (l : Launch) (dC : Nat → ClassId) (dI : Nat → Nat → Nat) (h0 h_f : Nat) (cA_f : ClassId) (f : Nat → Int64) (u : Int32) (o : Int32) (p1 : Int32) (hin1 : vp_in p1 8) : xj_Oi l (dC, dI) vwCl [(cA_f, .long)] (mw_X0 h0 h_f cA_f) yX0_isReserved wsX0_isReserved ({ frames := 0, cells := 0, slots := 0, locals := 0 }) [.ref h0, .int p1] (f, u, o) (mf_X0_isReserved f u o p1, (f, u, o)) := by
  intro sz
  refine Met.ofW (cc := cX0_isReserved) (maxL := 2) (ret := (some .boolean)) (by decide) rfl ?_
  intro p e s m args below meth c s₁ B hml hv
  obtain ⟨rfl, hsz, hP, hK, hD0⟩ := hv
  have hx := B.exec
  have hb := B.bytes
  have hr := B.returns
  have hts := atoms_spec (ws := wsX0_isReserved) B.pre
  have hown : s.vm.findClass RX0 = some m.cls := findClass_of_methodNamed B.named
  have hlocks := B.notSynchronized
  subst hsz
  have hD := hD0.self (sz := s.heap.size)
  generalize hAe : va_A (mw_X0 h0 h_f cA_f (f, u, o)) s.heap.size = A at hD ⊢
  have hA : ∀ q : Nat, s.heap.size ≤ q → A q := fun q h => by rw [← hAe]; exact Or.inr h
  have hS : va_S A s.heap s.heap [] := va_S.rf
  have hP : va_P (dC, dI) vwCl [(h0, .inr (0, [.ref h_f, .int u, .int o])), (h_f, .inl (cA_f, 8, .inr (.inl f)))] s.heap := hP
  have hD : va_D A [(h0, .inr (0, [.ref h_f, .int u, .int o])), (h_f, .inl (cA_f, 8, .inr (.inl f)))] := hD
  generalize hT : mf_X0_isReserved f u o p1 = T
  have hF := hT.symm
  unfold mf_X0_isReserved at hF
  have hl := lv_entry ([.ref h0, .int p1]) (n := 2) (Nat.le_of_ble_eq_true rfl)
  rw [lg_entry_eq]
  generalize (lg_sl ([.ref h0, .int p1]) ++ List.replicate (2 - (lg_sl ([.ref h0, .int p1])).length) Slot.unset).toArray = ls at hl ⊢
  have hl : lv_has ls 2 [(0, .ref h0), (1, .int p1)] := hl
  refine lv_aload_n hx hb dX0_isReserved_0 rfl (lv_at hl 0 rfl) ?_
  refine va_get (D := (dC, dI)) (ci := 0) (v := .ref h_f) (C := RX0) (T := TX0) (N := 3) hx hb hts (by decide +kernel) hown hK hP 0 rfl rfl 0 (by decide) (hts (.fieldLink RX0 9 "ExactFloats" "registers" "[J") (by decide +kernel)) (fun _ h9 => h9) rfl dX0_isReserved_1 ?_
  refine lv_iload_n hx hb dX0_isReserved_4 rfl (lv_at hl 1 rfl) ?_
  refine va_lald hx hb hK hP 1 0 rfl rfl (hin1) dX0_isReserved_5 ?_
  refine lv_ldc2 (own := RX0) (v := (65408 : Int64)) hx hb hown (hts (.constantLong RX0 73 (65408 : Int64)) (by decide +kernel)) dX0_isReserved_6 ?_
  refine lv_land hx hb dX0_isReserved_9 ?_
  refine lv_ldc2 (own := RX0) (v := (32768 : Int64)) hx hb hown (hts (.constantLong RX0 75 (32768 : Int64)) (by decide +kernel)) dX0_isReserved_10 ?_
  refine xj_l_ne (tgt := 21) hx hb dX0_isReserved_13 dX0_isReserved_14 (by decide) (fun c1 => ?_) (fun c1 => ?_)
  · replace hF := xj_f hF c1
    refine lv_iconst (v := (0 : Int32)) hx hb dX0_isReserved_21 (by decide) ?_
    exact W.zret (v := (0 : Int32)) hx hb hr rfl (fun t ht hW => ⟨⟨_, (f, u, o), rfl, by rw [hF], by rw [ht]; exact hP, hD⟩, hS.F ht⟩) hS.2.2 dX0_isReserved_22
  · replace hF := xj_t hF c1
    refine lv_iconst (v := (1 : Int32)) hx hb dX0_isReserved_17 (by decide) ?_
    refine lv_goto (tgt := 22) hx hb dX0_isReserved_18 (by decide) ?_
    exact W.zret (v := (1 : Int32)) hx hb hr rfl (fun t ht hW => ⟨⟨_, (f, u, o), rfl, by rw [hF], by rw [ht]; exact hP, hD⟩, hS.F ht⟩) hS.2.2 dX0_isReserved_22
def mf_X0_refusalOf (f : Nat → Int64) (u : Int32) (o : Int32) (p1 : Int32) (p2 : Int32) (p3 : Int32) (p4 : Int32) : Int32 := (xj_bnd (mf_X0_isSize p1) (fun y1 => (if y1 = 0 then (-5 : Int32) else (xj_bnd (mf_X0_isRegister p2) (fun y3 => (if y3 = 0 then (-5 : Int32) else (xj_bnd (mf_X0_isRegister p3) (fun y5 => (if y5 = 0 then (-5 : Int32) else (xj_bnd (mf_X0_isRegister p4) (fun y7 => (if y7 = 0 then (-5 : Int32) else (xj_bnd (mf_X0_isReserved f u o p2) (fun y9 => (if y9 = 0 then (xj_bnd (mf_X0_isReserved f u o p3) (fun y11 => (if y11 = 0 then (0 : Int32) else (-1 : Int32)))) else (-1 : Int32))))))))))))))))
set_option maxHeartbeats 4000000 in
set_option maxRecDepth 100000 in
theorem mc_X0_refusalOf (l : Launch) (dC : Nat → ClassId) (dI : Nat → Nat → Nat) (h0 h_f : Nat) (cA_f : ClassId) (f : Nat → Int64) (u : Int32) (o : Int32) (p1 : Int32) (p2 : Int32) (p3 : Int32) (p4 : Int32) : xj_Oi l (dC, dI) vwCl [(cA_f, .long)] (mw_X0 h0 h_f cA_f) yX0_refusalOf wsX0_refusalOf ({ frames := 1, cells := 0, slots := 0, locals := 21 }) [.ref h0, .int p1, .int p2, .int p3, .int p4] (f, u, o) (mf_X0_refusalOf f u o p1 p2 p3 p4, (f, u, o)) := by
  intro sz
  refine Met.ofW (cc := cX0_refusalOf) (maxL := 5) (ret := (some .int)) (by decide) rfl ?_
  intro p e s m args below meth c s₁ B hml hv
  obtain ⟨rfl, hsz, hP, hK, hD0⟩ := hv
  have hx := B.exec
  have hb := B.bytes
  have hr := B.returns
  have hts := atoms_spec (ws := wsX0_refusalOf) B.pre
  have hown : s.vm.findClass RX0 = some m.cls := findClass_of_methodNamed B.named
  have hlocks := B.notSynchronized
  subst hsz
  have hD := hD0.self (sz := s.heap.size)
  generalize hAe : va_A (mw_X0 h0 h_f cA_f (f, u, o)) s.heap.size = A at hD ⊢
  have hA : ∀ q : Nat, s.heap.size ≤ q → A q := fun q h => by rw [← hAe]; exact Or.inr h
  have hS : va_S A s.heap s.heap [] := va_S.rf
  have hP : va_P (dC, dI) vwCl [(h0, .inr (0, [.ref h_f, .int u, .int o])), (h_f, .inl (cA_f, 8, .inr (.inl f)))] s.heap := hP
  have hD : va_D A [(h0, .inr (0, [.ref h_f, .int u, .int o])), (h_f, .inl (cA_f, 8, .inr (.inl f)))] := hD
  generalize hT : mf_X0_refusalOf f u o p1 p2 p3 p4 = T
  have hF := hT.symm
  unfold mf_X0_refusalOf at hF
  have hl := lv_entry ([.ref h0, .int p1, .int p2, .int p3, .int p4]) (n := 5) (Nat.le_of_ble_eq_true rfl)
  rw [lg_entry_eq]
  generalize (lg_sl ([.ref h0, .int p1, .int p2, .int p3, .int p4]) ++ List.replicate (5 - (lg_sl ([.ref h0, .int p1, .int p2, .int p3, .int p4])).length) Slot.unset).toArray = ls at hl ⊢
  have hl : lv_has ls 5 [(0, .ref h0), (1, .int p1), (2, .int p2), (3, .int p3), (4, .int p4)] := hl
  refine lv_iload_n hx hb dX0_refusalOf_0 rfl (lv_at hl 1 rfl) ?_
  refine xj_si (As := [.int p1]) (rest := []) ⟨hx, hb, hml, hown, hts⟩ (mc_X0_isSize l p1) (va_cwS 1 hts gX0_refusalOf_X0_isSize rfl rfl rfl (by decide +kernel) ⟨Nat.le_of_ble_eq_true rfl, Nat.le_of_ble_eq_true rfl⟩) hS hA rfl hl.1 rfl (Nat.le_of_ble_eq_true rfl) dX0_refusalOf_1 ⟨Nat.zero_le _, Nat.zero_le _⟩ (fun H9 locs9 hk9 hS => ?_)
  have hP := xj_kept hP hk9
  refine lv_topi (fun y1 ey1 => ?_)
  replace hF := xj_bz hF ey1
  refine lv_if_eq (tgt := 29) hx hb dX0_refusalOf_4 (by decide) (fun c2 => ?_) (fun c2 => ?_)
  · replace hF := xj_t hF c2
    refine lv_bipush (v := (-5 : Int32)) hx hb dX0_refusalOf_29 (by decide) ?_
    exact W.iret (v := (-5 : Int32)) hx hb hr (fun t ht hW => ⟨⟨_, (f, u, o), rfl, by rw [hF], by rw [ht]; exact hP, hD⟩, hS.F ht⟩) hS.2.2 dX0_refusalOf_31
  · replace hF := xj_f hF c2
    refine lv_iload_n hx hb dX0_refusalOf_7 rfl (lv_at hl 2 rfl) ?_
    refine xj_si (As := [.int p2]) (rest := []) ⟨hx, hb, hml, hown, hts⟩ (mc_X0_isRegister l p2) (va_cwS 1 hts gX0_refusalOf_X0_isRegister rfl rfl rfl (by decide +kernel) ⟨Nat.le_of_ble_eq_true rfl, Nat.le_of_ble_eq_true rfl⟩) hS hA rfl hl.1 rfl (Nat.le_of_ble_eq_true rfl) dX0_refusalOf_8 ⟨Nat.zero_le _, Nat.zero_le _⟩ (fun H9 locs9 hk9 hS => ?_)
    have hP := xj_kept hP hk9
    refine lv_topi (fun y3 ey3 => ?_)
    replace hF := xj_bz hF ey3
    refine lv_if_eq (tgt := 29) hx hb dX0_refusalOf_11 (by decide) (fun c4 => ?_) (fun c4 => ?_)
    · replace hF := xj_t hF c4
      refine lv_bipush (v := (-5 : Int32)) hx hb dX0_refusalOf_29 (by decide) ?_
      exact W.iret (v := (-5 : Int32)) hx hb hr (fun t ht hW => ⟨⟨_, (f, u, o), rfl, by rw [hF], by rw [ht]; exact hP, hD⟩, hS.F ht⟩) hS.2.2 dX0_refusalOf_31
    · replace hF := xj_f hF c4
      refine lv_iload_n hx hb dX0_refusalOf_14 rfl (lv_at hl 3 rfl) ?_
      refine xj_si (As := [.int p3]) (rest := []) ⟨hx, hb, hml, hown, hts⟩ (mc_X0_isRegister l p3) (va_cwS 1 hts gX0_refusalOf_X0_isRegister rfl rfl rfl (by decide +kernel) ⟨Nat.le_of_ble_eq_true rfl, Nat.le_of_ble_eq_true rfl⟩) hS hA rfl hl.1 rfl (Nat.le_of_ble_eq_true rfl) dX0_refusalOf_15 ⟨Nat.zero_le _, Nat.zero_le _⟩ (fun H9 locs9 hk9 hS => ?_)
      have hP := xj_kept hP hk9
      refine lv_topi (fun y5 ey5 => ?_)
      replace hF := xj_bz hF ey5
      refine lv_if_eq (tgt := 29) hx hb dX0_refusalOf_18 (by decide) (fun c6 => ?_) (fun c6 => ?_)
      · replace hF := xj_t hF c6
        refine lv_bipush (v := (-5 : Int32)) hx hb dX0_refusalOf_29 (by decide) ?_
        exact W.iret (v := (-5 : Int32)) hx hb hr (fun t ht hW => ⟨⟨_, (f, u, o), rfl, by rw [hF], by rw [ht]; exact hP, hD⟩, hS.F ht⟩) hS.2.2 dX0_refusalOf_31
      · replace hF := xj_f hF c6
        refine lv_iload hx hb dX0_refusalOf_21 (lv_at hl 4 rfl) ?_
        refine xj_si (As := [.int p4]) (rest := []) ⟨hx, hb, hml, hown, hts⟩ (mc_X0_isRegister l p4) (va_cwS 1 hts gX0_refusalOf_X0_isRegister rfl rfl rfl (by decide +kernel) ⟨Nat.le_of_ble_eq_true rfl, Nat.le_of_ble_eq_true rfl⟩) hS hA rfl hl.1 rfl (Nat.le_of_ble_eq_true rfl) dX0_refusalOf_23 ⟨Nat.zero_le _, Nat.zero_le _⟩ (fun H9 locs9 hk9 hS => ?_)
        have hP := xj_kept hP hk9
        refine lv_topi (fun y7 ey7 => ?_)
        replace hF := xj_bz hF ey7
        refine lv_if_ne (tgt := 32) hx hb dX0_refusalOf_26 (by decide) (fun c8 => ?_) (fun c8 => ?_)
        · replace hF := xj_f hF c8
          refine lv_aload_n hx hb dX0_refusalOf_32 rfl (lv_at hl 0 rfl) ?_
          refine lv_iload_n hx hb dX0_refusalOf_33 rfl (lv_at hl 2 rfl) ?_
          refine xj_vi (As := [.int p2]) (rest := []) (Wd := mw_X0 h0 h_f cA_f) (wr := []) ⟨hx, hb, hml, hown, hts⟩ (mc_X0_isReserved l dC dI h0 h_f cA_f f u o p2 (mr_reg (fun h9 => c4 (ey3.trans h9)))) (cwV 1 hts gX0_refusalOf_X0_isReserved rfl rfl rfl (by decide +kernel) ⟨Nat.le_of_ble_eq_true rfl, Nat.le_of_ble_eq_true rfl⟩) hP hK hD hS hA [0, 1] [] [0] rfl (by decide) rfl (by decide) (by decide) rfl (va_recv hK hP (ci := 0) (q0 := 0) rfl rfl) rfl hl.1 rfl (Nat.le_of_ble_eq_true rfl) dX0_refusalOf_34 ⟨Nat.zero_le _, Nat.zero_le _⟩ (fun H9 locs9 hP hD hS => ?_)
          have hP : va_P (dC, dI) vwCl [(h0, .inr (0, [.ref h_f, .int u, .int o])), (h_f, .inl (cA_f, 8, .inr (.inl f)))] _ := hP
          have hD : va_D A [(h0, .inr (0, [.ref h_f, .int u, .int o])), (h_f, .inl (cA_f, 8, .inr (.inl f)))] := hD
          refine lv_topi (fun y9 ey9 => ?_)
          replace hF := xj_bz hF ey9
          refine lv_if_ne (tgt := 48) hx hb dX0_refusalOf_37 (by decide) (fun c10 => ?_) (fun c10 => ?_)
          · replace hF := xj_f hF c10
            refine lv_iconst (v := (-1 : Int32)) hx hb dX0_refusalOf_48 (by decide) ?_
            refine lv_goto (tgt := 53) hx hb dX0_refusalOf_49 (by decide) ?_
            exact W.iret (v := (-1 : Int32)) hx hb hr (fun t ht hW => ⟨⟨_, (f, u, o), rfl, by rw [hF], by rw [ht]; exact hP, hD⟩, hS.F ht⟩) hS.2.2 dX0_refusalOf_53
          · replace hF := xj_t hF c10
            refine lv_aload_n hx hb dX0_refusalOf_40 rfl (lv_at hl 0 rfl) ?_
            refine lv_iload_n hx hb dX0_refusalOf_41 rfl (lv_at hl 3 rfl) ?_
            refine xj_vi (As := [.int p3]) (rest := []) (Wd := mw_X0 h0 h_f cA_f) (wr := []) ⟨hx, hb, hml, hown, hts⟩ (mc_X0_isReserved l dC dI h0 h_f cA_f f u o p3 (mr_reg (fun h9 => c6 (ey5.trans h9)))) (cwV 1 hts gX0_refusalOf_X0_isReserved rfl rfl rfl (by decide +kernel) ⟨Nat.le_of_ble_eq_true rfl, Nat.le_of_ble_eq_true rfl⟩) hP hK hD hS hA [0, 1] [] [0] rfl (by decide) rfl (by decide) (by decide) rfl (va_recv hK hP (ci := 0) (q0 := 0) rfl rfl) rfl hl.1 rfl (Nat.le_of_ble_eq_true rfl) dX0_refusalOf_42 ⟨Nat.zero_le _, Nat.zero_le _⟩ (fun H9 locs9 hP hD hS => ?_)
            have hP : va_P (dC, dI) vwCl [(h0, .inr (0, [.ref h_f, .int u, .int o])), (h_f, .inl (cA_f, 8, .inr (.inl f)))] _ := hP
            have hD : va_D A [(h0, .inr (0, [.ref h_f, .int u, .int o])), (h_f, .inl (cA_f, 8, .inr (.inl f)))] := hD
            refine lv_topi (fun y11 ey11 => ?_)
            replace hF := xj_bz hF ey11
            refine lv_if_eq (tgt := 52) hx hb dX0_refusalOf_45 (by decide) (fun c12 => ?_) (fun c12 => ?_)
            · replace hF := xj_t hF c12
              refine lv_iconst (v := (0 : Int32)) hx hb dX0_refusalOf_52 (by decide) ?_
              exact W.iret (v := (0 : Int32)) hx hb hr (fun t ht hW => ⟨⟨_, (f, u, o), rfl, by rw [hF], by rw [ht]; exact hP, hD⟩, hS.F ht⟩) hS.2.2 dX0_refusalOf_53
            · replace hF := xj_f hF c12
              refine lv_iconst (v := (-1 : Int32)) hx hb dX0_refusalOf_48 (by decide) ?_
              refine lv_goto (tgt := 53) hx hb dX0_refusalOf_49 (by decide) ?_
              exact W.iret (v := (-1 : Int32)) hx hb hr (fun t ht hW => ⟨⟨_, (f, u, o), rfl, by rw [hF], by rw [ht]; exact hP, hD⟩, hS.F ht⟩) hS.2.2 dX0_refusalOf_53
        · replace hF := xj_t hF c8
          refine lv_bipush (v := (-5 : Int32)) hx hb dX0_refusalOf_29 (by decide) ?_
          exact W.iret (v := (-5 : Int32)) hx hb hr (fun t ht hW => ⟨⟨_, (f, u, o), rfl, by rw [hF], by rw [ht]; exact hP, hD⟩, hS.F ht⟩) hS.2.2 dX0_refusalOf_31
theorem mr_ref {f : Nat → Int64} {u o a b c d : Int32} (h : mf_X0_refusalOf f u o a b c d = 0) : vp_in b 8 ∧ vp_in c 8 ∧ vp_in d 8 := by
  unfold mf_X0_refusalOf xj_bnd at h
  dsimp only at h
  by_cases h1 : mf_X0_isSize a = 0
  · rw [if_pos h1] at h; exact absurd h (by decide)
  · rw [if_neg h1] at h
    by_cases h2 : mf_X0_isRegister b = 0
    · rw [if_pos h2] at h; exact absurd h (by decide)
    · rw [if_neg h2] at h
      by_cases h3 : mf_X0_isRegister c = 0
      · rw [if_pos h3] at h; exact absurd h (by decide)
      · rw [if_neg h3] at h
        by_cases h4 : mf_X0_isRegister d = 0
        · rw [if_pos h4] at h; exact absurd h (by decide)
        · exact ⟨mr_reg h2, mr_reg h3, mr_reg h4⟩

def mf_X0_flagsOf (p1 : Int64) : Int32 := (if p1 = (0 : Int64) then (4 : Int32) else (if (0 : Int64) ≤ p1 then (0 : Int32) else (8 : Int32)))
set_option maxHeartbeats 4000000 in
set_option maxRecDepth 100000 in
theorem mc_X0_flagsOf (l : Launch) (p1 : Int64) : xj_Pi l yX0_flagsOf wsX0_flagsOf ({ frames := 0, cells := 0, slots := 0, locals := 0 }) [.long p1] (mf_X0_flagsOf p1) := by
  intro sz
  refine Met.ofW (cc := cX0_flagsOf) (maxL := 2) (ret := (some .int)) (by decide) rfl ?_
  intro p e s m args below meth c s₁ B hml hv
  obtain ⟨rfl, hsz⟩ := hv
  have hx := B.exec
  have hb := B.bytes
  have hr := B.returns
  have hts := atoms_spec (ws := wsX0_flagsOf) B.pre
  have hown : s.vm.findClass RX0 = some m.cls := findClass_of_methodNamed B.named
  have hlocks := B.notSynchronized
  subst hsz
  generalize hAe : va_A [] s.heap.size = A
  have hA : ∀ q : Nat, s.heap.size ≤ q → A q := fun q h => by rw [← hAe]; exact Or.inr h
  have hS : va_S A s.heap s.heap [] := va_S.rf
  generalize hT : mf_X0_flagsOf p1 = T
  have hF := hT.symm
  unfold mf_X0_flagsOf at hF
  have hl := lv_entry ([.long p1]) (n := 2) (Nat.le_of_ble_eq_true rfl)
  rw [lg_entry_eq]
  generalize (lg_sl ([.long p1]) ++ List.replicate (2 - (lg_sl ([.long p1])).length) Slot.unset).toArray = ls at hl ⊢
  have hl : lv_has ls 2 [(0, .long p1)] := hl
  refine lv_lload_n hx hb dX0_flagsOf_0 rfl (lv_at hl 0 rfl) ?_
  refine lv_lconst (v := (0 : Int64)) hx hb dX0_flagsOf_1 (by decide) ?_
  refine xj_l_ne (tgt := 8) hx hb dX0_flagsOf_2 dX0_flagsOf_3 (by decide) (fun c1 => ?_) (fun c1 => ?_)
  · replace hF := xj_f hF c1
    refine lv_lload_n hx hb dX0_flagsOf_8 rfl (lv_at hl 0 rfl) ?_
    refine lv_lconst (v := (0 : Int64)) hx hb dX0_flagsOf_9 (by decide) ?_
    refine xj_l_ge (tgt := 19) hx hb dX0_flagsOf_10 dX0_flagsOf_11 (by decide) (fun c2 => ?_) (fun c2 => ?_)
    · replace hF := xj_t hF c2
      refine lv_iconst (v := (0 : Int32)) hx hb dX0_flagsOf_19 (by decide) ?_
      exact W.iret (v := (0 : Int32)) hx hb hr (fun t ht hW => ⟨⟨_, (), rfl, hF.symm, trivial⟩, hS.F ht⟩) hS.2.2 dX0_flagsOf_20
    · replace hF := xj_f hF c2
      refine lv_bipush (v := (8 : Int32)) hx hb dX0_flagsOf_14 (by decide) ?_
      refine lv_goto (tgt := 20) hx hb dX0_flagsOf_16 (by decide) ?_
      exact W.iret (v := (8 : Int32)) hx hb hr (fun t ht hW => ⟨⟨_, (), rfl, hF.symm, trivial⟩, hS.F ht⟩) hS.2.2 dX0_flagsOf_20
  · replace hF := xj_t hF c1
    refine lv_iconst (v := (4 : Int32)) hx hb dX0_flagsOf_6 (by decide) ?_
    exact W.iret (v := (4 : Int32)) hx hb hr (fun t ht hW => ⟨⟨_, (), rfl, hF.symm, trivial⟩, hS.F ht⟩) hS.2.2 dX0_flagsOf_7
def mf_X0_valueIn (f : Nat → Int64) (u : Int32) (o : Int32) (p1 : Int32) (p2 : Int32) : Int64 := (xj_bnd (if p1 = (4 : Int32) then ((f (Int32.toNatClampNeg p2)) &&& (4294967295 : Int64)) else (f (Int32.toNatClampNeg p2))) (fun y2 => (xj_bnd ((xj_ush y2 (7 : Int32)) &&& (255 : Int64)) (fun y3 => (if y3 = (0 : Int64) then (0 : Int64) else (xj_bnd ((((xj_shl (y2 &&& (127 : Int64)) (48 : Int32)) ||| (xj_shl ((xj_ush y2 (16 : Int32)) &&& (65535 : Int64)) (32 : Int32))) ||| (xj_shl ((xj_ush y2 (32 : Int32)) &&& (65535 : Int64)) (16 : Int32))) ||| (xj_ush y2 (48 : Int32))) (fun y5 => (xj_bnd ((xj_shl y3 (55 : Int32)) ||| y5) (fun y6 => (if (y2 &&& (32768 : Int64)) = (0 : Int64) then y6 else (-y6)))))))))))
set_option maxHeartbeats 4000000 in
set_option maxRecDepth 100000 in
theorem mc_X0_valueIn (l : Launch) (dC : Nat → ClassId) (dI : Nat → Nat → Nat) (h0 h_f : Nat) (cA_f : ClassId) (f : Nat → Int64) (u : Int32) (o : Int32) (p1 : Int32) (p2 : Int32) (hin2 : vp_in p2 8) : xj_Ol l (dC, dI) vwCl [(cA_f, .long)] (mw_X0 h0 h_f cA_f) yX0_valueIn wsX0_valueIn ({ frames := 0, cells := 0, slots := 0, locals := 0 }) [.ref h0, .int p1, .int p2] (f, u, o) (mf_X0_valueIn f u o p1 p2, (f, u, o)) := by
  intro sz
  refine Met.ofW (cc := cX0_valueIn) (maxL := 11) (ret := (some .long)) (by decide) rfl ?_
  intro p e s m args below meth c s₁ B hml hv
  obtain ⟨rfl, hsz, hP, hK, hD0⟩ := hv
  have hx := B.exec
  have hb := B.bytes
  have hr := B.returns
  have hts := atoms_spec (ws := wsX0_valueIn) B.pre
  have hown : s.vm.findClass RX0 = some m.cls := findClass_of_methodNamed B.named
  have hlocks := B.notSynchronized
  subst hsz
  have hD := hD0.self (sz := s.heap.size)
  generalize hAe : va_A (mw_X0 h0 h_f cA_f (f, u, o)) s.heap.size = A at hD ⊢
  have hA : ∀ q : Nat, s.heap.size ≤ q → A q := fun q h => by rw [← hAe]; exact Or.inr h
  have hS : va_S A s.heap s.heap [] := va_S.rf
  have hP : va_P (dC, dI) vwCl [(h0, .inr (0, [.ref h_f, .int u, .int o])), (h_f, .inl (cA_f, 8, .inr (.inl f)))] s.heap := hP
  have hD : va_D A [(h0, .inr (0, [.ref h_f, .int u, .int o])), (h_f, .inl (cA_f, 8, .inr (.inl f)))] := hD
  generalize hT : mf_X0_valueIn f u o p1 p2 = T
  have hF := hT.symm
  unfold mf_X0_valueIn at hF
  have hl := lv_entry ([.ref h0, .int p1, .int p2]) (n := 11) (Nat.le_of_ble_eq_true rfl)
  rw [lg_entry_eq]
  generalize (lg_sl ([.ref h0, .int p1, .int p2]) ++ List.replicate (11 - (lg_sl ([.ref h0, .int p1, .int p2])).length) Slot.unset).toArray = ls at hl ⊢
  have hl : lv_has ls 11 [(0, .ref h0), (1, .int p1), (2, .int p2)] := hl
  refine lv_iload_n hx hb dX0_valueIn_0 rfl (lv_at hl 1 rfl) ?_
  refine lv_iconst (v := (4 : Int32)) hx hb dX0_valueIn_1 (by decide) ?_
  obtain ⟨y2, ey2⟩ : ∃ z : Int64, z = (if p1 = (4 : Int32) then ((f (Int32.toNatClampNeg p2)) &&& (4294967295 : Int64)) else (f (Int32.toNatClampNeg p2))) := ⟨_, rfl⟩
  replace hF := xj_bz hF ey2
  refine xj_join 24 (fun ls' st' => lv_has ls' 11 [(0, .ref h0), (1, .int p1), (2, .int p2)] ∧ st' = [.long y2]) ?_ (fun K24 => ?_)
  · rintro ls st ⟨hl, rfl⟩
    refine lv_lstore_n (lv' := [(3, .long y2), (0, .ref h0), (1, .int p1), (2, .int p2)]) hx hb dX0_valueIn_24 rfl hl (by decide) rfl (fun ls hl => ?_)
    refine lv_lload_n hx hb dX0_valueIn_25 rfl (lv_at hl 0 rfl) ?_
    refine lv_bipush (v := (7 : Int32)) hx hb dX0_valueIn_26 (by decide) ?_
    refine lv_lushr (v := (xj_ush y2 (7 : Int32))) hx hb dX0_valueIn_28 rfl ?_
    refine lv_ldc2 (own := RX0) (v := (255 : Int64)) hx hb hown (hts (.constantLong RX0 82 (255 : Int64)) (by decide +kernel)) dX0_valueIn_29 ?_
    refine lv_land hx hb dX0_valueIn_32 ?_
    refine lv_topl (fun y3 ey3 => ?_)
    replace hF := xj_bz hF ey3
    refine lv_lstore (lv' := [(5, .long y3), (3, .long y2), (0, .ref h0), (1, .int p1), (2, .int p2)]) hx hb dX0_valueIn_33 hl (by decide) rfl (fun ls hl => ?_)
    refine lv_lload hx hb dX0_valueIn_35 (lv_at hl 0 rfl) ?_
    refine lv_lconst (v := (0 : Int64)) hx hb dX0_valueIn_37 (by decide) ?_
    refine xj_l_ne (tgt := 44) hx hb dX0_valueIn_38 dX0_valueIn_39 (by decide) (fun c4 => ?_) (fun c4 => ?_)
    · replace hF := xj_f hF c4
      refine lv_lload_n hx hb dX0_valueIn_44 rfl (lv_at hl 1 rfl) ?_
      refine lv_ldc2 (own := RX0) (v := (127 : Int64)) hx hb hown (hts (.constantLong RX0 84 (127 : Int64)) (by decide +kernel)) dX0_valueIn_45 ?_
      refine lv_land hx hb dX0_valueIn_48 ?_
      refine lv_bipush (v := (48 : Int32)) hx hb dX0_valueIn_49 (by decide) ?_
      refine lv_lshl (v := (xj_shl (y2 &&& (127 : Int64)) (48 : Int32))) hx hb dX0_valueIn_51 rfl ?_
      refine lv_lload_n hx hb dX0_valueIn_52 rfl (lv_at hl 1 rfl) ?_
      refine lv_bipush (v := (16 : Int32)) hx hb dX0_valueIn_53 (by decide) ?_
      refine lv_lushr (v := (xj_ush y2 (16 : Int32))) hx hb dX0_valueIn_55 rfl ?_
      refine lv_ldc2 (own := RX0) (v := (65535 : Int64)) hx hb hown (hts (.constantLong RX0 86 (65535 : Int64)) (by decide +kernel)) dX0_valueIn_56 ?_
      refine lv_land hx hb dX0_valueIn_59 ?_
      refine lv_bipush (v := (32 : Int32)) hx hb dX0_valueIn_60 (by decide) ?_
      refine lv_lshl (v := (xj_shl ((xj_ush y2 (16 : Int32)) &&& (65535 : Int64)) (32 : Int32))) hx hb dX0_valueIn_62 rfl ?_
      refine lv_lor hx hb dX0_valueIn_63 ?_
      refine lv_lload_n hx hb dX0_valueIn_64 rfl (lv_at hl 1 rfl) ?_
      refine lv_bipush (v := (32 : Int32)) hx hb dX0_valueIn_65 (by decide) ?_
      refine lv_lushr (v := (xj_ush y2 (32 : Int32))) hx hb dX0_valueIn_67 rfl ?_
      refine lv_ldc2 (own := RX0) (v := (65535 : Int64)) hx hb hown (hts (.constantLong RX0 86 (65535 : Int64)) (by decide +kernel)) dX0_valueIn_68 ?_
      refine lv_land hx hb dX0_valueIn_71 ?_
      refine lv_bipush (v := (16 : Int32)) hx hb dX0_valueIn_72 (by decide) ?_
      refine lv_lshl (v := (xj_shl ((xj_ush y2 (32 : Int32)) &&& (65535 : Int64)) (16 : Int32))) hx hb dX0_valueIn_74 rfl ?_
      refine lv_lor hx hb dX0_valueIn_75 ?_
      refine lv_lload_n hx hb dX0_valueIn_76 rfl (lv_at hl 1 rfl) ?_
      refine lv_bipush (v := (48 : Int32)) hx hb dX0_valueIn_77 (by decide) ?_
      refine lv_lushr (v := (xj_ush y2 (48 : Int32))) hx hb dX0_valueIn_79 rfl ?_
      refine lv_lor hx hb dX0_valueIn_80 ?_
      refine lv_topl (fun y5 ey5 => ?_)
      replace hF := xj_bz hF ey5
      refine lv_lstore (lv' := [(7, .long y5), (5, .long y3), (3, .long y2), (0, .ref h0), (1, .int p1), (2, .int p2)]) hx hb dX0_valueIn_81 hl (by decide) rfl (fun ls hl => ?_)
      refine lv_lload hx hb dX0_valueIn_83 (lv_at hl 1 rfl) ?_
      refine lv_bipush (v := (55 : Int32)) hx hb dX0_valueIn_85 (by decide) ?_
      refine lv_lshl (v := (xj_shl y3 (55 : Int32))) hx hb dX0_valueIn_87 rfl ?_
      refine lv_lload hx hb dX0_valueIn_88 (lv_at hl 0 rfl) ?_
      refine lv_lor hx hb dX0_valueIn_90 ?_
      refine lv_topl (fun y6 ey6 => ?_)
      replace hF := xj_bz hF ey6
      refine lv_lstore (lv' := [(9, .long y6), (7, .long y5), (5, .long y3), (3, .long y2), (0, .ref h0), (1, .int p1), (2, .int p2)]) hx hb dX0_valueIn_91 hl (by decide) rfl (fun ls hl => ?_)
      refine lv_lload_n hx hb dX0_valueIn_93 rfl (lv_at hl 3 rfl) ?_
      refine lv_ldc2 (own := RX0) (v := (32768 : Int64)) hx hb hown (hts (.constantLong RX0 75 (32768 : Int64)) (by decide +kernel)) dX0_valueIn_94 ?_
      refine lv_land hx hb dX0_valueIn_97 ?_
      refine lv_lconst (v := (0 : Int64)) hx hb dX0_valueIn_98 (by decide) ?_
      refine xj_l_eq (tgt := 109) hx hb dX0_valueIn_99 dX0_valueIn_100 (by decide) (fun c7 => ?_) (fun c7 => ?_)
      · replace hF := xj_t hF c7
        refine lv_lload hx hb dX0_valueIn_109 (lv_at hl 0 rfl) ?_
        exact W.lret (v := y6) hx hb hr (fun t ht hW => ⟨⟨_, (f, u, o), rfl, by rw [hF], by rw [ht]; exact hP, hD⟩, hS.F ht⟩) hS.2.2 dX0_valueIn_111
      · replace hF := xj_f hF c7
        refine lv_lload hx hb dX0_valueIn_103 (lv_at hl 0 rfl) ?_
        refine lv_lneg hx hb dX0_valueIn_105 ?_
        refine lv_goto (tgt := 111) hx hb dX0_valueIn_106 (by decide) ?_
        exact W.lret (v := (-y6)) hx hb hr (fun t ht hW => ⟨⟨_, (f, u, o), rfl, by rw [hF], by rw [ht]; exact hP, hD⟩, hS.F ht⟩) hS.2.2 dX0_valueIn_111
    · replace hF := xj_t hF c4
      refine lv_lconst (v := (0 : Int64)) hx hb dX0_valueIn_42 (by decide) ?_
      exact W.lret (v := (0 : Int64)) hx hb hr (fun t ht hW => ⟨⟨_, (f, u, o), rfl, by rw [hF], by rw [ht]; exact hP, hD⟩, hS.F ht⟩) hS.2.2 dX0_valueIn_43
  · refine lv_icmp_ne (tgt := 18) hx hb dX0_valueIn_2 (by decide) (fun c1 => ?_) (fun c1 => ?_)
    · replace ey2 := xj_f ey2 c1
      refine lv_aload_n hx hb dX0_valueIn_18 rfl (lv_at hl 0 rfl) ?_
      refine va_get (D := (dC, dI)) (ci := 0) (v := .ref h_f) (C := RX0) (T := TX0) (N := 3) hx hb hts (by decide +kernel) hown hK hP 0 rfl rfl 0 (by decide) (hts (.fieldLink RX0 9 "ExactFloats" "registers" "[J") (by decide +kernel)) (fun _ h9 => h9) rfl dX0_valueIn_19 ?_
      refine lv_iload_n hx hb dX0_valueIn_22 rfl (lv_at hl 2 rfl) ?_
      refine va_lald hx hb hK hP 1 0 rfl rfl (hin2) dX0_valueIn_23 ?_
      subst ey2
      exact K24 _ _ ⟨lv_sub hl [0, 1, 2] rfl, rfl⟩
    · replace ey2 := xj_t ey2 c1
      refine lv_aload_n hx hb dX0_valueIn_5 rfl (lv_at hl 0 rfl) ?_
      refine va_get (D := (dC, dI)) (ci := 0) (v := .ref h_f) (C := RX0) (T := TX0) (N := 3) hx hb hts (by decide +kernel) hown hK hP 0 rfl rfl 0 (by decide) (hts (.fieldLink RX0 9 "ExactFloats" "registers" "[J") (by decide +kernel)) (fun _ h9 => h9) rfl dX0_valueIn_6 ?_
      refine lv_iload_n hx hb dX0_valueIn_9 rfl (lv_at hl 2 rfl) ?_
      refine va_lald hx hb hK hP 1 0 rfl rfl (hin2) dX0_valueIn_10 ?_
      refine lv_ldc2 (own := RX0) (v := (4294967295 : Int64)) hx hb hown (hts (.constantLong RX0 80 (4294967295 : Int64)) (by decide +kernel)) dX0_valueIn_11 ?_
      refine lv_land hx hb dX0_valueIn_14 ?_
      refine lv_goto (tgt := 24) hx hb dX0_valueIn_15 (by decide) ?_
      subst ey2
      exact K24 _ _ ⟨lv_sub hl [0, 1, 2] rfl, rfl⟩
def mf_X0_bitsOf (p1 : Int32) (p2 : Int32) (p3 : Int64) : Int64 := (xj_bnd (if p1 = 0 then (0 : Int32) else (32768 : Int32)) (fun y2 => ((((((Int32.toInt64 y2) ||| (xj_shl (Int32.toInt64 p2) (7 : Int32))) ||| (xj_ush p3 (48 : Int32))) ||| (xj_shl ((xj_ush p3 (32 : Int32)) &&& (65535 : Int64)) (16 : Int32))) ||| (xj_shl ((xj_ush p3 (16 : Int32)) &&& (65535 : Int64)) (32 : Int32))) ||| (xj_shl (p3 &&& (65535 : Int64)) (48 : Int32)))))
set_option maxHeartbeats 4000000 in
set_option maxRecDepth 100000 in
theorem mc_X0_bitsOf (l : Launch) (p1 : Int32) (p2 : Int32) (p3 : Int64) : xj_Pl l yX0_bitsOf wsX0_bitsOf ({ frames := 0, cells := 0, slots := 0, locals := 0 }) [.int p1, .int p2, .long p3] (mf_X0_bitsOf p1 p2 p3) := by
  intro sz
  refine Met.ofW (cc := cX0_bitsOf) (maxL := 4) (ret := (some .long)) (by decide) rfl ?_
  intro p e s m args below meth c s₁ B hml hv
  obtain ⟨rfl, hsz⟩ := hv
  have hx := B.exec
  have hb := B.bytes
  have hr := B.returns
  have hts := atoms_spec (ws := wsX0_bitsOf) B.pre
  have hown : s.vm.findClass RX0 = some m.cls := findClass_of_methodNamed B.named
  have hlocks := B.notSynchronized
  subst hsz
  generalize hAe : va_A [] s.heap.size = A
  have hA : ∀ q : Nat, s.heap.size ≤ q → A q := fun q h => by rw [← hAe]; exact Or.inr h
  have hS : va_S A s.heap s.heap [] := va_S.rf
  generalize hT : mf_X0_bitsOf p1 p2 p3 = T
  have hF := hT.symm
  unfold mf_X0_bitsOf at hF
  have hl := lv_entry ([.int p1, .int p2, .long p3]) (n := 4) (Nat.le_of_ble_eq_true rfl)
  rw [lg_entry_eq]
  generalize (lg_sl ([.int p1, .int p2, .long p3]) ++ List.replicate (4 - (lg_sl ([.int p1, .int p2, .long p3])).length) Slot.unset).toArray = ls at hl ⊢
  have hl : lv_has ls 4 [(0, .int p1), (1, .int p2), (2, .long p3)] := hl
  refine lv_iload_n hx hb dX0_bitsOf_0 rfl (lv_at hl 0 rfl) ?_
  obtain ⟨y2, ey2⟩ : ∃ z : Int32, z = (if p1 = 0 then (0 : Int32) else (32768 : Int32)) := ⟨_, rfl⟩
  replace hF := xj_bz hF ey2
  refine xj_join 10 (fun ls' st' => lv_has ls' 4 [(0, .int p1), (1, .int p2), (2, .long p3)] ∧ st' = [.int y2]) ?_ (fun K10 => ?_)
  · rintro ls st ⟨hl, rfl⟩
    refine lv_i2l (v := (Int32.toInt64 y2)) hx hb dX0_bitsOf_10 rfl ?_
    refine lv_iload_n hx hb dX0_bitsOf_11 rfl (lv_at hl 1 rfl) ?_
    refine lv_i2l (v := (Int32.toInt64 p2)) hx hb dX0_bitsOf_12 rfl ?_
    refine lv_bipush (v := (7 : Int32)) hx hb dX0_bitsOf_13 (by decide) ?_
    refine lv_lshl (v := (xj_shl (Int32.toInt64 p2) (7 : Int32))) hx hb dX0_bitsOf_15 rfl ?_
    refine lv_lor hx hb dX0_bitsOf_16 ?_
    refine lv_lload_n hx hb dX0_bitsOf_17 rfl (lv_at hl 2 rfl) ?_
    refine lv_bipush (v := (48 : Int32)) hx hb dX0_bitsOf_18 (by decide) ?_
    refine lv_lushr (v := (xj_ush p3 (48 : Int32))) hx hb dX0_bitsOf_20 rfl ?_
    refine lv_lor hx hb dX0_bitsOf_21 ?_
    refine lv_lload_n hx hb dX0_bitsOf_22 rfl (lv_at hl 2 rfl) ?_
    refine lv_bipush (v := (32 : Int32)) hx hb dX0_bitsOf_23 (by decide) ?_
    refine lv_lushr (v := (xj_ush p3 (32 : Int32))) hx hb dX0_bitsOf_25 rfl ?_
    refine lv_ldc2 (own := RX0) (v := (65535 : Int64)) hx hb hown (hts (.constantLong RX0 86 (65535 : Int64)) (by decide +kernel)) dX0_bitsOf_26 ?_
    refine lv_land hx hb dX0_bitsOf_29 ?_
    refine lv_bipush (v := (16 : Int32)) hx hb dX0_bitsOf_30 (by decide) ?_
    refine lv_lshl (v := (xj_shl ((xj_ush p3 (32 : Int32)) &&& (65535 : Int64)) (16 : Int32))) hx hb dX0_bitsOf_32 rfl ?_
    refine lv_lor hx hb dX0_bitsOf_33 ?_
    refine lv_lload_n hx hb dX0_bitsOf_34 rfl (lv_at hl 2 rfl) ?_
    refine lv_bipush (v := (16 : Int32)) hx hb dX0_bitsOf_35 (by decide) ?_
    refine lv_lushr (v := (xj_ush p3 (16 : Int32))) hx hb dX0_bitsOf_37 rfl ?_
    refine lv_ldc2 (own := RX0) (v := (65535 : Int64)) hx hb hown (hts (.constantLong RX0 86 (65535 : Int64)) (by decide +kernel)) dX0_bitsOf_38 ?_
    refine lv_land hx hb dX0_bitsOf_41 ?_
    refine lv_bipush (v := (32 : Int32)) hx hb dX0_bitsOf_42 (by decide) ?_
    refine lv_lshl (v := (xj_shl ((xj_ush p3 (16 : Int32)) &&& (65535 : Int64)) (32 : Int32))) hx hb dX0_bitsOf_44 rfl ?_
    refine lv_lor hx hb dX0_bitsOf_45 ?_
    refine lv_lload_n hx hb dX0_bitsOf_46 rfl (lv_at hl 2 rfl) ?_
    refine lv_ldc2 (own := RX0) (v := (65535 : Int64)) hx hb hown (hts (.constantLong RX0 86 (65535 : Int64)) (by decide +kernel)) dX0_bitsOf_47 ?_
    refine lv_land hx hb dX0_bitsOf_50 ?_
    refine lv_bipush (v := (48 : Int32)) hx hb dX0_bitsOf_51 (by decide) ?_
    refine lv_lshl (v := (xj_shl (p3 &&& (65535 : Int64)) (48 : Int32))) hx hb dX0_bitsOf_53 rfl ?_
    refine lv_lor hx hb dX0_bitsOf_54 ?_
    exact W.lret (v := ((((((Int32.toInt64 y2) ||| (xj_shl (Int32.toInt64 p2) (7 : Int32))) ||| (xj_ush p3 (48 : Int32))) ||| (xj_shl ((xj_ush p3 (32 : Int32)) &&& (65535 : Int64)) (16 : Int32))) ||| (xj_shl ((xj_ush p3 (16 : Int32)) &&& (65535 : Int64)) (32 : Int32))) ||| (xj_shl (p3 &&& (65535 : Int64)) (48 : Int32)))) hx hb hr (fun t ht hW => ⟨⟨_, (), rfl, hF.symm, trivial⟩, hS.F ht⟩) hS.2.2 dX0_bitsOf_55
  · refine lv_if_eq (tgt := 9) hx hb dX0_bitsOf_1 (by decide) (fun c1 => ?_) (fun c1 => ?_)
    · replace ey2 := xj_t ey2 c1
      refine lv_iconst (v := (0 : Int32)) hx hb dX0_bitsOf_9 (by decide) ?_
      subst ey2
      exact K10 _ _ ⟨lv_sub hl [0, 1, 2] rfl, rfl⟩
    · replace ey2 := xj_f ey2 c1
      refine lv_ldc (own := RX0) (v := (32768 : Int32)) hx hb hown (hts (.constant RX0 88 (32768 : Int32)) (by decide +kernel)) dX0_bitsOf_4 ?_
      refine lv_goto (tgt := 10) hx hb dX0_bitsOf_6 (by decide) ?_
      subst ey2
      exact K10 _ _ ⟨lv_sub hl [0, 1, 2] rfl, rfl⟩
def mf_X0_exponentOf (p1 : Int64) : Int32 := (xj_bnd (xj_abs p1) (fun y1 => (Int64.toInt32 (xj_ush y1 (55 : Int32)))))
set_option maxHeartbeats 4000000 in
set_option maxRecDepth 100000 in
theorem mc_X0_exponentOf (l : Launch) (p1 : Int64) : xj_Pi l yX0_exponentOf wsX0_exponentOf ({ frames := 1, cells := 0, slots := 0, locals := 13 }) [.long p1] (mf_X0_exponentOf p1) := by
  intro sz
  refine Met.ofW (cc := cX0_exponentOf) (maxL := 2) (ret := (some .int)) (by decide) rfl ?_
  intro p e s m args below meth c s₁ B hml hv
  obtain ⟨rfl, hsz⟩ := hv
  have hx := B.exec
  have hb := B.bytes
  have hr := B.returns
  have hts := atoms_spec (ws := wsX0_exponentOf) B.pre
  have hown : s.vm.findClass RX0 = some m.cls := findClass_of_methodNamed B.named
  have hlocks := B.notSynchronized
  subst hsz
  generalize hAe : va_A [] s.heap.size = A
  have hA : ∀ q : Nat, s.heap.size ≤ q → A q := fun q h => by rw [← hAe]; exact Or.inr h
  have hS : va_S A s.heap s.heap [] := va_S.rf
  generalize hT : mf_X0_exponentOf p1 = T
  have hF := hT.symm
  unfold mf_X0_exponentOf at hF
  have hl := lv_entry ([.long p1]) (n := 2) (Nat.le_of_ble_eq_true rfl)
  rw [lg_entry_eq]
  generalize (lg_sl ([.long p1]) ++ List.replicate (2 - (lg_sl ([.long p1])).length) Slot.unset).toArray = ls at hl ⊢
  have hl : lv_has ls 2 [(0, .long p1)] := hl
  refine lv_lload_n hx hb dX0_exponentOf_0 rfl (lv_at hl 0 rfl) ?_
  refine va_mabs_long (x := p1) hx hb (by rw [hml]; exact hl.1.symm) hown (hts (.methodLink RX0 63 Lib.MathLoose.abs_long.x) (by decide +kernel)) (hts (.static Lib.MathLoose.abs_long.x) (by decide +kernel)) (hts (.initialized "java/lang/Math") (by decide +kernel)) (hts _ (by decide +kernel)) (Nat.le_of_ble_eq_true rfl) (Nat.le_of_ble_eq_true rfl) (Nat.zero_le _) (Nat.zero_le _) dX0_exponentOf_1 ?_
  refine lv_topl (fun y1 ey1 => ?_)
  replace hF := xj_bz hF ey1
  refine lv_bipush (v := (55 : Int32)) hx hb dX0_exponentOf_4 (by decide) ?_
  refine lv_lushr (v := (xj_ush y1 (55 : Int32))) hx hb dX0_exponentOf_6 rfl ?_
  refine lv_l2i (v := (Int64.toInt32 (xj_ush y1 (55 : Int32)))) hx hb dX0_exponentOf_7 rfl ?_
  exact W.iret (v := (Int64.toInt32 (xj_ush y1 (55 : Int32)))) hx hb hr (fun t ht hW => ⟨⟨_, (), rfl, hF.symm, trivial⟩, hS.F ht⟩) hS.2.2 dX0_exponentOf_8
def mf_X0_significandOf (p1 : Int64) : Int64 := (xj_bnd (xj_abs p1) (fun y1 => ((y1 &&& (36028797018963967 : Int64)) ||| (36028797018963968 : Int64))))
set_option maxHeartbeats 4000000 in
set_option maxRecDepth 100000 in
theorem mc_X0_significandOf (l : Launch) (p1 : Int64) : xj_Pl l yX0_significandOf wsX0_significandOf ({ frames := 1, cells := 0, slots := 0, locals := 13 }) [.long p1] (mf_X0_significandOf p1) := by
  intro sz
  refine Met.ofW (cc := cX0_significandOf) (maxL := 2) (ret := (some .long)) (by decide) rfl ?_
  intro p e s m args below meth c s₁ B hml hv
  obtain ⟨rfl, hsz⟩ := hv
  have hx := B.exec
  have hb := B.bytes
  have hr := B.returns
  have hts := atoms_spec (ws := wsX0_significandOf) B.pre
  have hown : s.vm.findClass RX0 = some m.cls := findClass_of_methodNamed B.named
  have hlocks := B.notSynchronized
  subst hsz
  generalize hAe : va_A [] s.heap.size = A
  have hA : ∀ q : Nat, s.heap.size ≤ q → A q := fun q h => by rw [← hAe]; exact Or.inr h
  have hS : va_S A s.heap s.heap [] := va_S.rf
  generalize hT : mf_X0_significandOf p1 = T
  have hF := hT.symm
  unfold mf_X0_significandOf at hF
  have hl := lv_entry ([.long p1]) (n := 2) (Nat.le_of_ble_eq_true rfl)
  rw [lg_entry_eq]
  generalize (lg_sl ([.long p1]) ++ List.replicate (2 - (lg_sl ([.long p1])).length) Slot.unset).toArray = ls at hl ⊢
  have hl : lv_has ls 2 [(0, .long p1)] := hl
  refine lv_lload_n hx hb dX0_significandOf_0 rfl (lv_at hl 0 rfl) ?_
  refine va_mabs_long (x := p1) hx hb (by rw [hml]; exact hl.1.symm) hown (hts (.methodLink RX0 63 Lib.MathLoose.abs_long.x) (by decide +kernel)) (hts (.static Lib.MathLoose.abs_long.x) (by decide +kernel)) (hts (.initialized "java/lang/Math") (by decide +kernel)) (hts _ (by decide +kernel)) (Nat.le_of_ble_eq_true rfl) (Nat.le_of_ble_eq_true rfl) (Nat.zero_le _) (Nat.zero_le _) dX0_significandOf_1 ?_
  refine lv_topl (fun y1 ey1 => ?_)
  replace hF := xj_bz hF ey1
  refine lv_ldc2 (own := RX0) (v := (36028797018963967 : Int64)) hx hb hown (hts (.constantLong RX0 89 (36028797018963967 : Int64)) (by decide +kernel)) dX0_significandOf_4 ?_
  refine lv_land hx hb dX0_significandOf_7 ?_
  refine lv_ldc2 (own := RX0) (v := (36028797018963968 : Int64)) hx hb hown (hts (.constantLong RX0 91 (36028797018963968 : Int64)) (by decide +kernel)) dX0_significandOf_8 ?_
  refine lv_lor hx hb dX0_significandOf_11 ?_
  exact W.lret (v := ((y1 &&& (36028797018963967 : Int64)) ||| (36028797018963968 : Int64))) hx hb hr (fun t ht hW => ⟨⟨_, (), rfl, hF.symm, trivial⟩, hS.F ht⟩) hS.2.2 dX0_significandOf_12
def mf_X0_storeZero (f : Nat → Int64) (u : Int32) (o : Int32) (p1 : Int32) (p2 : Int32) : Int32 × (Nat → Int64) × Int32 × Int32 := ((4 : Int32), ((vp_updL f (Int32.toNatClampNeg p1) (0 : Int64)), u, p2))
set_option maxHeartbeats 4000000 in
set_option maxRecDepth 100000 in
theorem mc_X0_storeZero (l : Launch) (dC : Nat → ClassId) (dI : Nat → Nat → Nat) (h0 h_f : Nat) (cA_f : ClassId) (f : Nat → Int64) (u : Int32) (o : Int32) (p1 : Int32) (p2 : Int32) (hin1 : vp_in p1 8) (hb2 : p2 = 0 ∨ p2 = 1) : xj_Oi l (dC, dI) vwCl [(cA_f, .long)] (mw_X0 h0 h_f cA_f) yX0_storeZero wsX0_storeZero ({ frames := 0, cells := 0, slots := 0, locals := 0 }) [.ref h0, .int p1, .int p2] (f, u, o) (mf_X0_storeZero f u o p1 p2) := by
  intro sz
  refine Met.ofW (cc := cX0_storeZero) (maxL := 3) (ret := (some .int)) (by decide) rfl ?_
  intro p e s m args below meth c s₁ B hml hv
  obtain ⟨rfl, hsz, hP, hK, hD0⟩ := hv
  have hx := B.exec
  have hb := B.bytes
  have hr := B.returns
  have hts := atoms_spec (ws := wsX0_storeZero) B.pre
  have hown : s.vm.findClass RX0 = some m.cls := findClass_of_methodNamed B.named
  have hlocks := B.notSynchronized
  subst hsz
  have hD := hD0.self (sz := s.heap.size)
  generalize hAe : va_A (mw_X0 h0 h_f cA_f (f, u, o)) s.heap.size = A at hD ⊢
  have hA : ∀ q : Nat, s.heap.size ≤ q → A q := fun q h => by rw [← hAe]; exact Or.inr h
  have hS : va_S A s.heap s.heap [] := va_S.rf
  have hP : va_P (dC, dI) vwCl [(h0, .inr (0, [.ref h_f, .int u, .int o])), (h_f, .inl (cA_f, 8, .inr (.inl f)))] s.heap := hP
  have hD : va_D A [(h0, .inr (0, [.ref h_f, .int u, .int o])), (h_f, .inl (cA_f, 8, .inr (.inl f)))] := hD
  generalize hT : mf_X0_storeZero f u o p1 p2 = T
  have hF := hT.symm
  unfold mf_X0_storeZero at hF
  have hl := lv_entry ([.ref h0, .int p1, .int p2]) (n := 3) (Nat.le_of_ble_eq_true rfl)
  rw [lg_entry_eq]
  generalize (lg_sl ([.ref h0, .int p1, .int p2]) ++ List.replicate (3 - (lg_sl ([.ref h0, .int p1, .int p2])).length) Slot.unset).toArray = ls at hl ⊢
  have hl : lv_has ls 3 [(0, .ref h0), (1, .int p1), (2, .int p2)] := hl
  refine lv_aload_n hx hb dX0_storeZero_0 rfl (lv_at hl 0 rfl) ?_
  refine va_get (D := (dC, dI)) (ci := 0) (v := .ref h_f) (C := RX0) (T := TX0) (N := 3) hx hb hts (by decide +kernel) hown hK hP 0 rfl rfl 0 (by decide) (hts (.fieldLink RX0 9 "ExactFloats" "registers" "[J") (by decide +kernel)) (fun _ h9 => h9) rfl dX0_storeZero_1 ?_
  refine lv_iload_n hx hb dX0_storeZero_4 rfl (lv_at hl 1 rfl) ?_
  refine lv_lconst (v := (0 : Int64)) hx hb dX0_storeZero_5 (by decide) ?_
  refine va_last hx hb hK hP hD hS 1 0 rfl rfl (hin1) dX0_storeZero_6 (fun H9 locs9 hP hD hS => ?_)
  have hP : va_P (dC, dI) vwCl [(h0, .inr (0, [.ref h_f, .int u, .int o])), (h_f, .inl (cA_f, 8, .inr (.inl (vp_updL f (Int32.toNatClampNeg p1) (0 : Int64)))))] _ := hP
  have hD : va_D A [(h0, .inr (0, [.ref h_f, .int u, .int o])), (h_f, .inl (cA_f, 8, .inr (.inl (vp_updL f (Int32.toNatClampNeg p1) (0 : Int64)))))] := hD
  refine lv_aload_n hx hb dX0_storeZero_7 rfl (lv_at hl 0 rfl) ?_
  refine lv_iload_n hx hb dX0_storeZero_8 rfl (lv_at hl 2 rfl) ?_
  refine va_put (D := (dC, dI)) (ci := 0) (v := .int p2) (ty := .boolean) (C := RX0) (T := TX0) (N := 3) hx hb hts (by decide +kernel) tyX0 tyX0_ok nmX0 hown hK hP hD hS 0 rfl rfl 2 (by decide) (hts (.fieldLink RX0 17 "ExactFloats" "lastWasInexact" "Z") (by decide +kernel)) (fun _ h9 => h9) rfl (by decide +kernel) (xj_nb (hb2)) (xj_fb (hb2)) (Nat.le_of_ble_eq_true rfl) dX0_storeZero_9 (fun H9 locs9 hP hD hS => ?_)
  have hP : va_P (dC, dI) vwCl [(h0, .inr (0, [.ref h_f, .int u, .int p2])), (h_f, .inl (cA_f, 8, .inr (.inl (vp_updL f (Int32.toNatClampNeg p1) (0 : Int64)))))] _ := hP
  have hD : va_D A [(h0, .inr (0, [.ref h_f, .int u, .int p2])), (h_f, .inl (cA_f, 8, .inr (.inl (vp_updL f (Int32.toNatClampNeg p1) (0 : Int64)))))] := hD
  refine lv_iconst (v := (4 : Int32)) hx hb dX0_storeZero_12 (by decide) ?_
  exact W.iret (v := (4 : Int32)) hx hb hr (fun t ht hW => ⟨⟨_, ((vp_updL f (Int32.toNatClampNeg p1) (0 : Int64)), u, p2), rfl, hF.symm, by rw [ht]; exact hP, hD⟩, hS.F ht⟩) hS.2.2 dX0_storeZero_13
set_option maxHeartbeats 4000000 in
set_option maxRecDepth 100000 in
theorem mc_X0_init (l : Launch) (dC : Nat → ClassId) (dI : Nat → Nat → Nat) (h0 sz : Nat) : Met l yX0_init wsX0_init ({ frames := 1, cells := 1, slots := 8, locals := 12 }) (va_Pc [.ref h0] (fun U => U.heap.size = sz ∧ va_P (dC, dI) vwCl [(h0, .inr (0, [.null, .int (0 : Int32), .int (0 : Int32)]))] U.heap ∧ va_K (dC, dI) vwCl [] U ∧ va_D (fun _ => True) [(h0, .inr (0, [.null, .int (0 : Int32), .int (0 : Int32)]))])) (va_Qv (fun (_ : Nat × ClassId) => True) (fun u t => va_P (dC, dI) vwCl (mw_X0 h0 u.1 u.2 (fun _ => 0, 0, 0)) t.heap ∧ va_K (dC, dI) vwCl [(u.2, .long)] t ∧ va_D (va_A [(h0, .inr (0, [.null, .int (0 : Int32), .int (0 : Int32)]))] sz) (mw_X0 h0 u.1 u.2 (fun _ => 0, 0, 0))) (va_A [(h0, .inr (0, [.null, .int (0 : Int32), .int (0 : Int32)]))] sz)) 1 8 (va_A [(h0, .inr (0, [.null, .int (0 : Int32), .int (0 : Int32)]))] sz) := by
  refine Met.ofW (cc := cX0_init) (maxL := 1) (ret := none) (by decide) rfl ?_
  intro p e s m args below meth c s₁ B hml hv
  obtain ⟨rfl, hsz, hP, hK, hD0⟩ := hv
  have hx := B.exec
  have hb := B.bytes
  have hr := B.returns
  have hts := atoms_spec (ws := wsX0_init) B.pre
  have hown : s.vm.findClass RX0 = some m.cls := findClass_of_methodNamed B.named
  have hin : meth.name = "<init>" := (name_of_methodNamed B.named B.method).1
  subst hsz
  have hD := hD0.self (sz := s.heap.size)
  generalize hAe : va_A [(h0, .inr (0, [.null, .int (0 : Int32), .int (0 : Int32)]))] s.heap.size = A at hD ⊢
  have hA : ∀ q : Nat, s.heap.size ≤ q → A q := fun q h => by rw [← hAe]; exact Or.inr h
  have hS : va_S A s.heap s.heap [] := va_S.rf
  have hP : va_P (dC, dI) vwCl [(h0, .inr (0, [.null, .int (0 : Int32), .int (0 : Int32)]))] s.heap := hP
  have hl := lv_entry ([.ref h0]) (n := 1) (Nat.le_of_ble_eq_true rfl)
  rw [lg_entry_eq]
  generalize (lg_sl ([.ref h0]) ++ List.replicate (1 - (lg_sl ([.ref h0])).length) Slot.unset).toArray = ls at hl ⊢
  have hl : lv_has ls 1 [(0, .ref h0)] := hl
  refine lv_aload_n hx hb dX0_init_0 rfl (lv_at hl 0 rfl) ?_
  refine W.objInit hx hb hown (hts (.methodLink RX0 3 objectInit) (by decide +kernel)) (hts (.instanceMethod objectInit) (by decide +kernel)) (hts (.code objectInit ⟨#[0xb1]⟩ 1 none) (by decide +kernel)) rfl (by rw [hml]; exact hl.1) rfl dX0_init_1 (Nat.le_of_ble_eq_true rfl) (Nat.le_of_ble_eq_true rfl) ?_
  refine W.eq (g2 := F0 m 4 ls []) rfl ?_
  refine lv_aload_n hx hb dX0_init_4 rfl (lv_at hl 0 rfl) ?_
  refine lv_bipush (v := (8 : Int32)) hx hb dX0_init_5 (by decide) ?_
  refine va_newa (atype := .long) (ty := .long) (N' := 8) (a0 := (8, .inr (.inl (fun _ => 0)))) hx hb (hts (.arrayClass .long) (by decide +kernel)) rfl hK hP hD hS hA (fun _ => rfl) (by decide +kernel) (by decide +kernel) (by decide +kernel) (Nat.le_of_ble_eq_true rfl) (Nat.le_of_ble_eq_true rfl) dX0_init_7 (fun q1 cA1 H9 hK hP hD hS => ?_)
  have hK : va_K (dC, dI) vwCl [(cA1, .long)] s := hK
  have hP : va_P (dC, dI) vwCl [(h0, .inr (0, [.null, .int (0 : Int32), .int (0 : Int32)])), (q1, .inl (cA1, 8, .inr (.inl (fun _ => 0))))] _ := hP
  have hD : va_D A [(h0, .inr (0, [.null, .int (0 : Int32), .int (0 : Int32)])), (q1, .inl (cA1, 8, .inr (.inl (fun _ => 0))))] := hD
  refine W.widen (k := 1) (n := 8) (Nat.le_of_ble_eq_true rfl) (Nat.le_of_ble_eq_true rfl) ?_
  refine va_putF (D := (dC, dI)) (ci := 0) (v := .ref q1) (ty := .array .long) (C := RX0) (T := TX0) (N := 3) hx hb hts (by decide +kernel) tyX0 tyX0_ok nmX0 hown hK hP hD hS 0 rfl rfl 0 (by decide) (hts (.fieldLink RX0 9 "ExactFloats" "registers" "[J") (by decide +kernel)) (fun _ h9 => h9) rfl hin rfl (by decide +kernel) rfl rfl (Nat.le_of_ble_eq_true rfl) dX0_init_9 (fun H9 locs9 hP hD hS => ?_)
  have hP : va_P (dC, dI) vwCl [(h0, .inr (0, [.ref q1, .int (0 : Int32), .int (0 : Int32)])), (q1, .inl (cA1, 8, .inr (.inl (fun _ => 0))))] _ := hP
  have hD : va_D A [(h0, .inr (0, [.ref q1, .int (0 : Int32), .int (0 : Int32)])), (q1, .inl (cA1, 8, .inr (.inl (fun _ => 0))))] := hD
  refine lv_aload_n hx hb dX0_init_12 rfl (lv_at hl 0 rfl) ?_
  refine lv_iconst (v := (0 : Int32)) hx hb dX0_init_13 (by decide) ?_
  refine va_put (D := (dC, dI)) (ci := 0) (v := .int (0 : Int32)) (ty := .boolean) (C := RX0) (T := TX0) (N := 3) hx hb hts (by decide +kernel) tyX0 tyX0_ok nmX0 hown hK hP hD hS 0 rfl rfl 1 (by decide) (hts (.fieldLink RX0 13 "ExactFloats" "underflowAsked" "Z") (by decide +kernel)) (fun _ h9 => h9) rfl (by decide +kernel) rfl rfl (Nat.le_of_ble_eq_true rfl) dX0_init_14 (fun H9 locs9 hP hD hS => ?_)
  have hP : va_P (dC, dI) vwCl [(h0, .inr (0, [.ref q1, .int (0 : Int32), .int (0 : Int32)])), (q1, .inl (cA1, 8, .inr (.inl (fun _ => 0))))] _ := hP
  have hD : va_D A [(h0, .inr (0, [.ref q1, .int (0 : Int32), .int (0 : Int32)])), (q1, .inl (cA1, 8, .inr (.inl (fun _ => 0))))] := hD
  refine lv_aload_n hx hb dX0_init_17 rfl (lv_at hl 0 rfl) ?_
  refine lv_iconst (v := (0 : Int32)) hx hb dX0_init_18 (by decide) ?_
  refine va_put (D := (dC, dI)) (ci := 0) (v := .int (0 : Int32)) (ty := .boolean) (C := RX0) (T := TX0) (N := 3) hx hb hts (by decide +kernel) tyX0 tyX0_ok nmX0 hown hK hP hD hS 0 rfl rfl 2 (by decide) (hts (.fieldLink RX0 17 "ExactFloats" "lastWasInexact" "Z") (by decide +kernel)) (fun _ h9 => h9) rfl (by decide +kernel) rfl rfl (Nat.le_of_ble_eq_true rfl) dX0_init_19 (fun H9 locs9 hP hD hS => ?_)
  have hP : va_P (dC, dI) vwCl [(h0, .inr (0, [.ref q1, .int (0 : Int32), .int (0 : Int32)])), (q1, .inl (cA1, 8, .inr (.inl (fun _ => 0))))] _ := hP
  have hD : va_D A [(h0, .inr (0, [.ref q1, .int (0 : Int32), .int (0 : Int32)])), (q1, .inl (cA1, 8, .inr (.inl (fun _ => 0))))] := hD
  exact W.vret hx hb hr (fun t ht hW => ⟨⟨(q1, cA1), rfl, trivial, by rw [ht]; exact hP, va_K.moved hW.alike hK, hD⟩, hS.F ht⟩) hS.2.2 dX0_init_22
end
section
def ml_X0_storeRounded_25 : Nat → Int64 → Int32 → Int32 → Int64 × Int32 × Int32
  | 0, v2, v3, v4 => (v2, v3, v4)
  | n + 1, v2, v3, v4 => (if (63 : Int32) ≤ v4 then (v2, v3, v4) else (if (4611686018427387904 : Int64) ≤ v2 then (v2, v3, v4) else (xj_bnd (xj_shl v2 (1 : Int32)) (fun y8 => (xj_bnd (v3 + (-1 : Int32)) (fun y9 => (xj_bnd (v4 + (1 : Int32)) (fun y10 => (ml_X0_storeRounded_25 n y8 y9 y10)))))))))
theorem ml_X0_storeRounded_25_s (n : Nat) (v2 : Int64) (v3 : Int32) (v4 : Int32) : ml_X0_storeRounded_25 (n + 1) v2 v3 v4 = (if (63 : Int32) ≤ v4 then (v2, v3, v4) else (if (4611686018427387904 : Int64) ≤ v2 then (v2, v3, v4) else (xj_bnd (xj_shl v2 (1 : Int32)) (fun y8 => (xj_bnd (v3 + (-1 : Int32)) (fun y9 => (xj_bnd (v4 + (1 : Int32)) (fun y10 => (ml_X0_storeRounded_25 n y8 y9 y10))))))))) := rfl
def mf_X0_storeRounded (f : Nat → Int64) (u : Int32) (o : Int32) (p1 : Int32) (p2 : Int32) (p3 : Int32) (p4 : Int32) (p5 : Int64) : Int32 × (Nat → Int64) × Int32 × Int32 := (if p5 = (0 : Int64) then (xj_bnd (mf_X0_storeZero f u o p2 (0 : Int32)) (fun q27 => (q27.1, (q27.2.1, q27.2.2.1, q27.2.2.2)))) else (xj_bnd (ml_X0_storeRounded_25 64 p5 p4 (0 : Int32)) (fun q5 => (xj_bnd (if p1 = (4 : Int32) then (39 : Int32) else (7 : Int32)) (fun y12 => (xj_bnd (if (q5.1 &&& ((xj_shl (1 : Int64) y12) - (1 : Int64))) = (0 : Int64) then (0 : Int32) else (1 : Int32)) (fun y14 => (xj_bnd (xj_shl (xj_ush (q5.1 + (xj_shl (1 : Int64) (y12 - (1 : Int32)))) y12) y12) (fun y15 => (xj_bnd (if (0 : Int64) ≤ y15 then y15 else (xj_bnd (xj_ush y15 (1 : Int32)) (fun y17 => (xj_bnd (q5.2.1 + (1 : Int32)) (fun y18 => y17))))) (fun y17 => (xj_bnd (if (0 : Int64) ≤ y15 then q5.2.1 else (xj_bnd (xj_ush y15 (1 : Int32)) (fun y17 => (xj_bnd (q5.2.1 + (1 : Int32)) (fun y18 => y18))))) (fun y18 => (if y18 ≤ (255 : Int32) then (if (1 : Int32) ≤ y18 then (xj_bnd (mf_X0_bitsOf p3 y18 ((xj_ush y17 (7 : Int32)) &&& (36028797018963967 : Int64))) (fun y21 => (if p3 = 0 then ((0 : Int32), ((vp_updL f (Int32.toNatClampNeg p2) y21), u, y14)) else ((8 : Int32), ((vp_updL f (Int32.toNatClampNeg p2) y21), u, y14))))) else (if u = 0 then (xj_bnd (mf_X0_storeZero f u o p2 (1 : Int32)) (fun q24 => (q24.1, (q24.2.1, q24.2.2.1, q24.2.2.2)))) else ((-3 : Int32), (f, u, o)))) else ((-2 : Int32), (f, u, o))))))))))))))))
set_option maxHeartbeats 4000000 in
set_option maxRecDepth 100000 in
theorem mc_X0_storeRounded (l : Launch) (dC : Nat → ClassId) (dI : Nat → Nat → Nat) (h0 h_f : Nat) (cA_f : ClassId) (f : Nat → Int64) (u : Int32) (o : Int32) (p1 : Int32) (p2 : Int32) (p3 : Int32) (p4 : Int32) (p5 : Int64) (hin2 : vp_in p2 8) : xj_Oi l (dC, dI) vwCl [(cA_f, .long)] (mw_X0 h0 h_f cA_f) yX0_storeRounded wsX0_storeRounded ({ frames := 1, cells := 0, slots := 0, locals := 23 }) [.ref h0, .int p1, .int p2, .int p3, .int p4, .long p5] (f, u, o) (mf_X0_storeRounded f u o p1 p2 p3 p4 p5) := by
  intro sz
  refine Met.ofW (cc := cX0_storeRounded) (maxL := 12) (ret := (some .int)) (by decide) rfl ?_
  intro p e s m args below meth c s₁ B hml hv
  obtain ⟨rfl, hsz, hP, hK, hD0⟩ := hv
  have hx := B.exec
  have hb := B.bytes
  have hr := B.returns
  have hts := atoms_spec (ws := wsX0_storeRounded) B.pre
  have hown : s.vm.findClass RX0 = some m.cls := findClass_of_methodNamed B.named
  have hlocks := B.notSynchronized
  subst hsz
  have hD := hD0.self (sz := s.heap.size)
  generalize hAe : va_A (mw_X0 h0 h_f cA_f (f, u, o)) s.heap.size = A at hD ⊢
  have hA : ∀ q : Nat, s.heap.size ≤ q → A q := fun q h => by rw [← hAe]; exact Or.inr h
  have hS : va_S A s.heap s.heap [] := va_S.rf
  have hP : va_P (dC, dI) vwCl [(h0, .inr (0, [.ref h_f, .int u, .int o])), (h_f, .inl (cA_f, 8, .inr (.inl f)))] s.heap := hP
  have hD : va_D A [(h0, .inr (0, [.ref h_f, .int u, .int o])), (h_f, .inl (cA_f, 8, .inr (.inl f)))] := hD
  generalize hT : mf_X0_storeRounded f u o p1 p2 p3 p4 p5 = T
  have hF := hT.symm
  unfold mf_X0_storeRounded at hF
  have hl := lv_entry ([.ref h0, .int p1, .int p2, .int p3, .int p4, .long p5]) (n := 12) (Nat.le_of_ble_eq_true rfl)
  rw [lg_entry_eq]
  generalize (lg_sl ([.ref h0, .int p1, .int p2, .int p3, .int p4, .long p5]) ++ List.replicate (12 - (lg_sl ([.ref h0, .int p1, .int p2, .int p3, .int p4, .long p5])).length) Slot.unset).toArray = ls at hl ⊢
  have hl : lv_has ls 12 [(0, .ref h0), (1, .int p1), (2, .int p2), (3, .int p3), (4, .int p4), (5, .long p5)] := hl
  refine lv_lload hx hb dX0_storeRounded_0 (lv_at hl 5 rfl) ?_
  refine lv_lconst (v := (0 : Int64)) hx hb dX0_storeRounded_2 (by decide) ?_
  refine xj_l_ne (tgt := 14) hx hb dX0_storeRounded_3 dX0_storeRounded_4 (by decide) (fun c1 => ?_) (fun c1 => ?_)
  · replace hF := xj_f hF c1
    refine lv_iload hx hb dX0_storeRounded_14 (lv_at hl 4 rfl) ?_
    refine lv_istore (lv' := [(7, .int p4), (0, .ref h0), (1, .int p1), (2, .int p2), (3, .int p3), (4, .int p4), (5, .long p5)]) hx hb dX0_storeRounded_16 hl (by decide) rfl (fun ls hl => ?_)
    refine lv_lload hx hb dX0_storeRounded_18 (lv_at hl 6 rfl) ?_
    refine lv_lstore (lv' := [(8, .long p5), (7, .int p4), (0, .ref h0), (1, .int p1), (2, .int p2), (3, .int p3), (4, .int p4), (5, .long p5)]) hx hb dX0_storeRounded_20 hl (by decide) rfl (fun ls hl => ?_)
    refine lv_iconst (v := (0 : Int32)) hx hb dX0_storeRounded_22 (by decide) ?_
    refine lv_istore (lv' := [(10, .int (0 : Int32)), (8, .long p5), (7, .int p4), (0, .ref h0), (1, .int p1), (2, .int p2), (3, .int p3), (4, .int p4), (5, .long p5)]) hx hb dX0_storeRounded_23 hl (by decide) rfl (fun ls hl => ?_)
    obtain ⟨q5, eq5⟩ : ∃ z : Int64 × Int32 × Int32, z = (ml_X0_storeRounded_25 64 p5 p4 (0 : Int32)) := ⟨_, rfl⟩
    replace hF := xj_bz hF eq5
    refine xj_join 56 (fun ls' st' => lv_has ls' 12 [(8, .long q5.1), (7, .int q5.2.1), (10, .int q5.2.2), (0, .ref h0), (1, .int p1), (2, .int p2), (3, .int p3), (4, .int p4), (5, .long p5)] ∧ st' = []) ?_ (fun K56 => ?_)
    · rintro ls st ⟨hl, rfl⟩
      refine lv_iload_n hx hb dX0_storeRounded_56 rfl (lv_at hl 4 rfl) ?_
      refine lv_iconst (v := (4 : Int32)) hx hb dX0_storeRounded_57 (by decide) ?_
      obtain ⟨y12, ey12⟩ : ∃ z : Int32, z = (if p1 = (4 : Int32) then (39 : Int32) else (7 : Int32)) := ⟨_, rfl⟩
      replace hF := xj_bz hF ey12
      refine xj_join 68 (fun ls' st' => lv_has ls' 12 [(8, .long q5.1), (7, .int q5.2.1), (10, .int q5.2.2), (0, .ref h0), (1, .int p1), (2, .int p2), (3, .int p3), (4, .int p4), (5, .long p5)] ∧ st' = [.int y12]) ?_ (fun K68 => ?_)
      · rintro ls st ⟨hl, rfl⟩
        refine lv_istore (lv' := [(10, .int y12), (8, .long q5.1), (7, .int q5.2.1), (0, .ref h0), (1, .int p1), (2, .int p2), (3, .int p3), (4, .int p4), (5, .long p5)]) hx hb dX0_storeRounded_68 hl (by decide) rfl (fun ls hl => ?_)
        refine lv_lload hx hb dX0_storeRounded_70 (lv_at hl 1 rfl) ?_
        refine lv_lconst (v := (1 : Int64)) hx hb dX0_storeRounded_72 (by decide) ?_
        refine lv_iload hx hb dX0_storeRounded_73 (lv_at hl 0 rfl) ?_
        refine lv_lshl (v := (xj_shl (1 : Int64) y12)) hx hb dX0_storeRounded_75 rfl ?_
        refine lv_lconst (v := (1 : Int64)) hx hb dX0_storeRounded_76 (by decide) ?_
        refine lv_lsub hx hb dX0_storeRounded_77 ?_
        refine lv_land hx hb dX0_storeRounded_78 ?_
        refine lv_lconst (v := (0 : Int64)) hx hb dX0_storeRounded_79 (by decide) ?_
        obtain ⟨y14, ey14⟩ : ∃ z : Int32, z = (if (q5.1 &&& ((xj_shl (1 : Int64) y12) - (1 : Int64))) = (0 : Int64) then (0 : Int32) else (1 : Int32)) := ⟨_, rfl⟩
        replace hF := xj_bz hF ey14
        refine xj_join 89 (fun ls' st' => lv_has ls' 12 [(10, .int y12), (8, .long q5.1), (7, .int q5.2.1), (0, .ref h0), (1, .int p1), (2, .int p2), (3, .int p3), (4, .int p4), (5, .long p5)] ∧ st' = [.int y14]) ?_ (fun K89 => ?_)
        · rintro ls st ⟨hl, rfl⟩
          refine lv_istore (lv' := [(11, .int y14), (10, .int y12), (8, .long q5.1), (7, .int q5.2.1), (0, .ref h0), (1, .int p1), (2, .int p2), (3, .int p3), (4, .int p4), (5, .long p5)]) hx hb dX0_storeRounded_89 hl (by decide) rfl (fun ls hl => ?_)
          refine lv_lload hx hb dX0_storeRounded_91 (lv_at hl 2 rfl) ?_
          refine lv_lconst (v := (1 : Int64)) hx hb dX0_storeRounded_93 (by decide) ?_
          refine lv_iload hx hb dX0_storeRounded_94 (lv_at hl 1 rfl) ?_
          refine lv_iconst (v := (1 : Int32)) hx hb dX0_storeRounded_96 (by decide) ?_
          refine lv_isub hx hb dX0_storeRounded_97 ?_
          refine lv_lshl (v := (xj_shl (1 : Int64) (y12 - (1 : Int32)))) hx hb dX0_storeRounded_98 rfl ?_
          refine lv_ladd hx hb dX0_storeRounded_99 ?_
          refine lv_iload hx hb dX0_storeRounded_100 (lv_at hl 1 rfl) ?_
          refine lv_lushr (v := (xj_ush (q5.1 + (xj_shl (1 : Int64) (y12 - (1 : Int32)))) y12)) hx hb dX0_storeRounded_102 rfl ?_
          refine lv_iload hx hb dX0_storeRounded_103 (lv_at hl 1 rfl) ?_
          refine lv_lshl (v := (xj_shl (xj_ush (q5.1 + (xj_shl (1 : Int64) (y12 - (1 : Int32)))) y12) y12)) hx hb dX0_storeRounded_105 rfl ?_
          refine lv_topl (fun y15 ey15 => ?_)
          replace hF := xj_bz hF ey15
          refine lv_lstore (lv' := [(8, .long y15), (11, .int y14), (10, .int y12), (7, .int q5.2.1), (0, .ref h0), (1, .int p1), (2, .int p2), (3, .int p3), (4, .int p4), (5, .long p5)]) hx hb dX0_storeRounded_106 hl (by decide) rfl (fun ls hl => ?_)
          refine lv_lload hx hb dX0_storeRounded_108 (lv_at hl 0 rfl) ?_
          refine lv_lconst (v := (0 : Int64)) hx hb dX0_storeRounded_110 (by decide) ?_
          obtain ⟨y17, ey17⟩ : ∃ z : Int64, z = (if (0 : Int64) ≤ y15 then y15 else (xj_bnd (xj_ush y15 (1 : Int32)) (fun y17 => (xj_bnd (q5.2.1 + (1 : Int32)) (fun y18 => y17))))) := ⟨_, rfl⟩
          replace hF := xj_bz hF ey17
          obtain ⟨y18, ey18⟩ : ∃ z : Int32, z = (if (0 : Int64) ≤ y15 then q5.2.1 else (xj_bnd (xj_ush y15 (1 : Int32)) (fun y17 => (xj_bnd (q5.2.1 + (1 : Int32)) (fun y18 => y18))))) := ⟨_, rfl⟩
          replace hF := xj_bz hF ey18
          refine xj_join 124 (fun ls' st' => lv_has ls' 12 [(8, .long y17), (11, .int y14), (10, .int y12), (7, .int y18), (0, .ref h0), (1, .int p1), (2, .int p2), (3, .int p3), (4, .int p4), (5, .long p5)] ∧ st' = []) ?_ (fun K124 => ?_)
          · rintro ls st ⟨hl, rfl⟩
            refine lv_iload hx hb dX0_storeRounded_124 (lv_at hl 3 rfl) ?_
            refine lv_sipush (v := (255 : Int32)) hx hb dX0_storeRounded_126 (by decide) ?_
            refine lv_icmp_le (tgt := 135) hx hb dX0_storeRounded_129 (by decide) (fun c19 => ?_) (fun c19 => ?_)
            · replace hF := xj_t hF c19
              refine lv_iload hx hb dX0_storeRounded_135 (lv_at hl 3 rfl) ?_
              refine lv_iconst (v := (1 : Int32)) hx hb dX0_storeRounded_137 (by decide) ?_
              refine lv_icmp_ge (tgt := 160) hx hb dX0_storeRounded_138 (by decide) (fun c20 => ?_) (fun c20 => ?_)
              · replace hF := xj_t hF c20
                refine lv_aload_n hx hb dX0_storeRounded_160 rfl (lv_at hl 4 rfl) ?_
                refine va_get (D := (dC, dI)) (ci := 0) (v := .ref h_f) (C := RX0) (T := TX0) (N := 3) hx hb hts (by decide +kernel) hown hK hP 0 rfl rfl 0 (by decide) (hts (.fieldLink RX0 9 "ExactFloats" "registers" "[J") (by decide +kernel)) (fun _ h9 => h9) rfl dX0_storeRounded_161 ?_
                refine lv_iload_n hx hb dX0_storeRounded_164 rfl (lv_at hl 6 rfl) ?_
                refine lv_iload_n hx hb dX0_storeRounded_165 rfl (lv_at hl 7 rfl) ?_
                refine lv_iload hx hb dX0_storeRounded_166 (lv_at hl 3 rfl) ?_
                refine lv_lload hx hb dX0_storeRounded_168 (lv_at hl 0 rfl) ?_
                refine lv_bipush (v := (7 : Int32)) hx hb dX0_storeRounded_170 (by decide) ?_
                refine lv_lushr (v := (xj_ush y17 (7 : Int32))) hx hb dX0_storeRounded_172 rfl ?_
                refine lv_ldc2 (own := RX0) (v := (36028797018963967 : Int64)) hx hb hown (hts (.constantLong RX0 89 (36028797018963967 : Int64)) (by decide +kernel)) dX0_storeRounded_173 ?_
                refine lv_land hx hb dX0_storeRounded_176 ?_
                refine xj_sl (As := [.int p3, .int y18, .long ((xj_ush y17 (7 : Int32)) &&& (36028797018963967 : Int64))]) (rest := [.int p2, .ref h_f]) ⟨hx, hb, hml, hown, hts⟩ (mc_X0_bitsOf l p3 y18 ((xj_ush y17 (7 : Int32)) &&& (36028797018963967 : Int64))) (va_cwS 3 hts gX0_storeRounded_X0_bitsOf rfl rfl rfl (by decide +kernel) ⟨Nat.le_of_ble_eq_true rfl, Nat.le_of_ble_eq_true rfl⟩) hS hA rfl hl.1 rfl (Nat.le_of_ble_eq_true rfl) dX0_storeRounded_177 ⟨Nat.zero_le _, Nat.zero_le _⟩ (fun H9 locs9 hk9 hS => ?_)
                have hP := xj_kept hP hk9
                refine lv_topl (fun y21 ey21 => ?_)
                replace hF := xj_bz hF ey21
                refine va_last hx hb hK hP hD hS 1 0 rfl rfl (hin2) dX0_storeRounded_180 (fun H9 locs9 hP hD hS => ?_)
                have hP : va_P (dC, dI) vwCl [(h0, .inr (0, [.ref h_f, .int u, .int o])), (h_f, .inl (cA_f, 8, .inr (.inl (vp_updL f (Int32.toNatClampNeg p2) y21))))] _ := hP
                have hD : va_D A [(h0, .inr (0, [.ref h_f, .int u, .int o])), (h_f, .inl (cA_f, 8, .inr (.inl (vp_updL f (Int32.toNatClampNeg p2) y21))))] := hD
                refine lv_aload_n hx hb dX0_storeRounded_181 rfl (lv_at hl 4 rfl) ?_
                refine lv_iload hx hb dX0_storeRounded_182 (lv_at hl 1 rfl) ?_
                refine va_put (D := (dC, dI)) (ci := 0) (v := .int y14) (ty := .boolean) (C := RX0) (T := TX0) (N := 3) hx hb hts (by decide +kernel) tyX0 tyX0_ok nmX0 hown hK hP hD hS 0 rfl rfl 2 (by decide) (hts (.fieldLink RX0 17 "ExactFloats" "lastWasInexact" "Z") (by decide +kernel)) (fun _ h9 => h9) rfl (by decide +kernel) (xj_nb (by rw [ey14]; (repeat' split) <;> simp)) (xj_fb (by rw [ey14]; (repeat' split) <;> simp)) (Nat.le_of_ble_eq_true rfl) dX0_storeRounded_184 (fun H9 locs9 hP hD hS => ?_)
                have hP : va_P (dC, dI) vwCl [(h0, .inr (0, [.ref h_f, .int u, .int y14])), (h_f, .inl (cA_f, 8, .inr (.inl (vp_updL f (Int32.toNatClampNeg p2) y21))))] _ := hP
                have hD : va_D A [(h0, .inr (0, [.ref h_f, .int u, .int y14])), (h_f, .inl (cA_f, 8, .inr (.inl (vp_updL f (Int32.toNatClampNeg p2) y21))))] := hD
                refine lv_iload_n hx hb dX0_storeRounded_187 rfl (lv_at hl 7 rfl) ?_
                refine lv_if_eq (tgt := 196) hx hb dX0_storeRounded_188 (by decide) (fun c22 => ?_) (fun c22 => ?_)
                · replace hF := xj_t hF c22
                  refine lv_iconst (v := (0 : Int32)) hx hb dX0_storeRounded_196 (by decide) ?_
                  exact W.iret (v := (0 : Int32)) hx hb hr (fun t ht hW => ⟨⟨_, ((vp_updL f (Int32.toNatClampNeg p2) y21), u, y14), rfl, hF.symm, by rw [ht]; exact hP, hD⟩, hS.F ht⟩) hS.2.2 dX0_storeRounded_197
                · replace hF := xj_f hF c22
                  refine lv_bipush (v := (8 : Int32)) hx hb dX0_storeRounded_191 (by decide) ?_
                  refine lv_goto (tgt := 197) hx hb dX0_storeRounded_193 (by decide) ?_
                  exact W.iret (v := (8 : Int32)) hx hb hr (fun t ht hW => ⟨⟨_, ((vp_updL f (Int32.toNatClampNeg p2) y21), u, y14), rfl, hF.symm, by rw [ht]; exact hP, hD⟩, hS.F ht⟩) hS.2.2 dX0_storeRounded_197
              · replace hF := xj_f hF c20
                refine lv_aload_n hx hb dX0_storeRounded_141 rfl (lv_at hl 4 rfl) ?_
                refine va_get (D := (dC, dI)) (ci := 0) (v := .int u) (C := RX0) (T := TX0) (N := 3) hx hb hts (by decide +kernel) hown hK hP 0 rfl rfl 1 (by decide) (hts (.fieldLink RX0 13 "ExactFloats" "underflowAsked" "Z") (by decide +kernel)) (fun _ h9 => h9) rfl dX0_storeRounded_142 ?_
                refine lv_if_eq (tgt := 153) hx hb dX0_storeRounded_145 (by decide) (fun c23 => ?_) (fun c23 => ?_)
                · replace hF := xj_t hF c23
                  refine lv_aload_n hx hb dX0_storeRounded_153 rfl (lv_at hl 4 rfl) ?_
                  refine lv_iload_n hx hb dX0_storeRounded_154 rfl (lv_at hl 6 rfl) ?_
                  refine lv_iconst (v := (1 : Int32)) hx hb dX0_storeRounded_155 (by decide) ?_
                  obtain ⟨q24, eq24⟩ : ∃ z : Int32 × (Nat → Int64) × Int32 × Int32, z = (mf_X0_storeZero f u o p2 (1 : Int32)) := ⟨_, rfl⟩
                  replace hF := xj_bz hF eq24
                  refine xj_vi (r := q24) (As := [.int p2, .int (1 : Int32)]) (rest := []) (Wd := mw_X0 h0 h_f cA_f) (wr := []) ⟨hx, hb, hml, hown, hts⟩ (by rw [eq24]; exact mc_X0_storeZero l dC dI h0 h_f cA_f f u o p2 (1 : Int32) (hin2) (Or.inr rfl)) (cwV 2 hts gX0_storeRounded_X0_storeZero rfl rfl rfl (by decide +kernel) ⟨Nat.le_of_ble_eq_true rfl, Nat.le_of_ble_eq_true rfl⟩) hP hK hD hS hA [0, 1] [] [0] rfl (by decide) rfl (by decide) (by decide) rfl (va_recv hK hP (ci := 0) (q0 := 0) rfl rfl) rfl hl.1 rfl (Nat.le_of_ble_eq_true rfl) dX0_storeRounded_156 ⟨Nat.zero_le _, Nat.zero_le _⟩ (fun H9 locs9 hP hD hS => ?_)
                  have hP : va_P (dC, dI) vwCl [(h0, .inr (0, [.ref h_f, .int q24.2.2.1, .int q24.2.2.2])), (h_f, .inl (cA_f, 8, .inr (.inl q24.2.1)))] _ := hP
                  have hD : va_D A [(h0, .inr (0, [.ref h_f, .int q24.2.2.1, .int q24.2.2.2])), (h_f, .inl (cA_f, 8, .inr (.inl q24.2.1)))] := hD
                  exact W.iret (v := q24.1) hx hb hr (fun t ht hW => ⟨⟨_, (q24.2.1, q24.2.2.1, q24.2.2.2), rfl, hF.symm, by rw [ht]; exact hP, hD⟩, hS.F ht⟩) hS.2.2 dX0_storeRounded_159
                · replace hF := xj_f hF c23
                  refine lv_bipush (v := (-3 : Int32)) hx hb dX0_storeRounded_148 (by decide) ?_
                  refine lv_goto (tgt := 159) hx hb dX0_storeRounded_150 (by decide) ?_
                  exact W.iret (v := (-3 : Int32)) hx hb hr (fun t ht hW => ⟨⟨_, (f, u, o), rfl, hF.symm, by rw [ht]; exact hP, hD⟩, hS.F ht⟩) hS.2.2 dX0_storeRounded_159
            · replace hF := xj_f hF c19
              refine lv_bipush (v := (-2 : Int32)) hx hb dX0_storeRounded_132 (by decide) ?_
              exact W.iret (v := (-2 : Int32)) hx hb hr (fun t ht hW => ⟨⟨_, (f, u, o), rfl, hF.symm, by rw [ht]; exact hP, hD⟩, hS.F ht⟩) hS.2.2 dX0_storeRounded_134
          · refine xj_l_ge (tgt := 124) hx hb dX0_storeRounded_111 dX0_storeRounded_112 (by decide) (fun c16 => ?_) (fun c16 => ?_)
            · replace ey17 := xj_t ey17 c16
              replace ey18 := xj_t ey18 c16
              subst ey17
              subst ey18
              exact K124 _ _ ⟨lv_sub hl [0, 1, 2, 3, 4, 5, 6, 7, 8, 9] rfl, rfl⟩
            · replace ey17 := xj_f ey17 c16
              replace ey18 := xj_f ey18 c16
              refine lv_lload hx hb dX0_storeRounded_115 (lv_at hl 0 rfl) ?_
              refine lv_iconst (v := (1 : Int32)) hx hb dX0_storeRounded_117 (by decide) ?_
              refine lv_lushr (v := (xj_ush y15 (1 : Int32))) hx hb dX0_storeRounded_118 rfl ?_
              refine lv_topl (fun y25 ey25 => ?_)
              replace ey17 := xj_bz ey17 ey25
              replace ey18 := xj_bz ey18 ey25
              refine lv_lstore (lv' := [(8, .long y25), (11, .int y14), (10, .int y12), (7, .int q5.2.1), (0, .ref h0), (1, .int p1), (2, .int p2), (3, .int p3), (4, .int p4), (5, .long p5)]) hx hb dX0_storeRounded_119 hl (by decide) rfl (fun ls hl => ?_)
              obtain ⟨y26, ey26⟩ : ∃ z : Int32, z = (q5.2.1 + (1 : Int32)) := ⟨_, rfl⟩
              replace ey17 := xj_bz ey17 ey26
              replace ey18 := xj_bz ey18 ey26
              refine lv_iinc (v := y26) (lv' := [(7, .int y26), (8, .long y25), (11, .int y14), (10, .int y12), (0, .ref h0), (1, .int p1), (2, .int p2), (3, .int p3), (4, .int p4), (5, .long p5)]) hx hb dX0_storeRounded_121 hl (k := 3) rfl (by rw [ey26]; rfl) (by decide) rfl (fun ls hl => ?_)
              subst ey17
              subst ey18
              exact K124 _ _ ⟨lv_sub hl [1, 2, 3, 0, 4, 5, 6, 7, 8, 9] rfl, rfl⟩
        · refine xj_l_eq (tgt := 88) hx hb dX0_storeRounded_80 dX0_storeRounded_81 (by decide) (fun c13 => ?_) (fun c13 => ?_)
          · replace ey14 := xj_t ey14 c13
            refine lv_iconst (v := (0 : Int32)) hx hb dX0_storeRounded_88 (by decide) ?_
            subst ey14
            exact K89 _ _ ⟨lv_sub hl [0, 1, 2, 3, 4, 5, 6, 7, 8] rfl, rfl⟩
          · replace ey14 := xj_f ey14 c13
            refine lv_iconst (v := (1 : Int32)) hx hb dX0_storeRounded_84 (by decide) ?_
            refine lv_goto (tgt := 89) hx hb dX0_storeRounded_85 (by decide) ?_
            subst ey14
            exact K89 _ _ ⟨lv_sub hl [0, 1, 2, 3, 4, 5, 6, 7, 8] rfl, rfl⟩
      · refine lv_icmp_ne (tgt := 66) hx hb dX0_storeRounded_58 (by decide) (fun c11 => ?_) (fun c11 => ?_)
        · replace ey12 := xj_f ey12 c11
          refine lv_bipush (v := (7 : Int32)) hx hb dX0_storeRounded_66 (by decide) ?_
          subst ey12
          exact K68 _ _ ⟨lv_sub hl [0, 1, 2, 3, 4, 5, 6, 7, 8] rfl, rfl⟩
        · replace ey12 := xj_t ey12 c11
          refine lv_bipush (v := (39 : Int32)) hx hb dX0_storeRounded_61 (by decide) ?_
          refine lv_goto (tgt := 68) hx hb dX0_storeRounded_63 (by decide) ?_
          subst ey12
          exact K68 _ _ ⟨lv_sub hl [0, 1, 2, 3, 4, 5, 6, 7, 8] rfl, rfl⟩
    · refine xj_loop 25 (fun n ls' st' => ∃ (v2 : Int64) (v3 : Int32) (v4 : Int32), q5 = ml_X0_storeRounded_25 n v2 v3 v4 ∧ (∃ k0 : Nat, v4 = nI k0 ∧ k0 ≤ 63 ∧ k0 + n = 64) ∧ lv_has ls' 12 [(8, .long v2), (7, .int v3), (10, .int v4), (0, .ref h0), (1, .int p1), (2, .int p2), (3, .int p3), (4, .int p4), (5, .long p5)] ∧ st' = []) 64 ⟨p5, p4, (0 : Int32), eq5, ⟨0, nI_0.symm, by omega, by omega⟩, lv_sub hl [1, 2, 0, 3, 4, 5, 6, 7, 8] rfl, rfl⟩ ?_ ?_
      · rintro n ih ls st ⟨v2, v3, v4, hq, ⟨k0, hk0, hk1, hk2⟩, hl, rfl⟩
        have hq := hq.trans (ml_X0_storeRounded_25_s  n v2 v3 v4)
        refine lv_iload hx hb dX0_storeRounded_25 (lv_at hl 2 rfl) ?_
        refine lv_bipush (v := (63 : Int32)) hx hb dX0_storeRounded_27 (by decide) ?_
        refine lv_icmp_ge (tgt := 56) hx hb dX0_storeRounded_29 (by decide) (fun c6 => ?_) (fun c6 => ?_)
        · replace hq := xj_t hq c6
          subst hq
          exact K56 _ _ ⟨lv_sub hl [0, 1, 2, 3, 4, 5, 6, 7, 8] rfl, rfl⟩
        · replace hq := xj_f hq c6
          refine lv_lload hx hb dX0_storeRounded_32 (lv_at hl 0 rfl) ?_
          refine lv_ldc2 (own := RX0) (v := (4611686018427387904 : Int64)) hx hb hown (hts (.constantLong RX0 103 (4611686018427387904 : Int64)) (by decide +kernel)) dX0_storeRounded_34 ?_
          refine xj_l_ge (tgt := 56) hx hb dX0_storeRounded_37 dX0_storeRounded_38 (by decide) (fun c7 => ?_) (fun c7 => ?_)
          · replace hq := xj_t hq c7
            subst hq
            exact K56 _ _ ⟨lv_sub hl [0, 1, 2, 3, 4, 5, 6, 7, 8] rfl, rfl⟩
          · replace hq := xj_f hq c7
            refine lv_lload hx hb dX0_storeRounded_41 (lv_at hl 0 rfl) ?_
            refine lv_iconst (v := (1 : Int32)) hx hb dX0_storeRounded_43 (by decide) ?_
            refine lv_lshl (v := (xj_shl v2 (1 : Int32))) hx hb dX0_storeRounded_44 rfl ?_
            refine lv_topl (fun y8 ey8 => ?_)
            replace hq := xj_bz hq ey8
            refine lv_lstore (lv' := [(8, .long y8), (7, .int v3), (10, .int v4), (0, .ref h0), (1, .int p1), (2, .int p2), (3, .int p3), (4, .int p4), (5, .long p5)]) hx hb dX0_storeRounded_45 hl (by decide) rfl (fun ls hl => ?_)
            obtain ⟨y9, ey9⟩ : ∃ z : Int32, z = (v3 + (-1 : Int32)) := ⟨_, rfl⟩
            replace hq := xj_bz hq ey9
            refine lv_iinc (v := y9) (lv' := [(7, .int y9), (8, .long y8), (10, .int v4), (0, .ref h0), (1, .int p1), (2, .int p2), (3, .int p3), (4, .int p4), (5, .long p5)]) hx hb dX0_storeRounded_47 hl (k := 1) rfl (by rw [ey9]; rfl) (by decide) rfl (fun ls hl => ?_)
            obtain ⟨y10, ey10⟩ : ∃ z : Int32, z = (v4 + (1 : Int32)) := ⟨_, rfl⟩
            replace hq := xj_bz hq ey10
            refine lv_iinc (v := y10) (lv' := [(10, .int y10), (7, .int y9), (8, .long y8), (0, .ref h0), (1, .int p1), (2, .int p2), (3, .int p3), (4, .int p4), (5, .long p5)]) hx hb dX0_storeRounded_50 hl (k := 2) rfl (by rw [ey10]; rfl) (by decide) rfl (fun ls hl => ?_)
            refine lv_goto (tgt := 25) hx hb dX0_storeRounded_53 (by decide) ?_
            exact ih _ _ ⟨y8, y9, y10, hq, ⟨k0 + 1, by rw [ey10, hk0]; exact nI_1 k0, xj_ctr (B := 63) hk0 rfl (by decide) hk1 (by assumption), by omega⟩, lv_sub hl [2, 1, 0, 3, 4, 5, 6, 7, 8] rfl, rfl⟩
      · rintro ls st ⟨v2, v3, v4, hq, ⟨k0, hk0, hk1, hk2⟩, hl, rfl⟩
        omega
  · replace hF := xj_t hF c1
    refine lv_aload_n hx hb dX0_storeRounded_7 rfl (lv_at hl 0 rfl) ?_
    refine lv_iload_n hx hb dX0_storeRounded_8 rfl (lv_at hl 2 rfl) ?_
    refine lv_iconst (v := (0 : Int32)) hx hb dX0_storeRounded_9 (by decide) ?_
    obtain ⟨q27, eq27⟩ : ∃ z : Int32 × (Nat → Int64) × Int32 × Int32, z = (mf_X0_storeZero f u o p2 (0 : Int32)) := ⟨_, rfl⟩
    replace hF := xj_bz hF eq27
    refine xj_vi (r := q27) (As := [.int p2, .int (0 : Int32)]) (rest := []) (Wd := mw_X0 h0 h_f cA_f) (wr := []) ⟨hx, hb, hml, hown, hts⟩ (by rw [eq27]; exact mc_X0_storeZero l dC dI h0 h_f cA_f f u o p2 (0 : Int32) (hin2) (Or.inl rfl)) (cwV 2 hts gX0_storeRounded_X0_storeZero rfl rfl rfl (by decide +kernel) ⟨Nat.le_of_ble_eq_true rfl, Nat.le_of_ble_eq_true rfl⟩) hP hK hD hS hA [0, 1] [] [0] rfl (by decide) rfl (by decide) (by decide) rfl (va_recv hK hP (ci := 0) (q0 := 0) rfl rfl) rfl hl.1 rfl (Nat.le_of_ble_eq_true rfl) dX0_storeRounded_10 ⟨Nat.zero_le _, Nat.zero_le _⟩ (fun H9 locs9 hP hD hS => ?_)
    have hP : va_P (dC, dI) vwCl [(h0, .inr (0, [.ref h_f, .int q27.2.2.1, .int q27.2.2.2])), (h_f, .inl (cA_f, 8, .inr (.inl q27.2.1)))] _ := hP
    have hD : va_D A [(h0, .inr (0, [.ref h_f, .int q27.2.2.1, .int q27.2.2.2])), (h_f, .inl (cA_f, 8, .inr (.inl q27.2.1)))] := hD
    exact W.iret (v := q27.1) hx hb hr (fun t ht hW => ⟨⟨_, (q27.2.1, q27.2.2.1, q27.2.2.2), rfl, hF.symm, by rw [ht]; exact hP, hD⟩, hS.F ht⟩) hS.2.2 dX0_storeRounded_13
def mf_X0_storeValue (f : Nat → Int64) (u : Int32) (o : Int32) (p1 : Int32) (p2 : Int32) (p3 : Int64) : Int32 × (Nat → Int64) × Int32 × Int32 := (if p3 = (0 : Int64) then (xj_bnd (mf_X0_storeZero f u o p2 (0 : Int32)) (fun q7 => (q7.1, (q7.2.1, q7.2.2.1, q7.2.2.2)))) else (xj_bnd (if (0 : Int64) ≤ p3 then (0 : Int32) else (1 : Int32)) (fun y3 => (xj_bnd (mf_X0_exponentOf p3) (fun y4 => (xj_bnd (mf_X0_significandOf p3) (fun y5 => (xj_bnd (mf_X0_storeRounded f u o p1 p2 y3 y4 (xj_shl y5 (7 : Int32))) (fun q6 => (q6.1, (q6.2.1, q6.2.2.1, q6.2.2.2)))))))))))
set_option maxHeartbeats 4000000 in
set_option maxRecDepth 100000 in
theorem mc_X0_storeValue (l : Launch) (dC : Nat → ClassId) (dI : Nat → Nat → Nat) (h0 h_f : Nat) (cA_f : ClassId) (f : Nat → Int64) (u : Int32) (o : Int32) (p1 : Int32) (p2 : Int32) (p3 : Int64) (hin2 : vp_in p2 8) : xj_Oi l (dC, dI) vwCl [(cA_f, .long)] (mw_X0 h0 h_f cA_f) yX0_storeValue wsX0_storeValue ({ frames := 2, cells := 0, slots := 0, locals := 54 }) [.ref h0, .int p1, .int p2, .long p3] (f, u, o) (mf_X0_storeValue f u o p1 p2 p3) := by
  intro sz
  refine Met.ofW (cc := cX0_storeValue) (maxL := 5) (ret := (some .int)) (by decide) rfl ?_
  intro p e s m args below meth c s₁ B hml hv
  obtain ⟨rfl, hsz, hP, hK, hD0⟩ := hv
  have hx := B.exec
  have hb := B.bytes
  have hr := B.returns
  have hts := atoms_spec (ws := wsX0_storeValue) B.pre
  have hown : s.vm.findClass RX0 = some m.cls := findClass_of_methodNamed B.named
  have hlocks := B.notSynchronized
  subst hsz
  have hD := hD0.self (sz := s.heap.size)
  generalize hAe : va_A (mw_X0 h0 h_f cA_f (f, u, o)) s.heap.size = A at hD ⊢
  have hA : ∀ q : Nat, s.heap.size ≤ q → A q := fun q h => by rw [← hAe]; exact Or.inr h
  have hS : va_S A s.heap s.heap [] := va_S.rf
  have hP : va_P (dC, dI) vwCl [(h0, .inr (0, [.ref h_f, .int u, .int o])), (h_f, .inl (cA_f, 8, .inr (.inl f)))] s.heap := hP
  have hD : va_D A [(h0, .inr (0, [.ref h_f, .int u, .int o])), (h_f, .inl (cA_f, 8, .inr (.inl f)))] := hD
  generalize hT : mf_X0_storeValue f u o p1 p2 p3 = T
  have hF := hT.symm
  unfold mf_X0_storeValue at hF
  have hl := lv_entry ([.ref h0, .int p1, .int p2, .long p3]) (n := 5) (Nat.le_of_ble_eq_true rfl)
  rw [lg_entry_eq]
  generalize (lg_sl ([.ref h0, .int p1, .int p2, .long p3]) ++ List.replicate (5 - (lg_sl ([.ref h0, .int p1, .int p2, .long p3])).length) Slot.unset).toArray = ls at hl ⊢
  have hl : lv_has ls 5 [(0, .ref h0), (1, .int p1), (2, .int p2), (3, .long p3)] := hl
  refine lv_lload_n hx hb dX0_storeValue_0 rfl (lv_at hl 3 rfl) ?_
  refine lv_lconst (v := (0 : Int64)) hx hb dX0_storeValue_1 (by decide) ?_
  refine xj_l_ne (tgt := 13) hx hb dX0_storeValue_2 dX0_storeValue_3 (by decide) (fun c1 => ?_) (fun c1 => ?_)
  · replace hF := xj_f hF c1
    refine lv_aload_n hx hb dX0_storeValue_13 rfl (lv_at hl 0 rfl) ?_
    refine lv_iload_n hx hb dX0_storeValue_14 rfl (lv_at hl 1 rfl) ?_
    refine lv_iload_n hx hb dX0_storeValue_15 rfl (lv_at hl 2 rfl) ?_
    refine lv_lload_n hx hb dX0_storeValue_16 rfl (lv_at hl 3 rfl) ?_
    refine lv_lconst (v := (0 : Int64)) hx hb dX0_storeValue_17 (by decide) ?_
    obtain ⟨y3, ey3⟩ : ∃ z : Int32, z = (if (0 : Int64) ≤ p3 then (0 : Int32) else (1 : Int32)) := ⟨_, rfl⟩
    replace hF := xj_bz hF ey3
    refine xj_join 27 (fun ls' st' => lv_has ls' 5 [(0, .ref h0), (1, .int p1), (2, .int p2), (3, .long p3)] ∧ st' = [.int y3, .int p2, .int p1, .ref h0]) ?_ (fun K27 => ?_)
    · rintro ls st ⟨hl, rfl⟩
      refine lv_lload_n hx hb dX0_storeValue_27 rfl (lv_at hl 3 rfl) ?_
      refine xj_si (As := [.long p3]) (rest := [.int y3, .int p2, .int p1, .ref h0]) ⟨hx, hb, hml, hown, hts⟩ (mc_X0_exponentOf l p3) (va_cwS 1 hts gX0_storeValue_X0_exponentOf rfl rfl rfl (by decide +kernel) ⟨Nat.le_of_ble_eq_true rfl, Nat.le_of_ble_eq_true rfl⟩) hS hA rfl hl.1 rfl (Nat.le_of_ble_eq_true rfl) dX0_storeValue_28 ⟨Nat.zero_le _, Nat.zero_le _⟩ (fun H9 locs9 hk9 hS => ?_)
      have hP := xj_kept hP hk9
      refine lv_topi (fun y4 ey4 => ?_)
      replace hF := xj_bz hF ey4
      refine lv_lload_n hx hb dX0_storeValue_31 rfl (lv_at hl 3 rfl) ?_
      refine xj_sl (As := [.long p3]) (rest := [.int y4, .int y3, .int p2, .int p1, .ref h0]) ⟨hx, hb, hml, hown, hts⟩ (mc_X0_significandOf l p3) (va_cwS 1 hts gX0_storeValue_X0_significandOf rfl rfl rfl (by decide +kernel) ⟨Nat.le_of_ble_eq_true rfl, Nat.le_of_ble_eq_true rfl⟩) hS hA rfl hl.1 rfl (Nat.le_of_ble_eq_true rfl) dX0_storeValue_32 ⟨Nat.zero_le _, Nat.zero_le _⟩ (fun H9 locs9 hk9 hS => ?_)
      have hP := xj_kept hP hk9
      refine lv_topl (fun y5 ey5 => ?_)
      replace hF := xj_bz hF ey5
      refine lv_bipush (v := (7 : Int32)) hx hb dX0_storeValue_35 (by decide) ?_
      refine lv_lshl (v := (xj_shl y5 (7 : Int32))) hx hb dX0_storeValue_37 rfl ?_
      obtain ⟨q6, eq6⟩ : ∃ z : Int32 × (Nat → Int64) × Int32 × Int32, z = (mf_X0_storeRounded f u o p1 p2 y3 y4 (xj_shl y5 (7 : Int32))) := ⟨_, rfl⟩
      replace hF := xj_bz hF eq6
      refine xj_vi (r := q6) (As := [.int p1, .int p2, .int y3, .int y4, .long (xj_shl y5 (7 : Int32))]) (rest := []) (Wd := mw_X0 h0 h_f cA_f) (wr := []) ⟨hx, hb, hml, hown, hts⟩ (by rw [eq6]; exact mc_X0_storeRounded l dC dI h0 h_f cA_f f u o p1 p2 y3 y4 (xj_shl y5 (7 : Int32)) (hin2)) (cwV 5 hts gX0_storeValue_X0_storeRounded rfl rfl rfl (by decide +kernel) ⟨Nat.le_of_ble_eq_true rfl, Nat.le_of_ble_eq_true rfl⟩) hP hK hD hS hA [0, 1] [] [0] rfl (by decide) rfl (by decide) (by decide) rfl (va_recv hK hP (ci := 0) (q0 := 0) rfl rfl) rfl hl.1 rfl (Nat.le_of_ble_eq_true rfl) dX0_storeValue_38 ⟨Nat.zero_le _, Nat.zero_le _⟩ (fun H9 locs9 hP hD hS => ?_)
      have hP : va_P (dC, dI) vwCl [(h0, .inr (0, [.ref h_f, .int q6.2.2.1, .int q6.2.2.2])), (h_f, .inl (cA_f, 8, .inr (.inl q6.2.1)))] _ := hP
      have hD : va_D A [(h0, .inr (0, [.ref h_f, .int q6.2.2.1, .int q6.2.2.2])), (h_f, .inl (cA_f, 8, .inr (.inl q6.2.1)))] := hD
      exact W.iret (v := q6.1) hx hb hr (fun t ht hW => ⟨⟨_, (q6.2.1, q6.2.2.1, q6.2.2.2), rfl, hF.symm, by rw [ht]; exact hP, hD⟩, hS.F ht⟩) hS.2.2 dX0_storeValue_41
    · refine xj_l_ge (tgt := 26) hx hb dX0_storeValue_18 dX0_storeValue_19 (by decide) (fun c2 => ?_) (fun c2 => ?_)
      · replace ey3 := xj_t ey3 c2
        refine lv_iconst (v := (0 : Int32)) hx hb dX0_storeValue_26 (by decide) ?_
        subst ey3
        exact K27 _ _ ⟨lv_sub hl [0, 1, 2, 3] rfl, rfl⟩
      · replace ey3 := xj_f ey3 c2
        refine lv_iconst (v := (1 : Int32)) hx hb dX0_storeValue_22 (by decide) ?_
        refine lv_goto (tgt := 27) hx hb dX0_storeValue_23 (by decide) ?_
        subst ey3
        exact K27 _ _ ⟨lv_sub hl [0, 1, 2, 3] rfl, rfl⟩
  · replace hF := xj_t hF c1
    refine lv_aload_n hx hb dX0_storeValue_6 rfl (lv_at hl 0 rfl) ?_
    refine lv_iload_n hx hb dX0_storeValue_7 rfl (lv_at hl 2 rfl) ?_
    refine lv_iconst (v := (0 : Int32)) hx hb dX0_storeValue_8 (by decide) ?_
    obtain ⟨q7, eq7⟩ : ∃ z : Int32 × (Nat → Int64) × Int32 × Int32, z = (mf_X0_storeZero f u o p2 (0 : Int32)) := ⟨_, rfl⟩
    replace hF := xj_bz hF eq7
    refine xj_vi (r := q7) (As := [.int p2, .int (0 : Int32)]) (rest := []) (Wd := mw_X0 h0 h_f cA_f) (wr := []) ⟨hx, hb, hml, hown, hts⟩ (by rw [eq7]; exact mc_X0_storeZero l dC dI h0 h_f cA_f f u o p2 (0 : Int32) (hin2) (Or.inl rfl)) (cwV 2 hts gX0_storeValue_X0_storeZero rfl rfl rfl (by decide +kernel) ⟨Nat.le_of_ble_eq_true rfl, Nat.le_of_ble_eq_true rfl⟩) hP hK hD hS hA [0, 1] [] [0] rfl (by decide) rfl (by decide) (by decide) rfl (va_recv hK hP (ci := 0) (q0 := 0) rfl rfl) rfl hl.1 rfl (Nat.le_of_ble_eq_true rfl) dX0_storeValue_9 ⟨Nat.zero_le _, Nat.zero_le _⟩ (fun H9 locs9 hP hD hS => ?_)
    have hP : va_P (dC, dI) vwCl [(h0, .inr (0, [.ref h_f, .int q7.2.2.1, .int q7.2.2.2])), (h_f, .inl (cA_f, 8, .inr (.inl q7.2.1)))] _ := hP
    have hD : va_D A [(h0, .inr (0, [.ref h_f, .int q7.2.2.1, .int q7.2.2.2])), (h_f, .inl (cA_f, 8, .inr (.inl q7.2.1)))] := hD
    exact W.iret (v := q7.1) hx hb hr (fun t ht hW => ⟨⟨_, (q7.2.1, q7.2.2.1, q7.2.2.2), rfl, hF.symm, by rw [ht]; exact hP, hD⟩, hS.F ht⟩) hS.2.2 dX0_storeValue_12
end
section
def mf_X0_shiftedDown (p1 : Int64) (p2 : Int32) : Int64 := (if p2 < (63 : Int32) then (xj_bnd (xj_ush p1 p2) (fun y2 => (if (xj_shl y2 p2) = p1 then y2 else (y2 ||| (1 : Int64))))) else (1 : Int64))
set_option maxHeartbeats 4000000 in
set_option maxRecDepth 100000 in
theorem mc_X0_shiftedDown (l : Launch) (p1 : Int64) (p2 : Int32) : xj_Pl l yX0_shiftedDown wsX0_shiftedDown ({ frames := 0, cells := 0, slots := 0, locals := 0 }) [.long p1, .int p2] (mf_X0_shiftedDown p1 p2) := by
  intro sz
  refine Met.ofW (cc := cX0_shiftedDown) (maxL := 5) (ret := (some .long)) (by decide) rfl ?_
  intro p e s m args below meth c s₁ B hml hv
  obtain ⟨rfl, hsz⟩ := hv
  have hx := B.exec
  have hb := B.bytes
  have hr := B.returns
  have hts := atoms_spec (ws := wsX0_shiftedDown) B.pre
  have hown : s.vm.findClass RX0 = some m.cls := findClass_of_methodNamed B.named
  have hlocks := B.notSynchronized
  subst hsz
  generalize hAe : va_A [] s.heap.size = A
  have hA : ∀ q : Nat, s.heap.size ≤ q → A q := fun q h => by rw [← hAe]; exact Or.inr h
  have hS : va_S A s.heap s.heap [] := va_S.rf
  generalize hT : mf_X0_shiftedDown p1 p2 = T
  have hF := hT.symm
  unfold mf_X0_shiftedDown at hF
  have hl := lv_entry ([.long p1, .int p2]) (n := 5) (Nat.le_of_ble_eq_true rfl)
  rw [lg_entry_eq]
  generalize (lg_sl ([.long p1, .int p2]) ++ List.replicate (5 - (lg_sl ([.long p1, .int p2])).length) Slot.unset).toArray = ls at hl ⊢
  have hl : lv_has ls 5 [(0, .long p1), (2, .int p2)] := hl
  refine lv_iload_n hx hb dX0_shiftedDown_0 rfl (lv_at hl 1 rfl) ?_
  refine lv_bipush (v := (63 : Int32)) hx hb dX0_shiftedDown_1 (by decide) ?_
  refine lv_icmp_lt (tgt := 8) hx hb dX0_shiftedDown_3 (by decide) (fun c1 => ?_) (fun c1 => ?_)
  · replace hF := xj_t hF c1
    refine lv_lload_n hx hb dX0_shiftedDown_8 rfl (lv_at hl 0 rfl) ?_
    refine lv_iload_n hx hb dX0_shiftedDown_9 rfl (lv_at hl 1 rfl) ?_
    refine lv_lushr (v := (xj_ush p1 p2)) hx hb dX0_shiftedDown_10 rfl ?_
    refine lv_topl (fun y2 ey2 => ?_)
    replace hF := xj_bz hF ey2
    refine lv_lstore_n (lv' := [(3, .long y2), (0, .long p1), (2, .int p2)]) hx hb dX0_shiftedDown_11 rfl hl (by decide) rfl (fun ls hl => ?_)
    refine lv_lload_n hx hb dX0_shiftedDown_12 rfl (lv_at hl 0 rfl) ?_
    refine lv_iload_n hx hb dX0_shiftedDown_13 rfl (lv_at hl 2 rfl) ?_
    refine lv_lshl (v := (xj_shl y2 p2)) hx hb dX0_shiftedDown_14 rfl ?_
    refine lv_lload_n hx hb dX0_shiftedDown_15 rfl (lv_at hl 1 rfl) ?_
    refine xj_l_ne (tgt := 24) hx hb dX0_shiftedDown_16 dX0_shiftedDown_17 (by decide) (fun c3 => ?_) (fun c3 => ?_)
    · replace hF := xj_f hF c3
      refine lv_lload_n hx hb dX0_shiftedDown_24 rfl (lv_at hl 0 rfl) ?_
      refine lv_lconst (v := (1 : Int64)) hx hb dX0_shiftedDown_25 (by decide) ?_
      refine lv_lor hx hb dX0_shiftedDown_26 ?_
      exact W.lret (v := (y2 ||| (1 : Int64))) hx hb hr (fun t ht hW => ⟨⟨_, (), rfl, hF.symm, trivial⟩, hS.F ht⟩) hS.2.2 dX0_shiftedDown_27
    · replace hF := xj_t hF c3
      refine lv_lload_n hx hb dX0_shiftedDown_20 rfl (lv_at hl 0 rfl) ?_
      refine lv_goto (tgt := 27) hx hb dX0_shiftedDown_21 (by decide) ?_
      exact W.lret (v := y2) hx hb hr (fun t ht hW => ⟨⟨_, (), rfl, hF.symm, trivial⟩, hS.F ht⟩) hS.2.2 dX0_shiftedDown_27
  · replace hF := xj_f hF c1
    refine lv_lconst (v := (1 : Int64)) hx hb dX0_shiftedDown_6 (by decide) ?_
    exact W.lret (v := (1 : Int64)) hx hb hr (fun t ht hW => ⟨⟨_, (), rfl, hF.symm, trivial⟩, hS.F ht⟩) hS.2.2 dX0_shiftedDown_7
def mf_X0_storeSum (f : Nat → Int64) (u : Int32) (o : Int32) (p1 : Int32) (p2 : Int32) (p3 : Int64) (p4 : Int64) : Int32 × (Nat → Int64) × Int32 × Int32 := (xj_bnd (xj_bnd (if p3 = (0 : Int64) then p4 else p3) (fun y4 => (xj_bnd (mf_X0_storeValue f u o p1 p2 y4) (fun q5 => (q5.1, (q5.2.1, q5.2.2.1, q5.2.2.2)))))) (fun k2 => (if p3 = (0 : Int64) then k2 else (if p4 = (0 : Int64) then k2 else (xj_bnd (xj_abs p3) (fun y7 => (xj_bnd (xj_abs p4) (fun y8 => (xj_bnd (if y7 < y8 then (0 : Int32) else (1 : Int32)) (fun y10 => (xj_bnd (if y10 = 0 then p4 else p3) (fun y12 => (xj_bnd (if y10 = 0 then p3 else p4) (fun y14 => (xj_bnd (mf_X0_exponentOf y12) (fun y15 => (xj_bnd (mf_X0_exponentOf y14) (fun y16 => (xj_bnd (y15 - y16) (fun y17 => (xj_bnd (mf_X0_significandOf y12) (fun y18 => (xj_bnd (xj_shl y18 (6 : Int32)) (fun y19 => (xj_bnd (mf_X0_significandOf y14) (fun y20 => (xj_bnd (mf_X0_shiftedDown (xj_shl y20 (6 : Int32)) y17) (fun y21 => (xj_bnd (if (0 : Int64) ≤ y12 then (0 : Int32) else (1 : Int32)) (fun y23 => (xj_bnd (if (0 : Int64) ≤ y14 then (0 : Int32) else (1 : Int32)) (fun y25 => (xj_bnd (if y23 = y25 then (1 : Int32) else (0 : Int32)) (fun y27 => (xj_bnd (if y27 = 0 then (y19 - y21) else (y19 + y21)) (fun y29 => (xj_bnd (if (0 : Int64) ≤ y12 then (0 : Int32) else (1 : Int32)) (fun y31 => (xj_bnd (mf_X0_exponentOf y12) (fun y32 => (xj_bnd (mf_X0_storeRounded f u o p1 p2 y31 (y32 + (1 : Int32)) y29) (fun q33 => (q33.1, (q33.2.1, q33.2.2.1, q33.2.2.2))))))))))))))))))))))))))))))))))))))))))))
set_option maxHeartbeats 4000000 in
set_option maxRecDepth 100000 in
theorem mc_X0_storeSum (l : Launch) (dC : Nat → ClassId) (dI : Nat → Nat → Nat) (h0 h_f : Nat) (cA_f : ClassId) (f : Nat → Int64) (u : Int32) (o : Int32) (p1 : Int32) (p2 : Int32) (p3 : Int64) (p4 : Int64) (hin2 : vp_in p2 8) : xj_Oi l (dC, dI) vwCl [(cA_f, .long)] (mw_X0 h0 h_f cA_f) yX0_storeSum wsX0_storeSum ({ frames := 3, cells := 0, slots := 0, locals := 78 }) [.ref h0, .int p1, .int p2, .long p3, .long p4] (f, u, o) (mf_X0_storeSum f u o p1 p2 p3 p4) := by
  intro sz
  refine Met.ofW (cc := cX0_storeSum) (maxL := 21) (ret := (some .int)) (by decide) rfl ?_
  intro p e s m args below meth c s₁ B hml hv
  obtain ⟨rfl, hsz, hP, hK, hD0⟩ := hv
  have hx := B.exec
  have hb := B.bytes
  have hr := B.returns
  have hts := atoms_spec (ws := wsX0_storeSum) B.pre
  have hown : s.vm.findClass RX0 = some m.cls := findClass_of_methodNamed B.named
  have hlocks := B.notSynchronized
  subst hsz
  have hD := hD0.self (sz := s.heap.size)
  generalize hAe : va_A (mw_X0 h0 h_f cA_f (f, u, o)) s.heap.size = A at hD ⊢
  have hA : ∀ q : Nat, s.heap.size ≤ q → A q := fun q h => by rw [← hAe]; exact Or.inr h
  have hS : va_S A s.heap s.heap [] := va_S.rf
  have hP : va_P (dC, dI) vwCl [(h0, .inr (0, [.ref h_f, .int u, .int o])), (h_f, .inl (cA_f, 8, .inr (.inl f)))] s.heap := hP
  have hD : va_D A [(h0, .inr (0, [.ref h_f, .int u, .int o])), (h_f, .inl (cA_f, 8, .inr (.inl f)))] := hD
  generalize hT : mf_X0_storeSum f u o p1 p2 p3 p4 = T
  have hF := hT.symm
  unfold mf_X0_storeSum at hF
  have hl := lv_entry ([.ref h0, .int p1, .int p2, .long p3, .long p4]) (n := 21) (Nat.le_of_ble_eq_true rfl)
  rw [lg_entry_eq]
  generalize (lg_sl ([.ref h0, .int p1, .int p2, .long p3, .long p4]) ++ List.replicate (21 - (lg_sl ([.ref h0, .int p1, .int p2, .long p3, .long p4])).length) Slot.unset).toArray = ls at hl ⊢
  have hl : lv_has ls 21 [(0, .ref h0), (1, .int p1), (2, .int p2), (3, .long p3), (5, .long p4)] := hl
  refine lv_lload_n hx hb dX0_storeSum_0 rfl (lv_at hl 3 rfl) ?_
  refine lv_lconst (v := (0 : Int64)) hx hb dX0_storeSum_1 (by decide) ?_
  obtain ⟨k2, ek2, hF⟩ := xj_b hF
  refine xj_joinH 13 (fun H' locs' ls' st' => T = k2 ∧ va_P (dC, dI) vwCl [(h0, .inr (0, [.ref h_f, .int u, .int o])), (h_f, .inl (cA_f, 8, .inr (.inl f)))] H' ∧ va_D A [(h0, .inr (0, [.ref h_f, .int u, .int o])), (h_f, .inl (cA_f, 8, .inr (.inl f)))] ∧ va_S A s.heap H' locs' ∧ lv_has ls' 21 [(0, .ref h0), (1, .int p1), (2, .int p2), (3, .long p3), (5, .long p4)] ∧ st' = []) ?_ (fun K13 => ?_)
  · rintro H9 locs9 ls st ⟨hF, hP, hD, hS, hl, rfl⟩
    have hF := hF.trans ek2
    refine lv_aload_n hx hb dX0_storeSum_13 rfl (lv_at hl 0 rfl) ?_
    refine lv_iload_n hx hb dX0_storeSum_14 rfl (lv_at hl 1 rfl) ?_
    refine lv_iload_n hx hb dX0_storeSum_15 rfl (lv_at hl 2 rfl) ?_
    refine lv_lload_n hx hb dX0_storeSum_16 rfl (lv_at hl 3 rfl) ?_
    refine lv_lconst (v := (0 : Int64)) hx hb dX0_storeSum_17 (by decide) ?_
    obtain ⟨y4, ey4⟩ : ∃ z : Int64, z = (if p3 = (0 : Int64) then p4 else p3) := ⟨_, rfl⟩
    replace hF := xj_bz hF ey4
    refine xj_join 28 (fun ls' st' => lv_has ls' 21 [(0, .ref h0), (1, .int p1), (2, .int p2), (3, .long p3), (5, .long p4)] ∧ st' = [.long y4, .int p2, .int p1, .ref h0]) ?_ (fun K28 => ?_)
    · rintro ls st ⟨hl, rfl⟩
      obtain ⟨q5, eq5⟩ : ∃ z : Int32 × (Nat → Int64) × Int32 × Int32, z = (mf_X0_storeValue f u o p1 p2 y4) := ⟨_, rfl⟩
      replace hF := xj_bz hF eq5
      refine xj_vi (r := q5) (As := [.int p1, .int p2, .long y4]) (rest := []) (Wd := mw_X0 h0 h_f cA_f) (wr := []) ⟨hx, hb, hml, hown, hts⟩ (by rw [eq5]; exact mc_X0_storeValue l dC dI h0 h_f cA_f f u o p1 p2 y4 (hin2)) (cwV 3 hts gX0_storeSum_X0_storeValue rfl rfl rfl (by decide +kernel) ⟨Nat.le_of_ble_eq_true rfl, Nat.le_of_ble_eq_true rfl⟩) hP hK hD hS hA [0, 1] [] [0] rfl (by decide) rfl (by decide) (by decide) rfl (va_recv hK hP (ci := 0) (q0 := 0) rfl rfl) rfl hl.1 rfl (Nat.le_of_ble_eq_true rfl) dX0_storeSum_28 ⟨Nat.zero_le _, Nat.zero_le _⟩ (fun H9 locs9 hP hD hS => ?_)
      have hP : va_P (dC, dI) vwCl [(h0, .inr (0, [.ref h_f, .int q5.2.2.1, .int q5.2.2.2])), (h_f, .inl (cA_f, 8, .inr (.inl q5.2.1)))] _ := hP
      have hD : va_D A [(h0, .inr (0, [.ref h_f, .int q5.2.2.1, .int q5.2.2.2])), (h_f, .inl (cA_f, 8, .inr (.inl q5.2.1)))] := hD
      exact W.iret (v := q5.1) hx hb hr (fun t ht hW => ⟨⟨_, (q5.2.1, q5.2.2.1, q5.2.2.2), rfl, hF.symm, by rw [ht]; exact hP, hD⟩, hS.F ht⟩) hS.2.2 dX0_storeSum_31
    · refine xj_l_ne (tgt := 27) hx hb dX0_storeSum_18 dX0_storeSum_19 (by decide) (fun c3 => ?_) (fun c3 => ?_)
      · replace ey4 := xj_f ey4 c3
        refine lv_lload_n hx hb dX0_storeSum_27 rfl (lv_at hl 3 rfl) ?_
        subst ey4
        exact K28 _ _ ⟨lv_sub hl [0, 1, 2, 3, 4] rfl, rfl⟩
      · replace ey4 := xj_t ey4 c3
        refine lv_lload hx hb dX0_storeSum_22 (lv_at hl 4 rfl) ?_
        refine lv_goto (tgt := 28) hx hb dX0_storeSum_24 (by decide) ?_
        subst ey4
        exact K28 _ _ ⟨lv_sub hl [0, 1, 2, 3, 4] rfl, rfl⟩
  · refine xj_l_eq (tgt := 13) hx hb dX0_storeSum_2 dX0_storeSum_3 (by decide) (fun c1 => ?_) (fun c1 => ?_)
    · replace hF := xj_t hF c1
      exact K13 _ _ _ _ ⟨hF, hP, hD, hS, lv_sub hl [0, 1, 2, 3, 4] rfl, rfl⟩
    · replace hF := xj_f hF c1
      refine lv_lload hx hb dX0_storeSum_6 (lv_at hl 4 rfl) ?_
      refine lv_lconst (v := (0 : Int64)) hx hb dX0_storeSum_8 (by decide) ?_
      refine xj_l_ne (tgt := 32) hx hb dX0_storeSum_9 dX0_storeSum_10 (by decide) (fun c6 => ?_) (fun c6 => ?_)
      · replace hF := xj_f hF c6
        refine lv_lload_n hx hb dX0_storeSum_32 rfl (lv_at hl 3 rfl) ?_
        refine va_mabs_long (x := p3) hx hb (by rw [hml]; exact hl.1.symm) hown (hts (.methodLink RX0 63 Lib.MathLoose.abs_long.x) (by decide +kernel)) (hts (.static Lib.MathLoose.abs_long.x) (by decide +kernel)) (hts (.initialized "java/lang/Math") (by decide +kernel)) (hts _ (by decide +kernel)) (Nat.le_of_ble_eq_true rfl) (Nat.le_of_ble_eq_true rfl) (Nat.zero_le _) (Nat.zero_le _) dX0_storeSum_33 ?_
        refine lv_topl (fun y7 ey7 => ?_)
        replace hF := xj_bz hF ey7
        refine lv_lload hx hb dX0_storeSum_36 (lv_at hl 4 rfl) ?_
        refine va_mabs_long (x := p4) hx hb (by rw [hml]; exact hl.1.symm) hown (hts (.methodLink RX0 63 Lib.MathLoose.abs_long.x) (by decide +kernel)) (hts (.static Lib.MathLoose.abs_long.x) (by decide +kernel)) (hts (.initialized "java/lang/Math") (by decide +kernel)) (hts _ (by decide +kernel)) (Nat.le_of_ble_eq_true rfl) (Nat.le_of_ble_eq_true rfl) (Nat.zero_le _) (Nat.zero_le _) dX0_storeSum_38 ?_
        refine lv_topl (fun y8 ey8 => ?_)
        replace hF := xj_bz hF ey8
        obtain ⟨y10, ey10⟩ : ∃ z : Int32, z = (if y7 < y8 then (0 : Int32) else (1 : Int32)) := ⟨_, rfl⟩
        replace hF := xj_bz hF ey10
        refine xj_join 50 (fun ls' st' => lv_has ls' 21 [(0, .ref h0), (1, .int p1), (2, .int p2), (3, .long p3), (5, .long p4)] ∧ st' = [.int y10]) ?_ (fun K50 => ?_)
        · rintro ls st ⟨hl, rfl⟩
          refine lv_istore (lv' := [(7, .int y10), (0, .ref h0), (1, .int p1), (2, .int p2), (3, .long p3), (5, .long p4)]) hx hb dX0_storeSum_50 hl (by decide) rfl (fun ls hl => ?_)
          refine lv_iload hx hb dX0_storeSum_52 (lv_at hl 0 rfl) ?_
          obtain ⟨y12, ey12⟩ : ∃ z : Int64, z = (if y10 = 0 then p4 else p3) := ⟨_, rfl⟩
          replace hF := xj_bz hF ey12
          refine xj_join 63 (fun ls' st' => lv_has ls' 21 [(7, .int y10), (0, .ref h0), (1, .int p1), (2, .int p2), (3, .long p3), (5, .long p4)] ∧ st' = [.long y12]) ?_ (fun K63 => ?_)
          · rintro ls st ⟨hl, rfl⟩
            refine lv_lstore (lv' := [(8, .long y12), (7, .int y10), (0, .ref h0), (1, .int p1), (2, .int p2), (3, .long p3), (5, .long p4)]) hx hb dX0_storeSum_63 hl (by decide) rfl (fun ls hl => ?_)
            refine lv_iload hx hb dX0_storeSum_65 (lv_at hl 1 rfl) ?_
            obtain ⟨y14, ey14⟩ : ∃ z : Int64, z = (if y10 = 0 then p3 else p4) := ⟨_, rfl⟩
            replace hF := xj_bz hF ey14
            refine xj_join 76 (fun ls' st' => lv_has ls' 21 [(8, .long y12), (7, .int y10), (0, .ref h0), (1, .int p1), (2, .int p2), (3, .long p3), (5, .long p4)] ∧ st' = [.long y14]) ?_ (fun K76 => ?_)
            · rintro ls st ⟨hl, rfl⟩
              refine lv_lstore (lv' := [(10, .long y14), (8, .long y12), (7, .int y10), (0, .ref h0), (1, .int p1), (2, .int p2), (3, .long p3), (5, .long p4)]) hx hb dX0_storeSum_76 hl (by decide) rfl (fun ls hl => ?_)
              refine lv_bipush (v := (6 : Int32)) hx hb dX0_storeSum_78 (by decide) ?_
              refine lv_istore (lv' := [(12, .int (6 : Int32)), (10, .long y14), (8, .long y12), (7, .int y10), (0, .ref h0), (1, .int p1), (2, .int p2), (3, .long p3), (5, .long p4)]) hx hb dX0_storeSum_80 hl (by decide) rfl (fun ls hl => ?_)
              refine lv_lload hx hb dX0_storeSum_82 (lv_at hl 2 rfl) ?_
              refine xj_si (As := [.long y12]) (rest := []) ⟨hx, hb, hml, hown, hts⟩ (mc_X0_exponentOf l y12) (va_cwS 1 hts gX0_storeSum_X0_exponentOf rfl rfl rfl (by decide +kernel) ⟨Nat.le_of_ble_eq_true rfl, Nat.le_of_ble_eq_true rfl⟩) hS hA rfl hl.1 rfl (Nat.le_of_ble_eq_true rfl) dX0_storeSum_84 ⟨Nat.zero_le _, Nat.zero_le _⟩ (fun H9 locs9 hk9 hS => ?_)
              have hP := xj_kept hP hk9
              refine lv_topi (fun y15 ey15 => ?_)
              replace hF := xj_bz hF ey15
              refine lv_lload hx hb dX0_storeSum_87 (lv_at hl 1 rfl) ?_
              refine xj_si (As := [.long y14]) (rest := [.int y15]) ⟨hx, hb, hml, hown, hts⟩ (mc_X0_exponentOf l y14) (va_cwS 1 hts gX0_storeSum_X0_exponentOf rfl rfl rfl (by decide +kernel) ⟨Nat.le_of_ble_eq_true rfl, Nat.le_of_ble_eq_true rfl⟩) hS hA rfl hl.1 rfl (Nat.le_of_ble_eq_true rfl) dX0_storeSum_89 ⟨Nat.zero_le _, Nat.zero_le _⟩ (fun H9 locs9 hk9 hS => ?_)
              have hP := xj_kept hP hk9
              refine lv_topi (fun y16 ey16 => ?_)
              replace hF := xj_bz hF ey16
              refine lv_isub hx hb dX0_storeSum_92 ?_
              refine lv_topi (fun y17 ey17 => ?_)
              replace hF := xj_bz hF ey17
              refine lv_istore (lv' := [(13, .int y17), (12, .int (6 : Int32)), (10, .long y14), (8, .long y12), (7, .int y10), (0, .ref h0), (1, .int p1), (2, .int p2), (3, .long p3), (5, .long p4)]) hx hb dX0_storeSum_93 hl (by decide) rfl (fun ls hl => ?_)
              refine lv_lload hx hb dX0_storeSum_95 (lv_at hl 3 rfl) ?_
              refine xj_sl (As := [.long y12]) (rest := []) ⟨hx, hb, hml, hown, hts⟩ (mc_X0_significandOf l y12) (va_cwS 1 hts gX0_storeSum_X0_significandOf rfl rfl rfl (by decide +kernel) ⟨Nat.le_of_ble_eq_true rfl, Nat.le_of_ble_eq_true rfl⟩) hS hA rfl hl.1 rfl (Nat.le_of_ble_eq_true rfl) dX0_storeSum_97 ⟨Nat.zero_le _, Nat.zero_le _⟩ (fun H9 locs9 hk9 hS => ?_)
              have hP := xj_kept hP hk9
              refine lv_topl (fun y18 ey18 => ?_)
              replace hF := xj_bz hF ey18
              refine lv_iload hx hb dX0_storeSum_100 (lv_at hl 1 rfl) ?_
              refine lv_lshl (v := (xj_shl y18 (6 : Int32))) hx hb dX0_storeSum_102 rfl ?_
              refine lv_topl (fun y19 ey19 => ?_)
              replace hF := xj_bz hF ey19
              refine lv_lstore (lv' := [(14, .long y19), (13, .int y17), (12, .int (6 : Int32)), (10, .long y14), (8, .long y12), (7, .int y10), (0, .ref h0), (1, .int p1), (2, .int p2), (3, .long p3), (5, .long p4)]) hx hb dX0_storeSum_103 hl (by decide) rfl (fun ls hl => ?_)
              refine lv_lload hx hb dX0_storeSum_105 (lv_at hl 3 rfl) ?_
              refine xj_sl (As := [.long y14]) (rest := []) ⟨hx, hb, hml, hown, hts⟩ (mc_X0_significandOf l y14) (va_cwS 1 hts gX0_storeSum_X0_significandOf rfl rfl rfl (by decide +kernel) ⟨Nat.le_of_ble_eq_true rfl, Nat.le_of_ble_eq_true rfl⟩) hS hA rfl hl.1 rfl (Nat.le_of_ble_eq_true rfl) dX0_storeSum_107 ⟨Nat.zero_le _, Nat.zero_le _⟩ (fun H9 locs9 hk9 hS => ?_)
              have hP := xj_kept hP hk9
              refine lv_topl (fun y20 ey20 => ?_)
              replace hF := xj_bz hF ey20
              refine lv_iload hx hb dX0_storeSum_110 (lv_at hl 2 rfl) ?_
              refine lv_lshl (v := (xj_shl y20 (6 : Int32))) hx hb dX0_storeSum_112 rfl ?_
              refine lv_iload hx hb dX0_storeSum_113 (lv_at hl 1 rfl) ?_
              refine xj_sl (As := [.long (xj_shl y20 (6 : Int32)), .int y17]) (rest := []) ⟨hx, hb, hml, hown, hts⟩ (mc_X0_shiftedDown l (xj_shl y20 (6 : Int32)) y17) (va_cwS 2 hts gX0_storeSum_X0_shiftedDown rfl rfl rfl (by decide +kernel) ⟨Nat.le_of_ble_eq_true rfl, Nat.le_of_ble_eq_true rfl⟩) hS hA rfl hl.1 rfl (Nat.le_of_ble_eq_true rfl) dX0_storeSum_115 ⟨Nat.zero_le _, Nat.zero_le _⟩ (fun H9 locs9 hk9 hS => ?_)
              have hP := xj_kept hP hk9
              refine lv_topl (fun y21 ey21 => ?_)
              replace hF := xj_bz hF ey21
              refine lv_lstore (lv' := [(16, .long y21), (14, .long y19), (13, .int y17), (12, .int (6 : Int32)), (10, .long y14), (8, .long y12), (7, .int y10), (0, .ref h0), (1, .int p1), (2, .int p2), (3, .long p3), (5, .long p4)]) hx hb dX0_storeSum_118 hl (by decide) rfl (fun ls hl => ?_)
              refine lv_lload hx hb dX0_storeSum_120 (lv_at hl 5 rfl) ?_
              refine lv_lconst (v := (0 : Int64)) hx hb dX0_storeSum_122 (by decide) ?_
              obtain ⟨y23, ey23⟩ : ∃ z : Int32, z = (if (0 : Int64) ≤ y12 then (0 : Int32) else (1 : Int32)) := ⟨_, rfl⟩
              replace hF := xj_bz hF ey23
              refine xj_join 132 (fun ls' st' => lv_has ls' 21 [(16, .long y21), (14, .long y19), (13, .int y17), (12, .int (6 : Int32)), (10, .long y14), (8, .long y12), (7, .int y10), (0, .ref h0), (1, .int p1), (2, .int p2), (3, .long p3), (5, .long p4)] ∧ st' = [.int y23]) ?_ (fun K132 => ?_)
              · rintro ls st ⟨hl, rfl⟩
                refine lv_lload hx hb dX0_storeSum_132 (lv_at hl 4 rfl) ?_
                refine lv_lconst (v := (0 : Int64)) hx hb dX0_storeSum_134 (by decide) ?_
                obtain ⟨y25, ey25⟩ : ∃ z : Int32, z = (if (0 : Int64) ≤ y14 then (0 : Int32) else (1 : Int32)) := ⟨_, rfl⟩
                replace hF := xj_bz hF ey25
                refine xj_join 144 (fun ls' st' => lv_has ls' 21 [(16, .long y21), (14, .long y19), (13, .int y17), (12, .int (6 : Int32)), (10, .long y14), (8, .long y12), (7, .int y10), (0, .ref h0), (1, .int p1), (2, .int p2), (3, .long p3), (5, .long p4)] ∧ st' = [.int y25, .int y23]) ?_ (fun K144 => ?_)
                · rintro ls st ⟨hl, rfl⟩
                  obtain ⟨y27, ey27⟩ : ∃ z : Int32, z = (if y23 = y25 then (1 : Int32) else (0 : Int32)) := ⟨_, rfl⟩
                  replace hF := xj_bz hF ey27
                  refine xj_join 152 (fun ls' st' => lv_has ls' 21 [(16, .long y21), (14, .long y19), (13, .int y17), (12, .int (6 : Int32)), (10, .long y14), (8, .long y12), (7, .int y10), (0, .ref h0), (1, .int p1), (2, .int p2), (3, .long p3), (5, .long p4)] ∧ st' = [.int y27]) ?_ (fun K152 => ?_)
                  · rintro ls st ⟨hl, rfl⟩
                    refine lv_istore (lv' := [(18, .int y27), (16, .long y21), (14, .long y19), (13, .int y17), (12, .int (6 : Int32)), (10, .long y14), (8, .long y12), (7, .int y10), (0, .ref h0), (1, .int p1), (2, .int p2), (3, .long p3), (5, .long p4)]) hx hb dX0_storeSum_152 hl (by decide) rfl (fun ls hl => ?_)
                    refine lv_iload hx hb dX0_storeSum_154 (lv_at hl 0 rfl) ?_
                    obtain ⟨y29, ey29⟩ : ∃ z : Int64, z = (if y27 = 0 then (y19 - y21) else (y19 + y21)) := ⟨_, rfl⟩
                    replace hF := xj_bz hF ey29
                    refine xj_join 172 (fun ls' st' => lv_has ls' 21 [(18, .int y27), (16, .long y21), (14, .long y19), (13, .int y17), (12, .int (6 : Int32)), (10, .long y14), (8, .long y12), (7, .int y10), (0, .ref h0), (1, .int p1), (2, .int p2), (3, .long p3), (5, .long p4)] ∧ st' = [.long y29]) ?_ (fun K172 => ?_)
                    · rintro ls st ⟨hl, rfl⟩
                      refine lv_lstore (lv' := [(19, .long y29), (18, .int y27), (16, .long y21), (14, .long y19), (13, .int y17), (12, .int (6 : Int32)), (10, .long y14), (8, .long y12), (7, .int y10), (0, .ref h0), (1, .int p1), (2, .int p2), (3, .long p3), (5, .long p4)]) hx hb dX0_storeSum_172 hl (by decide) rfl (fun ls hl => ?_)
                      refine lv_aload_n hx hb dX0_storeSum_174 rfl (lv_at hl 9 rfl) ?_
                      refine lv_iload_n hx hb dX0_storeSum_175 rfl (lv_at hl 10 rfl) ?_
                      refine lv_iload_n hx hb dX0_storeSum_176 rfl (lv_at hl 11 rfl) ?_
                      refine lv_lload hx hb dX0_storeSum_177 (lv_at hl 7 rfl) ?_
                      refine lv_lconst (v := (0 : Int64)) hx hb dX0_storeSum_179 (by decide) ?_
                      obtain ⟨y31, ey31⟩ : ∃ z : Int32, z = (if (0 : Int64) ≤ y12 then (0 : Int32) else (1 : Int32)) := ⟨_, rfl⟩
                      replace hF := xj_bz hF ey31
                      refine xj_join 189 (fun ls' st' => lv_has ls' 21 [(19, .long y29), (18, .int y27), (16, .long y21), (14, .long y19), (13, .int y17), (12, .int (6 : Int32)), (10, .long y14), (8, .long y12), (7, .int y10), (0, .ref h0), (1, .int p1), (2, .int p2), (3, .long p3), (5, .long p4)] ∧ st' = [.int y31, .int p2, .int p1, .ref h0]) ?_ (fun K189 => ?_)
                      · rintro ls st ⟨hl, rfl⟩
                        refine lv_lload hx hb dX0_storeSum_189 (lv_at hl 7 rfl) ?_
                        refine xj_si (As := [.long y12]) (rest := [.int y31, .int p2, .int p1, .ref h0]) ⟨hx, hb, hml, hown, hts⟩ (mc_X0_exponentOf l y12) (va_cwS 1 hts gX0_storeSum_X0_exponentOf rfl rfl rfl (by decide +kernel) ⟨Nat.le_of_ble_eq_true rfl, Nat.le_of_ble_eq_true rfl⟩) hS hA rfl hl.1 rfl (Nat.le_of_ble_eq_true rfl) dX0_storeSum_191 ⟨Nat.zero_le _, Nat.zero_le _⟩ (fun H9 locs9 hk9 hS => ?_)
                        have hP := xj_kept hP hk9
                        refine lv_topi (fun y32 ey32 => ?_)
                        replace hF := xj_bz hF ey32
                        refine lv_iconst (v := (1 : Int32)) hx hb dX0_storeSum_194 (by decide) ?_
                        refine lv_iadd hx hb dX0_storeSum_195 ?_
                        refine lv_lload hx hb dX0_storeSum_196 (lv_at hl 0 rfl) ?_
                        obtain ⟨q33, eq33⟩ : ∃ z : Int32 × (Nat → Int64) × Int32 × Int32, z = (mf_X0_storeRounded f u o p1 p2 y31 (y32 + (1 : Int32)) y29) := ⟨_, rfl⟩
                        replace hF := xj_bz hF eq33
                        refine xj_vi (r := q33) (As := [.int p1, .int p2, .int y31, .int (y32 + (1 : Int32)), .long y29]) (rest := []) (Wd := mw_X0 h0 h_f cA_f) (wr := []) ⟨hx, hb, hml, hown, hts⟩ (by rw [eq33]; exact mc_X0_storeRounded l dC dI h0 h_f cA_f f u o p1 p2 y31 (y32 + (1 : Int32)) y29 (hin2)) (cwV 5 hts gX0_storeSum_X0_storeRounded rfl rfl rfl (by decide +kernel) ⟨Nat.le_of_ble_eq_true rfl, Nat.le_of_ble_eq_true rfl⟩) hP hK hD hS hA [0, 1] [] [0] rfl (by decide) rfl (by decide) (by decide) rfl (va_recv hK hP (ci := 0) (q0 := 0) rfl rfl) rfl hl.1 rfl (Nat.le_of_ble_eq_true rfl) dX0_storeSum_198 ⟨Nat.zero_le _, Nat.zero_le _⟩ (fun H9 locs9 hP hD hS => ?_)
                        have hP : va_P (dC, dI) vwCl [(h0, .inr (0, [.ref h_f, .int q33.2.2.1, .int q33.2.2.2])), (h_f, .inl (cA_f, 8, .inr (.inl q33.2.1)))] _ := hP
                        have hD : va_D A [(h0, .inr (0, [.ref h_f, .int q33.2.2.1, .int q33.2.2.2])), (h_f, .inl (cA_f, 8, .inr (.inl q33.2.1)))] := hD
                        exact W.iret (v := q33.1) hx hb hr (fun t ht hW => ⟨⟨_, (q33.2.1, q33.2.2.1, q33.2.2.2), rfl, hF.symm, by rw [ht]; exact hP, hD⟩, hS.F ht⟩) hS.2.2 dX0_storeSum_201
                      · refine xj_l_ge (tgt := 188) hx hb dX0_storeSum_180 dX0_storeSum_181 (by decide) (fun c30 => ?_) (fun c30 => ?_)
                        · replace ey31 := xj_t ey31 c30
                          refine lv_iconst (v := (0 : Int32)) hx hb dX0_storeSum_188 (by decide) ?_
                          subst ey31
                          exact K189 _ _ ⟨lv_sub hl [0, 1, 2, 3, 4, 5, 6, 7, 8, 9, 10, 11, 12, 13] rfl, rfl⟩
                        · replace ey31 := xj_f ey31 c30
                          refine lv_iconst (v := (1 : Int32)) hx hb dX0_storeSum_184 (by decide) ?_
                          refine lv_goto (tgt := 189) hx hb dX0_storeSum_185 (by decide) ?_
                          subst ey31
                          exact K189 _ _ ⟨lv_sub hl [0, 1, 2, 3, 4, 5, 6, 7, 8, 9, 10, 11, 12, 13] rfl, rfl⟩
                    · refine lv_if_eq (tgt := 167) hx hb dX0_storeSum_156 (by decide) (fun c28 => ?_) (fun c28 => ?_)
                      · replace ey29 := xj_t ey29 c28
                        refine lv_lload hx hb dX0_storeSum_167 (lv_at hl 2 rfl) ?_
                        refine lv_lload hx hb dX0_storeSum_169 (lv_at hl 1 rfl) ?_
                        refine lv_lsub hx hb dX0_storeSum_171 ?_
                        subst ey29
                        exact K172 _ _ ⟨lv_sub hl [0, 1, 2, 3, 4, 5, 6, 7, 8, 9, 10, 11, 12] rfl, rfl⟩
                      · replace ey29 := xj_f ey29 c28
                        refine lv_lload hx hb dX0_storeSum_159 (lv_at hl 2 rfl) ?_
                        refine lv_lload hx hb dX0_storeSum_161 (lv_at hl 1 rfl) ?_
                        refine lv_ladd hx hb dX0_storeSum_163 ?_
                        refine lv_goto (tgt := 172) hx hb dX0_storeSum_164 (by decide) ?_
                        subst ey29
                        exact K172 _ _ ⟨lv_sub hl [0, 1, 2, 3, 4, 5, 6, 7, 8, 9, 10, 11, 12] rfl, rfl⟩
                  · refine lv_icmp_ne (tgt := 151) hx hb dX0_storeSum_144 (by decide) (fun c26 => ?_) (fun c26 => ?_)
                    · replace ey27 := xj_f ey27 c26
                      refine lv_iconst (v := (0 : Int32)) hx hb dX0_storeSum_151 (by decide) ?_
                      subst ey27
                      exact K152 _ _ ⟨lv_sub hl [0, 1, 2, 3, 4, 5, 6, 7, 8, 9, 10, 11] rfl, rfl⟩
                    · replace ey27 := xj_t ey27 c26
                      refine lv_iconst (v := (1 : Int32)) hx hb dX0_storeSum_147 (by decide) ?_
                      refine lv_goto (tgt := 152) hx hb dX0_storeSum_148 (by decide) ?_
                      subst ey27
                      exact K152 _ _ ⟨lv_sub hl [0, 1, 2, 3, 4, 5, 6, 7, 8, 9, 10, 11] rfl, rfl⟩
                · refine xj_l_ge (tgt := 143) hx hb dX0_storeSum_135 dX0_storeSum_136 (by decide) (fun c24 => ?_) (fun c24 => ?_)
                  · replace ey25 := xj_t ey25 c24
                    refine lv_iconst (v := (0 : Int32)) hx hb dX0_storeSum_143 (by decide) ?_
                    subst ey25
                    exact K144 _ _ ⟨lv_sub hl [0, 1, 2, 3, 4, 5, 6, 7, 8, 9, 10, 11] rfl, rfl⟩
                  · replace ey25 := xj_f ey25 c24
                    refine lv_iconst (v := (1 : Int32)) hx hb dX0_storeSum_139 (by decide) ?_
                    refine lv_goto (tgt := 144) hx hb dX0_storeSum_140 (by decide) ?_
                    subst ey25
                    exact K144 _ _ ⟨lv_sub hl [0, 1, 2, 3, 4, 5, 6, 7, 8, 9, 10, 11] rfl, rfl⟩
              · refine xj_l_ge (tgt := 131) hx hb dX0_storeSum_123 dX0_storeSum_124 (by decide) (fun c22 => ?_) (fun c22 => ?_)
                · replace ey23 := xj_t ey23 c22
                  refine lv_iconst (v := (0 : Int32)) hx hb dX0_storeSum_131 (by decide) ?_
                  subst ey23
                  exact K132 _ _ ⟨lv_sub hl [0, 1, 2, 3, 4, 5, 6, 7, 8, 9, 10, 11] rfl, rfl⟩
                · replace ey23 := xj_f ey23 c22
                  refine lv_iconst (v := (1 : Int32)) hx hb dX0_storeSum_127 (by decide) ?_
                  refine lv_goto (tgt := 132) hx hb dX0_storeSum_128 (by decide) ?_
                  subst ey23
                  exact K132 _ _ ⟨lv_sub hl [0, 1, 2, 3, 4, 5, 6, 7, 8, 9, 10, 11] rfl, rfl⟩
            · refine lv_if_eq (tgt := 75) hx hb dX0_storeSum_67 (by decide) (fun c13 => ?_) (fun c13 => ?_)
              · replace ey14 := xj_t ey14 c13
                refine lv_lload_n hx hb dX0_storeSum_75 rfl (lv_at hl 5 rfl) ?_
                subst ey14
                exact K76 _ _ ⟨lv_sub hl [0, 1, 2, 3, 4, 5, 6] rfl, rfl⟩
              · replace ey14 := xj_f ey14 c13
                refine lv_lload hx hb dX0_storeSum_70 (lv_at hl 6 rfl) ?_
                refine lv_goto (tgt := 76) hx hb dX0_storeSum_72 (by decide) ?_
                subst ey14
                exact K76 _ _ ⟨lv_sub hl [0, 1, 2, 3, 4, 5, 6] rfl, rfl⟩
          · refine lv_if_eq (tgt := 61) hx hb dX0_storeSum_54 (by decide) (fun c11 => ?_) (fun c11 => ?_)
            · replace ey12 := xj_t ey12 c11
              refine lv_lload hx hb dX0_storeSum_61 (lv_at hl 5 rfl) ?_
              subst ey12
              exact K63 _ _ ⟨lv_sub hl [0, 1, 2, 3, 4, 5] rfl, rfl⟩
            · replace ey12 := xj_f ey12 c11
              refine lv_lload_n hx hb dX0_storeSum_57 rfl (lv_at hl 4 rfl) ?_
              refine lv_goto (tgt := 63) hx hb dX0_storeSum_58 (by decide) ?_
              subst ey12
              exact K63 _ _ ⟨lv_sub hl [0, 1, 2, 3, 4, 5] rfl, rfl⟩
        · refine xj_l_lt (tgt := 49) hx hb dX0_storeSum_41 dX0_storeSum_42 (by decide) (fun c9 => ?_) (fun c9 => ?_)
          · replace ey10 := xj_t ey10 c9
            refine lv_iconst (v := (0 : Int32)) hx hb dX0_storeSum_49 (by decide) ?_
            subst ey10
            exact K50 _ _ ⟨lv_sub hl [0, 1, 2, 3, 4] rfl, rfl⟩
          · replace ey10 := xj_f ey10 c9
            refine lv_iconst (v := (1 : Int32)) hx hb dX0_storeSum_45 (by decide) ?_
            refine lv_goto (tgt := 50) hx hb dX0_storeSum_46 (by decide) ?_
            subst ey10
            exact K50 _ _ ⟨lv_sub hl [0, 1, 2, 3, 4] rfl, rfl⟩
      · replace hF := xj_t hF c6
        exact K13 _ _ _ _ ⟨hF, hP, hD, hS, lv_sub hl [0, 1, 2, 3, 4] rfl, rfl⟩
def mf_X0_wideProduct (p1 : Int64) (p2 : Int64) : Int64 := (xj_bnd (xj_ush p1 (28 : Int32)) (fun y1 => (xj_bnd (p1 &&& (268435455 : Int64)) (fun y2 => (xj_bnd (xj_ush p2 (28 : Int32)) (fun y3 => (xj_bnd (p2 &&& (268435455 : Int64)) (fun y4 => (xj_bnd ((y1 * y4) + (y2 * y3)) (fun y5 => (xj_bnd ((y2 * y4) + (xj_shl (y5 &&& (268435455 : Int64)) (28 : Int32))) (fun y6 => (xj_bnd (((y1 * y3) + (xj_ush y5 (28 : Int32))) + (xj_ush y6 (56 : Int32))) (fun y7 => (xj_bnd (y6 &&& (72057594037927935 : Int64)) (fun y8 => (xj_bnd ((xj_shl y7 (7 : Int32)) ||| (xj_ush y8 (49 : Int32))) (fun y9 => (if (y8 &&& ((xj_shl (1 : Int64) (49 : Int32)) - (1 : Int64))) = (0 : Int64) then y9 else (y9 ||| (1 : Int64)))))))))))))))))))))
set_option maxHeartbeats 4000000 in
set_option maxRecDepth 100000 in
theorem mc_X0_wideProduct (l : Launch) (p1 : Int64) (p2 : Int64) : xj_Pl l yX0_wideProduct wsX0_wideProduct ({ frames := 0, cells := 0, slots := 0, locals := 0 }) [.long p1, .long p2] (mf_X0_wideProduct p1 p2) := by
  intro sz
  refine Met.ofW (cc := cX0_wideProduct) (maxL := 23) (ret := (some .long)) (by decide) rfl ?_
  intro p e s m args below meth c s₁ B hml hv
  obtain ⟨rfl, hsz⟩ := hv
  have hx := B.exec
  have hb := B.bytes
  have hr := B.returns
  have hts := atoms_spec (ws := wsX0_wideProduct) B.pre
  have hown : s.vm.findClass RX0 = some m.cls := findClass_of_methodNamed B.named
  have hlocks := B.notSynchronized
  subst hsz
  generalize hAe : va_A [] s.heap.size = A
  have hA : ∀ q : Nat, s.heap.size ≤ q → A q := fun q h => by rw [← hAe]; exact Or.inr h
  have hS : va_S A s.heap s.heap [] := va_S.rf
  generalize hT : mf_X0_wideProduct p1 p2 = T
  have hF := hT.symm
  unfold mf_X0_wideProduct at hF
  have hl := lv_entry ([.long p1, .long p2]) (n := 23) (Nat.le_of_ble_eq_true rfl)
  rw [lg_entry_eq]
  generalize (lg_sl ([.long p1, .long p2]) ++ List.replicate (23 - (lg_sl ([.long p1, .long p2])).length) Slot.unset).toArray = ls at hl ⊢
  have hl : lv_has ls 23 [(0, .long p1), (2, .long p2)] := hl
  refine lv_lload_n hx hb dX0_wideProduct_0 rfl (lv_at hl 0 rfl) ?_
  refine lv_bipush (v := (28 : Int32)) hx hb dX0_wideProduct_1 (by decide) ?_
  refine lv_lushr (v := (xj_ush p1 (28 : Int32))) hx hb dX0_wideProduct_3 rfl ?_
  refine lv_topl (fun y1 ey1 => ?_)
  replace hF := xj_bz hF ey1
  refine lv_lstore (lv' := [(4, .long y1), (0, .long p1), (2, .long p2)]) hx hb dX0_wideProduct_4 hl (by decide) rfl (fun ls hl => ?_)
  refine lv_lload_n hx hb dX0_wideProduct_6 rfl (lv_at hl 1 rfl) ?_
  refine lv_ldc2 (own := RX0) (v := (268435455 : Int64)) hx hb hown (hts (.constantLong RX0 117 (268435455 : Int64)) (by decide +kernel)) dX0_wideProduct_7 ?_
  refine lv_land hx hb dX0_wideProduct_10 ?_
  refine lv_topl (fun y2 ey2 => ?_)
  replace hF := xj_bz hF ey2
  refine lv_lstore (lv' := [(6, .long y2), (4, .long y1), (0, .long p1), (2, .long p2)]) hx hb dX0_wideProduct_11 hl (by decide) rfl (fun ls hl => ?_)
  refine lv_lload_n hx hb dX0_wideProduct_13 rfl (lv_at hl 3 rfl) ?_
  refine lv_bipush (v := (28 : Int32)) hx hb dX0_wideProduct_14 (by decide) ?_
  refine lv_lushr (v := (xj_ush p2 (28 : Int32))) hx hb dX0_wideProduct_16 rfl ?_
  refine lv_topl (fun y3 ey3 => ?_)
  replace hF := xj_bz hF ey3
  refine lv_lstore (lv' := [(8, .long y3), (6, .long y2), (4, .long y1), (0, .long p1), (2, .long p2)]) hx hb dX0_wideProduct_17 hl (by decide) rfl (fun ls hl => ?_)
  refine lv_lload_n hx hb dX0_wideProduct_19 rfl (lv_at hl 4 rfl) ?_
  refine lv_ldc2 (own := RX0) (v := (268435455 : Int64)) hx hb hown (hts (.constantLong RX0 117 (268435455 : Int64)) (by decide +kernel)) dX0_wideProduct_20 ?_
  refine lv_land hx hb dX0_wideProduct_23 ?_
  refine lv_topl (fun y4 ey4 => ?_)
  replace hF := xj_bz hF ey4
  refine lv_lstore (lv' := [(10, .long y4), (8, .long y3), (6, .long y2), (4, .long y1), (0, .long p1), (2, .long p2)]) hx hb dX0_wideProduct_24 hl (by decide) rfl (fun ls hl => ?_)
  refine lv_lload hx hb dX0_wideProduct_26 (lv_at hl 3 rfl) ?_
  refine lv_lload hx hb dX0_wideProduct_28 (lv_at hl 0 rfl) ?_
  refine lv_lmul hx hb dX0_wideProduct_30 ?_
  refine lv_lload hx hb dX0_wideProduct_31 (lv_at hl 2 rfl) ?_
  refine lv_lload hx hb dX0_wideProduct_33 (lv_at hl 1 rfl) ?_
  refine lv_lmul hx hb dX0_wideProduct_35 ?_
  refine lv_ladd hx hb dX0_wideProduct_36 ?_
  refine lv_topl (fun y5 ey5 => ?_)
  replace hF := xj_bz hF ey5
  refine lv_lstore (lv' := [(12, .long y5), (10, .long y4), (8, .long y3), (6, .long y2), (4, .long y1), (0, .long p1), (2, .long p2)]) hx hb dX0_wideProduct_37 hl (by decide) rfl (fun ls hl => ?_)
  refine lv_lload hx hb dX0_wideProduct_39 (lv_at hl 3 rfl) ?_
  refine lv_lload hx hb dX0_wideProduct_41 (lv_at hl 1 rfl) ?_
  refine lv_lmul hx hb dX0_wideProduct_43 ?_
  refine lv_lload hx hb dX0_wideProduct_44 (lv_at hl 0 rfl) ?_
  refine lv_ldc2 (own := RX0) (v := (268435455 : Int64)) hx hb hown (hts (.constantLong RX0 117 (268435455 : Int64)) (by decide +kernel)) dX0_wideProduct_46 ?_
  refine lv_land hx hb dX0_wideProduct_49 ?_
  refine lv_bipush (v := (28 : Int32)) hx hb dX0_wideProduct_50 (by decide) ?_
  refine lv_lshl (v := (xj_shl (y5 &&& (268435455 : Int64)) (28 : Int32))) hx hb dX0_wideProduct_52 rfl ?_
  refine lv_ladd hx hb dX0_wideProduct_53 ?_
  refine lv_topl (fun y6 ey6 => ?_)
  replace hF := xj_bz hF ey6
  refine lv_lstore (lv' := [(14, .long y6), (12, .long y5), (10, .long y4), (8, .long y3), (6, .long y2), (4, .long y1), (0, .long p1), (2, .long p2)]) hx hb dX0_wideProduct_54 hl (by decide) rfl (fun ls hl => ?_)
  refine lv_lload hx hb dX0_wideProduct_56 (lv_at hl 5 rfl) ?_
  refine lv_lload hx hb dX0_wideProduct_58 (lv_at hl 3 rfl) ?_
  refine lv_lmul hx hb dX0_wideProduct_60 ?_
  refine lv_lload hx hb dX0_wideProduct_61 (lv_at hl 1 rfl) ?_
  refine lv_bipush (v := (28 : Int32)) hx hb dX0_wideProduct_63 (by decide) ?_
  refine lv_lushr (v := (xj_ush y5 (28 : Int32))) hx hb dX0_wideProduct_65 rfl ?_
  refine lv_ladd hx hb dX0_wideProduct_66 ?_
  refine lv_lload hx hb dX0_wideProduct_67 (lv_at hl 0 rfl) ?_
  refine lv_bipush (v := (56 : Int32)) hx hb dX0_wideProduct_69 (by decide) ?_
  refine lv_lushr (v := (xj_ush y6 (56 : Int32))) hx hb dX0_wideProduct_71 rfl ?_
  refine lv_ladd hx hb dX0_wideProduct_72 ?_
  refine lv_topl (fun y7 ey7 => ?_)
  replace hF := xj_bz hF ey7
  refine lv_lstore (lv' := [(16, .long y7), (14, .long y6), (12, .long y5), (10, .long y4), (8, .long y3), (6, .long y2), (4, .long y1), (0, .long p1), (2, .long p2)]) hx hb dX0_wideProduct_73 hl (by decide) rfl (fun ls hl => ?_)
  refine lv_lload hx hb dX0_wideProduct_75 (lv_at hl 1 rfl) ?_
  refine lv_ldc2 (own := RX0) (v := (72057594037927935 : Int64)) hx hb hown (hts (.constantLong RX0 119 (72057594037927935 : Int64)) (by decide +kernel)) dX0_wideProduct_77 ?_
  refine lv_land hx hb dX0_wideProduct_80 ?_
  refine lv_topl (fun y8 ey8 => ?_)
  replace hF := xj_bz hF ey8
  refine lv_lstore (lv' := [(18, .long y8), (16, .long y7), (14, .long y6), (12, .long y5), (10, .long y4), (8, .long y3), (6, .long y2), (4, .long y1), (0, .long p1), (2, .long p2)]) hx hb dX0_wideProduct_81 hl (by decide) rfl (fun ls hl => ?_)
  refine lv_bipush (v := (49 : Int32)) hx hb dX0_wideProduct_83 (by decide) ?_
  refine lv_istore (lv' := [(20, .int (49 : Int32)), (18, .long y8), (16, .long y7), (14, .long y6), (12, .long y5), (10, .long y4), (8, .long y3), (6, .long y2), (4, .long y1), (0, .long p1), (2, .long p2)]) hx hb dX0_wideProduct_85 hl (by decide) rfl (fun ls hl => ?_)
  refine lv_lload hx hb dX0_wideProduct_87 (lv_at hl 2 rfl) ?_
  refine lv_bipush (v := (7 : Int32)) hx hb dX0_wideProduct_89 (by decide) ?_
  refine lv_lshl (v := (xj_shl y7 (7 : Int32))) hx hb dX0_wideProduct_91 rfl ?_
  refine lv_lload hx hb dX0_wideProduct_92 (lv_at hl 1 rfl) ?_
  refine lv_iload hx hb dX0_wideProduct_94 (lv_at hl 0 rfl) ?_
  refine lv_lushr (v := (xj_ush y8 (49 : Int32))) hx hb dX0_wideProduct_96 rfl ?_
  refine lv_lor hx hb dX0_wideProduct_97 ?_
  refine lv_topl (fun y9 ey9 => ?_)
  replace hF := xj_bz hF ey9
  refine lv_lstore (lv' := [(21, .long y9), (20, .int (49 : Int32)), (18, .long y8), (16, .long y7), (14, .long y6), (12, .long y5), (10, .long y4), (8, .long y3), (6, .long y2), (4, .long y1), (0, .long p1), (2, .long p2)]) hx hb dX0_wideProduct_98 hl (by decide) rfl (fun ls hl => ?_)
  refine lv_lload hx hb dX0_wideProduct_100 (lv_at hl 2 rfl) ?_
  refine lv_lconst (v := (1 : Int64)) hx hb dX0_wideProduct_102 (by decide) ?_
  refine lv_iload hx hb dX0_wideProduct_103 (lv_at hl 1 rfl) ?_
  refine lv_lshl (v := (xj_shl (1 : Int64) (49 : Int32))) hx hb dX0_wideProduct_105 rfl ?_
  refine lv_lconst (v := (1 : Int64)) hx hb dX0_wideProduct_106 (by decide) ?_
  refine lv_lsub hx hb dX0_wideProduct_107 ?_
  refine lv_land hx hb dX0_wideProduct_108 ?_
  refine lv_lconst (v := (0 : Int64)) hx hb dX0_wideProduct_109 (by decide) ?_
  refine xj_l_eq (tgt := 121) hx hb dX0_wideProduct_110 dX0_wideProduct_111 (by decide) (fun c10 => ?_) (fun c10 => ?_)
  · replace hF := xj_t hF c10
    refine lv_lload hx hb dX0_wideProduct_121 (lv_at hl 0 rfl) ?_
    exact W.lret (v := y9) hx hb hr (fun t ht hW => ⟨⟨_, (), rfl, hF.symm, trivial⟩, hS.F ht⟩) hS.2.2 dX0_wideProduct_123
  · replace hF := xj_f hF c10
    refine lv_lload hx hb dX0_wideProduct_114 (lv_at hl 0 rfl) ?_
    refine lv_lconst (v := (1 : Int64)) hx hb dX0_wideProduct_116 (by decide) ?_
    refine lv_lor hx hb dX0_wideProduct_117 ?_
    refine lv_goto (tgt := 123) hx hb dX0_wideProduct_118 (by decide) ?_
    exact W.lret (v := (y9 ||| (1 : Int64))) hx hb hr (fun t ht hW => ⟨⟨_, (), rfl, hF.symm, trivial⟩, hS.F ht⟩) hS.2.2 dX0_wideProduct_123
def mf_X0_storeProduct (f : Nat → Int64) (u : Int32) (o : Int32) (p1 : Int32) (p2 : Int32) (p3 : Int64) (p4 : Int64) : Int32 × (Nat → Int64) × Int32 × Int32 := (if p3 = (0 : Int64) then (xj_bnd (mf_X0_storeZero f u o p2 (0 : Int32)) (fun q2 => (q2.1, (q2.2.1, q2.2.2.1, q2.2.2.2)))) else (if p4 = (0 : Int64) then (xj_bnd (mf_X0_storeZero f u o p2 (0 : Int32)) (fun q16 => (q16.1, (q16.2.1, q16.2.2.1, q16.2.2.2)))) else (xj_bnd (mf_X0_significandOf p3) (fun y4 => (xj_bnd (mf_X0_significandOf p4) (fun y5 => (xj_bnd (mf_X0_wideProduct y4 y5) (fun y6 => (xj_bnd (if (0 : Int64) ≤ p3 then (0 : Int32) else (1 : Int32)) (fun y8 => (xj_bnd (if (0 : Int64) ≤ p4 then (0 : Int32) else (1 : Int32)) (fun y10 => (xj_bnd (if y8 = y10 then (0 : Int32) else (1 : Int32)) (fun y12 => (xj_bnd (mf_X0_exponentOf p3) (fun y13 => (xj_bnd (mf_X0_exponentOf p4) (fun y14 => (xj_bnd (mf_X0_storeRounded f u o p1 p2 y12 ((y13 + y14) - (128 : Int32)) y6) (fun q15 => (q15.1, (q15.2.1, q15.2.2.1, q15.2.2.2))))))))))))))))))))))
set_option maxHeartbeats 4000000 in
set_option maxRecDepth 100000 in
theorem mc_X0_storeProduct (l : Launch) (dC : Nat → ClassId) (dI : Nat → Nat → Nat) (h0 h_f : Nat) (cA_f : ClassId) (f : Nat → Int64) (u : Int32) (o : Int32) (p1 : Int32) (p2 : Int32) (p3 : Int64) (p4 : Int64) (hin2 : vp_in p2 8) : xj_Oi l (dC, dI) vwCl [(cA_f, .long)] (mw_X0 h0 h_f cA_f) yX0_storeProduct wsX0_storeProduct ({ frames := 2, cells := 0, slots := 0, locals := 54 }) [.ref h0, .int p1, .int p2, .long p3, .long p4] (f, u, o) (mf_X0_storeProduct f u o p1 p2 p3 p4) := by
  intro sz
  refine Met.ofW (cc := cX0_storeProduct) (maxL := 9) (ret := (some .int)) (by decide) rfl ?_
  intro p e s m args below meth c s₁ B hml hv
  obtain ⟨rfl, hsz, hP, hK, hD0⟩ := hv
  have hx := B.exec
  have hb := B.bytes
  have hr := B.returns
  have hts := atoms_spec (ws := wsX0_storeProduct) B.pre
  have hown : s.vm.findClass RX0 = some m.cls := findClass_of_methodNamed B.named
  have hlocks := B.notSynchronized
  subst hsz
  have hD := hD0.self (sz := s.heap.size)
  generalize hAe : va_A (mw_X0 h0 h_f cA_f (f, u, o)) s.heap.size = A at hD ⊢
  have hA : ∀ q : Nat, s.heap.size ≤ q → A q := fun q h => by rw [← hAe]; exact Or.inr h
  have hS : va_S A s.heap s.heap [] := va_S.rf
  have hP : va_P (dC, dI) vwCl [(h0, .inr (0, [.ref h_f, .int u, .int o])), (h_f, .inl (cA_f, 8, .inr (.inl f)))] s.heap := hP
  have hD : va_D A [(h0, .inr (0, [.ref h_f, .int u, .int o])), (h_f, .inl (cA_f, 8, .inr (.inl f)))] := hD
  generalize hT : mf_X0_storeProduct f u o p1 p2 p3 p4 = T
  have hF := hT.symm
  unfold mf_X0_storeProduct at hF
  have hl := lv_entry ([.ref h0, .int p1, .int p2, .long p3, .long p4]) (n := 9) (Nat.le_of_ble_eq_true rfl)
  rw [lg_entry_eq]
  generalize (lg_sl ([.ref h0, .int p1, .int p2, .long p3, .long p4]) ++ List.replicate (9 - (lg_sl ([.ref h0, .int p1, .int p2, .long p3, .long p4])).length) Slot.unset).toArray = ls at hl ⊢
  have hl : lv_has ls 9 [(0, .ref h0), (1, .int p1), (2, .int p2), (3, .long p3), (5, .long p4)] := hl
  refine lv_lload_n hx hb dX0_storeProduct_0 rfl (lv_at hl 3 rfl) ?_
  refine lv_lconst (v := (0 : Int64)) hx hb dX0_storeProduct_1 (by decide) ?_
  refine xj_l_eq (tgt := 13) hx hb dX0_storeProduct_2 dX0_storeProduct_3 (by decide) (fun c1 => ?_) (fun c1 => ?_)
  · replace hF := xj_t hF c1
    refine lv_aload_n hx hb dX0_storeProduct_13 rfl (lv_at hl 0 rfl) ?_
    refine lv_iload_n hx hb dX0_storeProduct_14 rfl (lv_at hl 2 rfl) ?_
    refine lv_iconst (v := (0 : Int32)) hx hb dX0_storeProduct_15 (by decide) ?_
    obtain ⟨q2, eq2⟩ : ∃ z : Int32 × (Nat → Int64) × Int32 × Int32, z = (mf_X0_storeZero f u o p2 (0 : Int32)) := ⟨_, rfl⟩
    replace hF := xj_bz hF eq2
    refine xj_vi (r := q2) (As := [.int p2, .int (0 : Int32)]) (rest := []) (Wd := mw_X0 h0 h_f cA_f) (wr := []) ⟨hx, hb, hml, hown, hts⟩ (by rw [eq2]; exact mc_X0_storeZero l dC dI h0 h_f cA_f f u o p2 (0 : Int32) (hin2) (Or.inl rfl)) (cwV 2 hts gX0_storeProduct_X0_storeZero rfl rfl rfl (by decide +kernel) ⟨Nat.le_of_ble_eq_true rfl, Nat.le_of_ble_eq_true rfl⟩) hP hK hD hS hA [0, 1] [] [0] rfl (by decide) rfl (by decide) (by decide) rfl (va_recv hK hP (ci := 0) (q0 := 0) rfl rfl) rfl hl.1 rfl (Nat.le_of_ble_eq_true rfl) dX0_storeProduct_16 ⟨Nat.zero_le _, Nat.zero_le _⟩ (fun H9 locs9 hP hD hS => ?_)
    have hP : va_P (dC, dI) vwCl [(h0, .inr (0, [.ref h_f, .int q2.2.2.1, .int q2.2.2.2])), (h_f, .inl (cA_f, 8, .inr (.inl q2.2.1)))] _ := hP
    have hD : va_D A [(h0, .inr (0, [.ref h_f, .int q2.2.2.1, .int q2.2.2.2])), (h_f, .inl (cA_f, 8, .inr (.inl q2.2.1)))] := hD
    exact W.iret (v := q2.1) hx hb hr (fun t ht hW => ⟨⟨_, (q2.2.1, q2.2.2.1, q2.2.2.2), rfl, hF.symm, by rw [ht]; exact hP, hD⟩, hS.F ht⟩) hS.2.2 dX0_storeProduct_19
  · replace hF := xj_f hF c1
    refine lv_lload hx hb dX0_storeProduct_6 (lv_at hl 4 rfl) ?_
    refine lv_lconst (v := (0 : Int64)) hx hb dX0_storeProduct_8 (by decide) ?_
    refine xj_l_ne (tgt := 20) hx hb dX0_storeProduct_9 dX0_storeProduct_10 (by decide) (fun c3 => ?_) (fun c3 => ?_)
    · replace hF := xj_f hF c3
      refine lv_lload_n hx hb dX0_storeProduct_20 rfl (lv_at hl 3 rfl) ?_
      refine xj_sl (As := [.long p3]) (rest := []) ⟨hx, hb, hml, hown, hts⟩ (mc_X0_significandOf l p3) (va_cwS 1 hts gX0_storeProduct_X0_significandOf rfl rfl rfl (by decide +kernel) ⟨Nat.le_of_ble_eq_true rfl, Nat.le_of_ble_eq_true rfl⟩) hS hA rfl hl.1 rfl (Nat.le_of_ble_eq_true rfl) dX0_storeProduct_21 ⟨Nat.zero_le _, Nat.zero_le _⟩ (fun H9 locs9 hk9 hS => ?_)
      have hP := xj_kept hP hk9
      refine lv_topl (fun y4 ey4 => ?_)
      replace hF := xj_bz hF ey4
      refine lv_lload hx hb dX0_storeProduct_24 (lv_at hl 4 rfl) ?_
      refine xj_sl (As := [.long p4]) (rest := [.long y4]) ⟨hx, hb, hml, hown, hts⟩ (mc_X0_significandOf l p4) (va_cwS 1 hts gX0_storeProduct_X0_significandOf rfl rfl rfl (by decide +kernel) ⟨Nat.le_of_ble_eq_true rfl, Nat.le_of_ble_eq_true rfl⟩) hS hA rfl hl.1 rfl (Nat.le_of_ble_eq_true rfl) dX0_storeProduct_26 ⟨Nat.zero_le _, Nat.zero_le _⟩ (fun H9 locs9 hk9 hS => ?_)
      have hP := xj_kept hP hk9
      refine lv_topl (fun y5 ey5 => ?_)
      replace hF := xj_bz hF ey5
      refine xj_sl (As := [.long y4, .long y5]) (rest := []) ⟨hx, hb, hml, hown, hts⟩ (mc_X0_wideProduct l y4 y5) (va_cwS 2 hts gX0_storeProduct_X0_wideProduct rfl rfl rfl (by decide +kernel) ⟨Nat.le_of_ble_eq_true rfl, Nat.le_of_ble_eq_true rfl⟩) hS hA rfl hl.1 rfl (Nat.le_of_ble_eq_true rfl) dX0_storeProduct_29 ⟨Nat.zero_le _, Nat.zero_le _⟩ (fun H9 locs9 hk9 hS => ?_)
      have hP := xj_kept hP hk9
      refine lv_topl (fun y6 ey6 => ?_)
      replace hF := xj_bz hF ey6
      refine lv_lstore (lv' := [(7, .long y6), (0, .ref h0), (1, .int p1), (2, .int p2), (3, .long p3), (5, .long p4)]) hx hb dX0_storeProduct_32 hl (by decide) rfl (fun ls hl => ?_)
      refine lv_aload_n hx hb dX0_storeProduct_34 rfl (lv_at hl 1 rfl) ?_
      refine lv_iload_n hx hb dX0_storeProduct_35 rfl (lv_at hl 2 rfl) ?_
      refine lv_iload_n hx hb dX0_storeProduct_36 rfl (lv_at hl 3 rfl) ?_
      refine lv_lload_n hx hb dX0_storeProduct_37 rfl (lv_at hl 4 rfl) ?_
      refine lv_lconst (v := (0 : Int64)) hx hb dX0_storeProduct_38 (by decide) ?_
      obtain ⟨y8, ey8⟩ : ∃ z : Int32, z = (if (0 : Int64) ≤ p3 then (0 : Int32) else (1 : Int32)) := ⟨_, rfl⟩
      replace hF := xj_bz hF ey8
      refine xj_join 48 (fun ls' st' => lv_has ls' 9 [(7, .long y6), (0, .ref h0), (1, .int p1), (2, .int p2), (3, .long p3), (5, .long p4)] ∧ st' = [.int y8, .int p2, .int p1, .ref h0]) ?_ (fun K48 => ?_)
      · rintro ls st ⟨hl, rfl⟩
        refine lv_lload hx hb dX0_storeProduct_48 (lv_at hl 5 rfl) ?_
        refine lv_lconst (v := (0 : Int64)) hx hb dX0_storeProduct_50 (by decide) ?_
        obtain ⟨y10, ey10⟩ : ∃ z : Int32, z = (if (0 : Int64) ≤ p4 then (0 : Int32) else (1 : Int32)) := ⟨_, rfl⟩
        replace hF := xj_bz hF ey10
        refine xj_join 60 (fun ls' st' => lv_has ls' 9 [(7, .long y6), (0, .ref h0), (1, .int p1), (2, .int p2), (3, .long p3), (5, .long p4)] ∧ st' = [.int y10, .int y8, .int p2, .int p1, .ref h0]) ?_ (fun K60 => ?_)
        · rintro ls st ⟨hl, rfl⟩
          obtain ⟨y12, ey12⟩ : ∃ z : Int32, z = (if y8 = y10 then (0 : Int32) else (1 : Int32)) := ⟨_, rfl⟩
          replace hF := xj_bz hF ey12
          refine xj_join 68 (fun ls' st' => lv_has ls' 9 [(7, .long y6), (0, .ref h0), (1, .int p1), (2, .int p2), (3, .long p3), (5, .long p4)] ∧ st' = [.int y12, .int p2, .int p1, .ref h0]) ?_ (fun K68 => ?_)
          · rintro ls st ⟨hl, rfl⟩
            refine lv_lload_n hx hb dX0_storeProduct_68 rfl (lv_at hl 4 rfl) ?_
            refine xj_si (As := [.long p3]) (rest := [.int y12, .int p2, .int p1, .ref h0]) ⟨hx, hb, hml, hown, hts⟩ (mc_X0_exponentOf l p3) (va_cwS 1 hts gX0_storeProduct_X0_exponentOf rfl rfl rfl (by decide +kernel) ⟨Nat.le_of_ble_eq_true rfl, Nat.le_of_ble_eq_true rfl⟩) hS hA rfl hl.1 rfl (Nat.le_of_ble_eq_true rfl) dX0_storeProduct_69 ⟨Nat.zero_le _, Nat.zero_le _⟩ (fun H9 locs9 hk9 hS => ?_)
            have hP := xj_kept hP hk9
            refine lv_topi (fun y13 ey13 => ?_)
            replace hF := xj_bz hF ey13
            refine lv_lload hx hb dX0_storeProduct_72 (lv_at hl 5 rfl) ?_
            refine xj_si (As := [.long p4]) (rest := [.int y13, .int y12, .int p2, .int p1, .ref h0]) ⟨hx, hb, hml, hown, hts⟩ (mc_X0_exponentOf l p4) (va_cwS 1 hts gX0_storeProduct_X0_exponentOf rfl rfl rfl (by decide +kernel) ⟨Nat.le_of_ble_eq_true rfl, Nat.le_of_ble_eq_true rfl⟩) hS hA rfl hl.1 rfl (Nat.le_of_ble_eq_true rfl) dX0_storeProduct_74 ⟨Nat.zero_le _, Nat.zero_le _⟩ (fun H9 locs9 hk9 hS => ?_)
            have hP := xj_kept hP hk9
            refine lv_topi (fun y14 ey14 => ?_)
            replace hF := xj_bz hF ey14
            refine lv_iadd hx hb dX0_storeProduct_77 ?_
            refine lv_sipush (v := (128 : Int32)) hx hb dX0_storeProduct_78 (by decide) ?_
            refine lv_isub hx hb dX0_storeProduct_81 ?_
            refine lv_lload hx hb dX0_storeProduct_82 (lv_at hl 0 rfl) ?_
            obtain ⟨q15, eq15⟩ : ∃ z : Int32 × (Nat → Int64) × Int32 × Int32, z = (mf_X0_storeRounded f u o p1 p2 y12 ((y13 + y14) - (128 : Int32)) y6) := ⟨_, rfl⟩
            replace hF := xj_bz hF eq15
            refine xj_vi (r := q15) (As := [.int p1, .int p2, .int y12, .int ((y13 + y14) - (128 : Int32)), .long y6]) (rest := []) (Wd := mw_X0 h0 h_f cA_f) (wr := []) ⟨hx, hb, hml, hown, hts⟩ (by rw [eq15]; exact mc_X0_storeRounded l dC dI h0 h_f cA_f f u o p1 p2 y12 ((y13 + y14) - (128 : Int32)) y6 (hin2)) (cwV 5 hts gX0_storeProduct_X0_storeRounded rfl rfl rfl (by decide +kernel) ⟨Nat.le_of_ble_eq_true rfl, Nat.le_of_ble_eq_true rfl⟩) hP hK hD hS hA [0, 1] [] [0] rfl (by decide) rfl (by decide) (by decide) rfl (va_recv hK hP (ci := 0) (q0 := 0) rfl rfl) rfl hl.1 rfl (Nat.le_of_ble_eq_true rfl) dX0_storeProduct_84 ⟨Nat.zero_le _, Nat.zero_le _⟩ (fun H9 locs9 hP hD hS => ?_)
            have hP : va_P (dC, dI) vwCl [(h0, .inr (0, [.ref h_f, .int q15.2.2.1, .int q15.2.2.2])), (h_f, .inl (cA_f, 8, .inr (.inl q15.2.1)))] _ := hP
            have hD : va_D A [(h0, .inr (0, [.ref h_f, .int q15.2.2.1, .int q15.2.2.2])), (h_f, .inl (cA_f, 8, .inr (.inl q15.2.1)))] := hD
            exact W.iret (v := q15.1) hx hb hr (fun t ht hW => ⟨⟨_, (q15.2.1, q15.2.2.1, q15.2.2.2), rfl, hF.symm, by rw [ht]; exact hP, hD⟩, hS.F ht⟩) hS.2.2 dX0_storeProduct_87
          · refine lv_icmp_eq (tgt := 67) hx hb dX0_storeProduct_60 (by decide) (fun c11 => ?_) (fun c11 => ?_)
            · replace ey12 := xj_t ey12 c11
              refine lv_iconst (v := (0 : Int32)) hx hb dX0_storeProduct_67 (by decide) ?_
              subst ey12
              exact K68 _ _ ⟨lv_sub hl [0, 1, 2, 3, 4, 5] rfl, rfl⟩
            · replace ey12 := xj_f ey12 c11
              refine lv_iconst (v := (1 : Int32)) hx hb dX0_storeProduct_63 (by decide) ?_
              refine lv_goto (tgt := 68) hx hb dX0_storeProduct_64 (by decide) ?_
              subst ey12
              exact K68 _ _ ⟨lv_sub hl [0, 1, 2, 3, 4, 5] rfl, rfl⟩
        · refine xj_l_ge (tgt := 59) hx hb dX0_storeProduct_51 dX0_storeProduct_52 (by decide) (fun c9 => ?_) (fun c9 => ?_)
          · replace ey10 := xj_t ey10 c9
            refine lv_iconst (v := (0 : Int32)) hx hb dX0_storeProduct_59 (by decide) ?_
            subst ey10
            exact K60 _ _ ⟨lv_sub hl [0, 1, 2, 3, 4, 5] rfl, rfl⟩
          · replace ey10 := xj_f ey10 c9
            refine lv_iconst (v := (1 : Int32)) hx hb dX0_storeProduct_55 (by decide) ?_
            refine lv_goto (tgt := 60) hx hb dX0_storeProduct_56 (by decide) ?_
            subst ey10
            exact K60 _ _ ⟨lv_sub hl [0, 1, 2, 3, 4, 5] rfl, rfl⟩
      · refine xj_l_ge (tgt := 47) hx hb dX0_storeProduct_39 dX0_storeProduct_40 (by decide) (fun c7 => ?_) (fun c7 => ?_)
        · replace ey8 := xj_t ey8 c7
          refine lv_iconst (v := (0 : Int32)) hx hb dX0_storeProduct_47 (by decide) ?_
          subst ey8
          exact K48 _ _ ⟨lv_sub hl [0, 1, 2, 3, 4, 5] rfl, rfl⟩
        · replace ey8 := xj_f ey8 c7
          refine lv_iconst (v := (1 : Int32)) hx hb dX0_storeProduct_43 (by decide) ?_
          refine lv_goto (tgt := 48) hx hb dX0_storeProduct_44 (by decide) ?_
          subst ey8
          exact K48 _ _ ⟨lv_sub hl [0, 1, 2, 3, 4, 5] rfl, rfl⟩
    · replace hF := xj_t hF c3
      refine lv_aload_n hx hb dX0_storeProduct_13 rfl (lv_at hl 0 rfl) ?_
      refine lv_iload_n hx hb dX0_storeProduct_14 rfl (lv_at hl 2 rfl) ?_
      refine lv_iconst (v := (0 : Int32)) hx hb dX0_storeProduct_15 (by decide) ?_
      obtain ⟨q16, eq16⟩ : ∃ z : Int32 × (Nat → Int64) × Int32 × Int32, z = (mf_X0_storeZero f u o p2 (0 : Int32)) := ⟨_, rfl⟩
      replace hF := xj_bz hF eq16
      refine xj_vi (r := q16) (As := [.int p2, .int (0 : Int32)]) (rest := []) (Wd := mw_X0 h0 h_f cA_f) (wr := []) ⟨hx, hb, hml, hown, hts⟩ (by rw [eq16]; exact mc_X0_storeZero l dC dI h0 h_f cA_f f u o p2 (0 : Int32) (hin2) (Or.inl rfl)) (cwV 2 hts gX0_storeProduct_X0_storeZero rfl rfl rfl (by decide +kernel) ⟨Nat.le_of_ble_eq_true rfl, Nat.le_of_ble_eq_true rfl⟩) hP hK hD hS hA [0, 1] [] [0] rfl (by decide) rfl (by decide) (by decide) rfl (va_recv hK hP (ci := 0) (q0 := 0) rfl rfl) rfl hl.1 rfl (Nat.le_of_ble_eq_true rfl) dX0_storeProduct_16 ⟨Nat.zero_le _, Nat.zero_le _⟩ (fun H9 locs9 hP hD hS => ?_)
      have hP : va_P (dC, dI) vwCl [(h0, .inr (0, [.ref h_f, .int q16.2.2.1, .int q16.2.2.2])), (h_f, .inl (cA_f, 8, .inr (.inl q16.2.1)))] _ := hP
      have hD : va_D A [(h0, .inr (0, [.ref h_f, .int q16.2.2.1, .int q16.2.2.2])), (h_f, .inl (cA_f, 8, .inr (.inl q16.2.1)))] := hD
      exact W.iret (v := q16.1) hx hb hr (fun t ht hW => ⟨⟨_, (q16.2.1, q16.2.2.1, q16.2.2.2), rfl, hF.symm, by rw [ht]; exact hP, hD⟩, hS.F ht⟩) hS.2.2 dX0_storeProduct_19
end
section
def ml_X0_wideQuotient_9 (p2 : Int64) : Nat → Int64 → Int64 → Int32 → Int64 × Int64 × Int32
  | 0, v1, v2, v3 => (v1, v2, v3)
  | n + 1, v1, v2, v3 => (if (63 : Int32) ≤ v3 then (v1, v2, v3) else (xj_bnd (xj_shl v1 (1 : Int32)) (fun y6 => (xj_bnd (if v2 < p2 then y6 else (xj_bnd (v2 - p2) (fun y8 => (xj_bnd (y6 ||| (1 : Int64)) (fun y9 => y9))))) (fun y8 => (xj_bnd (if v2 < p2 then v2 else (xj_bnd (v2 - p2) (fun y8 => (xj_bnd (y6 ||| (1 : Int64)) (fun y9 => y8))))) (fun y9 => (xj_bnd (xj_shl y9 (1 : Int32)) (fun y10 => (xj_bnd (v3 + (1 : Int32)) (fun y11 => (ml_X0_wideQuotient_9 p2 n y8 y10 y11))))))))))))
theorem ml_X0_wideQuotient_9_s (p2 : Int64) (n : Nat) (v1 : Int64) (v2 : Int64) (v3 : Int32) : ml_X0_wideQuotient_9 p2 (n + 1) v1 v2 v3 = (if (63 : Int32) ≤ v3 then (v1, v2, v3) else (xj_bnd (xj_shl v1 (1 : Int32)) (fun y6 => (xj_bnd (if v2 < p2 then y6 else (xj_bnd (v2 - p2) (fun y8 => (xj_bnd (y6 ||| (1 : Int64)) (fun y9 => y9))))) (fun y8 => (xj_bnd (if v2 < p2 then v2 else (xj_bnd (v2 - p2) (fun y8 => (xj_bnd (y6 ||| (1 : Int64)) (fun y9 => y8))))) (fun y9 => (xj_bnd (xj_shl y9 (1 : Int32)) (fun y10 => (xj_bnd (v3 + (1 : Int32)) (fun y11 => (ml_X0_wideQuotient_9 p2 n y8 y10 y11)))))))))))) := rfl
def mf_X0_wideQuotient (p1 : Int64) (p2 : Int64) : Int64 := (xj_bnd (ml_X0_wideQuotient_9 p2 64 (0 : Int64) p1 (0 : Int32)) (fun q4 => (if q4.2.1 = (0 : Int64) then q4.1 else (q4.1 ||| (1 : Int64)))))
set_option maxHeartbeats 4000000 in
set_option maxRecDepth 100000 in
theorem mc_X0_wideQuotient (l : Launch) (p1 : Int64) (p2 : Int64) : xj_Pl l yX0_wideQuotient wsX0_wideQuotient ({ frames := 0, cells := 0, slots := 0, locals := 0 }) [.long p1, .long p2] (mf_X0_wideQuotient p1 p2) := by
  intro sz
  refine Met.ofW (cc := cX0_wideQuotient) (maxL := 9) (ret := (some .long)) (by decide) rfl ?_
  intro p e s m args below meth c s₁ B hml hv
  obtain ⟨rfl, hsz⟩ := hv
  have hx := B.exec
  have hb := B.bytes
  have hr := B.returns
  have hts := atoms_spec (ws := wsX0_wideQuotient) B.pre
  have hown : s.vm.findClass RX0 = some m.cls := findClass_of_methodNamed B.named
  have hlocks := B.notSynchronized
  subst hsz
  generalize hAe : va_A [] s.heap.size = A
  have hA : ∀ q : Nat, s.heap.size ≤ q → A q := fun q h => by rw [← hAe]; exact Or.inr h
  have hS : va_S A s.heap s.heap [] := va_S.rf
  generalize hT : mf_X0_wideQuotient p1 p2 = T
  have hF := hT.symm
  unfold mf_X0_wideQuotient at hF
  have hl := lv_entry ([.long p1, .long p2]) (n := 9) (Nat.le_of_ble_eq_true rfl)
  rw [lg_entry_eq]
  generalize (lg_sl ([.long p1, .long p2]) ++ List.replicate (9 - (lg_sl ([.long p1, .long p2])).length) Slot.unset).toArray = ls at hl ⊢
  have hl : lv_has ls 9 [(0, .long p1), (2, .long p2)] := hl
  refine lv_lload_n hx hb dX0_wideQuotient_0 rfl (lv_at hl 0 rfl) ?_
  refine lv_lstore (lv' := [(4, .long p1), (0, .long p1), (2, .long p2)]) hx hb dX0_wideQuotient_1 hl (by decide) rfl (fun ls hl => ?_)
  refine lv_lconst (v := (0 : Int64)) hx hb dX0_wideQuotient_3 (by decide) ?_
  refine lv_lstore (lv' := [(6, .long (0 : Int64)), (4, .long p1), (0, .long p1), (2, .long p2)]) hx hb dX0_wideQuotient_4 hl (by decide) rfl (fun ls hl => ?_)
  refine lv_iconst (v := (0 : Int32)) hx hb dX0_wideQuotient_6 (by decide) ?_
  refine lv_istore (lv' := [(8, .int (0 : Int32)), (6, .long (0 : Int64)), (4, .long p1), (0, .long p1), (2, .long p2)]) hx hb dX0_wideQuotient_7 hl (by decide) rfl (fun ls hl => ?_)
  obtain ⟨q4, eq4⟩ : ∃ z : Int64 × Int64 × Int32, z = (ml_X0_wideQuotient_9 p2 64 (0 : Int64) p1 (0 : Int32)) := ⟨_, rfl⟩
  replace hF := xj_bz hF eq4
  refine xj_join 53 (fun ls' st' => lv_has ls' 9 [(6, .long q4.1), (4, .long q4.2.1), (8, .int q4.2.2), (0, .long p1), (2, .long p2)] ∧ st' = []) ?_ (fun K53 => ?_)
  · rintro ls st ⟨hl, rfl⟩
    refine lv_lload hx hb dX0_wideQuotient_53 (lv_at hl 1 rfl) ?_
    refine lv_lconst (v := (0 : Int64)) hx hb dX0_wideQuotient_55 (by decide) ?_
    refine xj_l_eq (tgt := 67) hx hb dX0_wideQuotient_56 dX0_wideQuotient_57 (by decide) (fun c14 => ?_) (fun c14 => ?_)
    · replace hF := xj_t hF c14
      refine lv_lload hx hb dX0_wideQuotient_67 (lv_at hl 0 rfl) ?_
      exact W.lret (v := q4.1) hx hb hr (fun t ht hW => ⟨⟨_, (), rfl, hF.symm, trivial⟩, hS.F ht⟩) hS.2.2 dX0_wideQuotient_69
    · replace hF := xj_f hF c14
      refine lv_lload hx hb dX0_wideQuotient_60 (lv_at hl 0 rfl) ?_
      refine lv_lconst (v := (1 : Int64)) hx hb dX0_wideQuotient_62 (by decide) ?_
      refine lv_lor hx hb dX0_wideQuotient_63 ?_
      refine lv_goto (tgt := 69) hx hb dX0_wideQuotient_64 (by decide) ?_
      exact W.lret (v := (q4.1 ||| (1 : Int64))) hx hb hr (fun t ht hW => ⟨⟨_, (), rfl, hF.symm, trivial⟩, hS.F ht⟩) hS.2.2 dX0_wideQuotient_69
  · refine xj_loop 9 (fun n ls' st' => ∃ (v1 : Int64) (v2 : Int64) (v3 : Int32), q4 = ml_X0_wideQuotient_9 p2 n v1 v2 v3 ∧ (∃ k0 : Nat, v3 = nI k0 ∧ k0 ≤ 63 ∧ k0 + n = 64) ∧ lv_has ls' 9 [(6, .long v1), (4, .long v2), (8, .int v3), (0, .long p1), (2, .long p2)] ∧ st' = []) 64 ⟨(0 : Int64), p1, (0 : Int32), eq4, ⟨0, nI_0.symm, by omega, by omega⟩, lv_sub hl [1, 2, 0, 3, 4] rfl, rfl⟩ ?_ ?_
    · rintro n ih ls st ⟨v1, v2, v3, hq, ⟨k0, hk0, hk1, hk2⟩, hl, rfl⟩
      have hq := hq.trans (ml_X0_wideQuotient_9_s  p2 n v1 v2 v3)
      refine lv_iload hx hb dX0_wideQuotient_9 (lv_at hl 2 rfl) ?_
      refine lv_bipush (v := (63 : Int32)) hx hb dX0_wideQuotient_11 (by decide) ?_
      refine lv_icmp_ge (tgt := 53) hx hb dX0_wideQuotient_13 (by decide) (fun c5 => ?_) (fun c5 => ?_)
      · replace hq := xj_t hq c5
        subst hq
        exact K53 _ _ ⟨lv_sub hl [0, 1, 2, 3, 4] rfl, rfl⟩
      · replace hq := xj_f hq c5
        refine lv_lload hx hb dX0_wideQuotient_16 (lv_at hl 0 rfl) ?_
        refine lv_iconst (v := (1 : Int32)) hx hb dX0_wideQuotient_18 (by decide) ?_
        refine lv_lshl (v := (xj_shl v1 (1 : Int32))) hx hb dX0_wideQuotient_19 rfl ?_
        refine lv_topl (fun y6 ey6 => ?_)
        replace hq := xj_bz hq ey6
        refine lv_lstore (lv' := [(6, .long y6), (4, .long v2), (8, .int v3), (0, .long p1), (2, .long p2)]) hx hb dX0_wideQuotient_20 hl (by decide) rfl (fun ls hl => ?_)
        refine lv_lload hx hb dX0_wideQuotient_22 (lv_at hl 1 rfl) ?_
        refine lv_lload_n hx hb dX0_wideQuotient_24 rfl (lv_at hl 4 rfl) ?_
        obtain ⟨y8, ey8⟩ : ∃ z : Int64, z = (if v2 < p2 then y6 else (xj_bnd (v2 - p2) (fun y8 => (xj_bnd (y6 ||| (1 : Int64)) (fun y9 => y9))))) := ⟨_, rfl⟩
        replace hq := xj_bz hq ey8
        obtain ⟨y9, ey9⟩ : ∃ z : Int64, z = (if v2 < p2 then v2 else (xj_bnd (v2 - p2) (fun y8 => (xj_bnd (y6 ||| (1 : Int64)) (fun y9 => y8))))) := ⟨_, rfl⟩
        replace hq := xj_bz hq ey9
        refine xj_join 41 (fun ls' st' => lv_has ls' 9 [(6, .long y8), (4, .long y9), (8, .int v3), (0, .long p1), (2, .long p2)] ∧ st' = []) ?_ (fun K41 => ?_)
        · rintro ls st ⟨hl, rfl⟩
          refine lv_lload hx hb dX0_wideQuotient_41 (lv_at hl 1 rfl) ?_
          refine lv_iconst (v := (1 : Int32)) hx hb dX0_wideQuotient_43 (by decide) ?_
          refine lv_lshl (v := (xj_shl y9 (1 : Int32))) hx hb dX0_wideQuotient_44 rfl ?_
          refine lv_topl (fun y10 ey10 => ?_)
          replace hq := xj_bz hq ey10
          refine lv_lstore (lv' := [(4, .long y10), (6, .long y8), (8, .int v3), (0, .long p1), (2, .long p2)]) hx hb dX0_wideQuotient_45 hl (by decide) rfl (fun ls hl => ?_)
          obtain ⟨y11, ey11⟩ : ∃ z : Int32, z = (v3 + (1 : Int32)) := ⟨_, rfl⟩
          replace hq := xj_bz hq ey11
          refine lv_iinc (v := y11) (lv' := [(8, .int y11), (4, .long y10), (6, .long y8), (0, .long p1), (2, .long p2)]) hx hb dX0_wideQuotient_47 hl (k := 2) rfl (by rw [ey11]; rfl) (by decide) rfl (fun ls hl => ?_)
          refine lv_goto (tgt := 9) hx hb dX0_wideQuotient_50 (by decide) ?_
          exact ih _ _ ⟨y8, y10, y11, hq, ⟨k0 + 1, by rw [ey11, hk0]; exact nI_1 k0, xj_ctr (B := 63) hk0 rfl (by decide) hk1 (by assumption), by omega⟩, lv_sub hl [2, 1, 0, 3, 4] rfl, rfl⟩
        · refine xj_l_lt (tgt := 41) hx hb dX0_wideQuotient_25 dX0_wideQuotient_26 (by decide) (fun c7 => ?_) (fun c7 => ?_)
          · replace ey8 := xj_t ey8 c7
            replace ey9 := xj_t ey9 c7
            subst ey8
            subst ey9
            exact K41 _ _ ⟨lv_sub hl [0, 1, 2, 3, 4] rfl, rfl⟩
          · replace ey8 := xj_f ey8 c7
            replace ey9 := xj_f ey9 c7
            refine lv_lload hx hb dX0_wideQuotient_29 (lv_at hl 1 rfl) ?_
            refine lv_lload_n hx hb dX0_wideQuotient_31 rfl (lv_at hl 4 rfl) ?_
            refine lv_lsub hx hb dX0_wideQuotient_32 ?_
            refine lv_topl (fun y12 ey12 => ?_)
            replace ey8 := xj_bz ey8 ey12
            replace ey9 := xj_bz ey9 ey12
            refine lv_lstore (lv' := [(4, .long y12), (6, .long y6), (8, .int v3), (0, .long p1), (2, .long p2)]) hx hb dX0_wideQuotient_33 hl (by decide) rfl (fun ls hl => ?_)
            refine lv_lload hx hb dX0_wideQuotient_35 (lv_at hl 1 rfl) ?_
            refine lv_lconst (v := (1 : Int64)) hx hb dX0_wideQuotient_37 (by decide) ?_
            refine lv_lor hx hb dX0_wideQuotient_38 ?_
            refine lv_topl (fun y13 ey13 => ?_)
            replace ey8 := xj_bz ey8 ey13
            replace ey9 := xj_bz ey9 ey13
            refine lv_lstore (lv' := [(6, .long y13), (4, .long y12), (8, .int v3), (0, .long p1), (2, .long p2)]) hx hb dX0_wideQuotient_39 hl (by decide) rfl (fun ls hl => ?_)
            subst ey8
            subst ey9
            exact K41 _ _ ⟨lv_sub hl [0, 1, 2, 3, 4] rfl, rfl⟩
    · rintro ls st ⟨v1, v2, v3, hq, ⟨k0, hk0, hk1, hk2⟩, hl, rfl⟩
      omega
def mf_X0_storeQuotient (f : Nat → Int64) (u : Int32) (o : Int32) (p1 : Int32) (p2 : Int32) (p3 : Int64) (p4 : Int64) : Int32 × (Nat → Int64) × Int32 × Int32 := (if p3 = (0 : Int64) then (xj_bnd (mf_X0_storeZero f u o p2 (0 : Int32)) (fun q15 => (q15.1, (q15.2.1, q15.2.2.1, q15.2.2.2)))) else (xj_bnd (mf_X0_significandOf p3) (fun y2 => (xj_bnd (mf_X0_significandOf p4) (fun y3 => (xj_bnd (mf_X0_wideQuotient y2 y3) (fun y4 => (xj_bnd (mf_X0_exponentOf p3) (fun y5 => (xj_bnd (mf_X0_exponentOf p4) (fun y6 => (xj_bnd (((y5 - y6) + (128 : Int32)) + (1 : Int32)) (fun y7 => (xj_bnd (if (0 : Int64) ≤ p3 then (0 : Int32) else (1 : Int32)) (fun y9 => (xj_bnd (if (0 : Int64) ≤ p4 then (0 : Int32) else (1 : Int32)) (fun y11 => (xj_bnd (if y9 = y11 then (0 : Int32) else (1 : Int32)) (fun y13 => (xj_bnd (mf_X0_storeRounded f u o p1 p2 y13 y7 y4) (fun q14 => (q14.1, (q14.2.1, q14.2.2.1, q14.2.2.2)))))))))))))))))))))))
set_option maxHeartbeats 4000000 in
set_option maxRecDepth 100000 in
theorem mc_X0_storeQuotient (l : Launch) (dC : Nat → ClassId) (dI : Nat → Nat → Nat) (h0 h_f : Nat) (cA_f : ClassId) (f : Nat → Int64) (u : Int32) (o : Int32) (p1 : Int32) (p2 : Int32) (p3 : Int64) (p4 : Int64) (hin2 : vp_in p2 8) : xj_Oi l (dC, dI) vwCl [(cA_f, .long)] (mw_X0 h0 h_f cA_f) yX0_storeQuotient wsX0_storeQuotient ({ frames := 2, cells := 0, slots := 0, locals := 54 }) [.ref h0, .int p1, .int p2, .long p3, .long p4] (f, u, o) (mf_X0_storeQuotient f u o p1 p2 p3 p4) := by
  intro sz
  refine Met.ofW (cc := cX0_storeQuotient) (maxL := 10) (ret := (some .int)) (by decide) rfl ?_
  intro p e s m args below meth c s₁ B hml hv
  obtain ⟨rfl, hsz, hP, hK, hD0⟩ := hv
  have hx := B.exec
  have hb := B.bytes
  have hr := B.returns
  have hts := atoms_spec (ws := wsX0_storeQuotient) B.pre
  have hown : s.vm.findClass RX0 = some m.cls := findClass_of_methodNamed B.named
  have hlocks := B.notSynchronized
  subst hsz
  have hD := hD0.self (sz := s.heap.size)
  generalize hAe : va_A (mw_X0 h0 h_f cA_f (f, u, o)) s.heap.size = A at hD ⊢
  have hA : ∀ q : Nat, s.heap.size ≤ q → A q := fun q h => by rw [← hAe]; exact Or.inr h
  have hS : va_S A s.heap s.heap [] := va_S.rf
  have hP : va_P (dC, dI) vwCl [(h0, .inr (0, [.ref h_f, .int u, .int o])), (h_f, .inl (cA_f, 8, .inr (.inl f)))] s.heap := hP
  have hD : va_D A [(h0, .inr (0, [.ref h_f, .int u, .int o])), (h_f, .inl (cA_f, 8, .inr (.inl f)))] := hD
  generalize hT : mf_X0_storeQuotient f u o p1 p2 p3 p4 = T
  have hF := hT.symm
  unfold mf_X0_storeQuotient at hF
  have hl := lv_entry ([.ref h0, .int p1, .int p2, .long p3, .long p4]) (n := 10) (Nat.le_of_ble_eq_true rfl)
  rw [lg_entry_eq]
  generalize (lg_sl ([.ref h0, .int p1, .int p2, .long p3, .long p4]) ++ List.replicate (10 - (lg_sl ([.ref h0, .int p1, .int p2, .long p3, .long p4])).length) Slot.unset).toArray = ls at hl ⊢
  have hl : lv_has ls 10 [(0, .ref h0), (1, .int p1), (2, .int p2), (3, .long p3), (5, .long p4)] := hl
  refine lv_lload_n hx hb dX0_storeQuotient_0 rfl (lv_at hl 3 rfl) ?_
  refine lv_lconst (v := (0 : Int64)) hx hb dX0_storeQuotient_1 (by decide) ?_
  refine xj_l_ne (tgt := 13) hx hb dX0_storeQuotient_2 dX0_storeQuotient_3 (by decide) (fun c1 => ?_) (fun c1 => ?_)
  · replace hF := xj_f hF c1
    refine lv_lload_n hx hb dX0_storeQuotient_13 rfl (lv_at hl 3 rfl) ?_
    refine xj_sl (As := [.long p3]) (rest := []) ⟨hx, hb, hml, hown, hts⟩ (mc_X0_significandOf l p3) (va_cwS 1 hts gX0_storeQuotient_X0_significandOf rfl rfl rfl (by decide +kernel) ⟨Nat.le_of_ble_eq_true rfl, Nat.le_of_ble_eq_true rfl⟩) hS hA rfl hl.1 rfl (Nat.le_of_ble_eq_true rfl) dX0_storeQuotient_14 ⟨Nat.zero_le _, Nat.zero_le _⟩ (fun H9 locs9 hk9 hS => ?_)
    have hP := xj_kept hP hk9
    refine lv_topl (fun y2 ey2 => ?_)
    replace hF := xj_bz hF ey2
    refine lv_lload hx hb dX0_storeQuotient_17 (lv_at hl 4 rfl) ?_
    refine xj_sl (As := [.long p4]) (rest := [.long y2]) ⟨hx, hb, hml, hown, hts⟩ (mc_X0_significandOf l p4) (va_cwS 1 hts gX0_storeQuotient_X0_significandOf rfl rfl rfl (by decide +kernel) ⟨Nat.le_of_ble_eq_true rfl, Nat.le_of_ble_eq_true rfl⟩) hS hA rfl hl.1 rfl (Nat.le_of_ble_eq_true rfl) dX0_storeQuotient_19 ⟨Nat.zero_le _, Nat.zero_le _⟩ (fun H9 locs9 hk9 hS => ?_)
    have hP := xj_kept hP hk9
    refine lv_topl (fun y3 ey3 => ?_)
    replace hF := xj_bz hF ey3
    refine xj_sl (As := [.long y2, .long y3]) (rest := []) ⟨hx, hb, hml, hown, hts⟩ (mc_X0_wideQuotient l y2 y3) (va_cwS 2 hts gX0_storeQuotient_X0_wideQuotient rfl rfl rfl (by decide +kernel) ⟨Nat.le_of_ble_eq_true rfl, Nat.le_of_ble_eq_true rfl⟩) hS hA rfl hl.1 rfl (Nat.le_of_ble_eq_true rfl) dX0_storeQuotient_22 ⟨Nat.zero_le _, Nat.zero_le _⟩ (fun H9 locs9 hk9 hS => ?_)
    have hP := xj_kept hP hk9
    refine lv_topl (fun y4 ey4 => ?_)
    replace hF := xj_bz hF ey4
    refine lv_lstore (lv' := [(7, .long y4), (0, .ref h0), (1, .int p1), (2, .int p2), (3, .long p3), (5, .long p4)]) hx hb dX0_storeQuotient_25 hl (by decide) rfl (fun ls hl => ?_)
    refine lv_lload_n hx hb dX0_storeQuotient_27 rfl (lv_at hl 4 rfl) ?_
    refine xj_si (As := [.long p3]) (rest := []) ⟨hx, hb, hml, hown, hts⟩ (mc_X0_exponentOf l p3) (va_cwS 1 hts gX0_storeQuotient_X0_exponentOf rfl rfl rfl (by decide +kernel) ⟨Nat.le_of_ble_eq_true rfl, Nat.le_of_ble_eq_true rfl⟩) hS hA rfl hl.1 rfl (Nat.le_of_ble_eq_true rfl) dX0_storeQuotient_28 ⟨Nat.zero_le _, Nat.zero_le _⟩ (fun H9 locs9 hk9 hS => ?_)
    have hP := xj_kept hP hk9
    refine lv_topi (fun y5 ey5 => ?_)
    replace hF := xj_bz hF ey5
    refine lv_lload hx hb dX0_storeQuotient_31 (lv_at hl 5 rfl) ?_
    refine xj_si (As := [.long p4]) (rest := [.int y5]) ⟨hx, hb, hml, hown, hts⟩ (mc_X0_exponentOf l p4) (va_cwS 1 hts gX0_storeQuotient_X0_exponentOf rfl rfl rfl (by decide +kernel) ⟨Nat.le_of_ble_eq_true rfl, Nat.le_of_ble_eq_true rfl⟩) hS hA rfl hl.1 rfl (Nat.le_of_ble_eq_true rfl) dX0_storeQuotient_33 ⟨Nat.zero_le _, Nat.zero_le _⟩ (fun H9 locs9 hk9 hS => ?_)
    have hP := xj_kept hP hk9
    refine lv_topi (fun y6 ey6 => ?_)
    replace hF := xj_bz hF ey6
    refine lv_isub hx hb dX0_storeQuotient_36 ?_
    refine lv_sipush (v := (128 : Int32)) hx hb dX0_storeQuotient_37 (by decide) ?_
    refine lv_iadd hx hb dX0_storeQuotient_40 ?_
    refine lv_iconst (v := (1 : Int32)) hx hb dX0_storeQuotient_41 (by decide) ?_
    refine lv_iadd hx hb dX0_storeQuotient_42 ?_
    refine lv_topi (fun y7 ey7 => ?_)
    replace hF := xj_bz hF ey7
    refine lv_istore (lv' := [(9, .int y7), (7, .long y4), (0, .ref h0), (1, .int p1), (2, .int p2), (3, .long p3), (5, .long p4)]) hx hb dX0_storeQuotient_43 hl (by decide) rfl (fun ls hl => ?_)
    refine lv_aload_n hx hb dX0_storeQuotient_45 rfl (lv_at hl 2 rfl) ?_
    refine lv_iload_n hx hb dX0_storeQuotient_46 rfl (lv_at hl 3 rfl) ?_
    refine lv_iload_n hx hb dX0_storeQuotient_47 rfl (lv_at hl 4 rfl) ?_
    refine lv_lload_n hx hb dX0_storeQuotient_48 rfl (lv_at hl 5 rfl) ?_
    refine lv_lconst (v := (0 : Int64)) hx hb dX0_storeQuotient_49 (by decide) ?_
    obtain ⟨y9, ey9⟩ : ∃ z : Int32, z = (if (0 : Int64) ≤ p3 then (0 : Int32) else (1 : Int32)) := ⟨_, rfl⟩
    replace hF := xj_bz hF ey9
    refine xj_join 59 (fun ls' st' => lv_has ls' 10 [(9, .int y7), (7, .long y4), (0, .ref h0), (1, .int p1), (2, .int p2), (3, .long p3), (5, .long p4)] ∧ st' = [.int y9, .int p2, .int p1, .ref h0]) ?_ (fun K59 => ?_)
    · rintro ls st ⟨hl, rfl⟩
      refine lv_lload hx hb dX0_storeQuotient_59 (lv_at hl 6 rfl) ?_
      refine lv_lconst (v := (0 : Int64)) hx hb dX0_storeQuotient_61 (by decide) ?_
      obtain ⟨y11, ey11⟩ : ∃ z : Int32, z = (if (0 : Int64) ≤ p4 then (0 : Int32) else (1 : Int32)) := ⟨_, rfl⟩
      replace hF := xj_bz hF ey11
      refine xj_join 71 (fun ls' st' => lv_has ls' 10 [(9, .int y7), (7, .long y4), (0, .ref h0), (1, .int p1), (2, .int p2), (3, .long p3), (5, .long p4)] ∧ st' = [.int y11, .int y9, .int p2, .int p1, .ref h0]) ?_ (fun K71 => ?_)
      · rintro ls st ⟨hl, rfl⟩
        obtain ⟨y13, ey13⟩ : ∃ z : Int32, z = (if y9 = y11 then (0 : Int32) else (1 : Int32)) := ⟨_, rfl⟩
        replace hF := xj_bz hF ey13
        refine xj_join 79 (fun ls' st' => lv_has ls' 10 [(9, .int y7), (7, .long y4), (0, .ref h0), (1, .int p1), (2, .int p2), (3, .long p3), (5, .long p4)] ∧ st' = [.int y13, .int p2, .int p1, .ref h0]) ?_ (fun K79 => ?_)
        · rintro ls st ⟨hl, rfl⟩
          refine lv_iload hx hb dX0_storeQuotient_79 (lv_at hl 0 rfl) ?_
          refine lv_lload hx hb dX0_storeQuotient_81 (lv_at hl 1 rfl) ?_
          obtain ⟨q14, eq14⟩ : ∃ z : Int32 × (Nat → Int64) × Int32 × Int32, z = (mf_X0_storeRounded f u o p1 p2 y13 y7 y4) := ⟨_, rfl⟩
          replace hF := xj_bz hF eq14
          refine xj_vi (r := q14) (As := [.int p1, .int p2, .int y13, .int y7, .long y4]) (rest := []) (Wd := mw_X0 h0 h_f cA_f) (wr := []) ⟨hx, hb, hml, hown, hts⟩ (by rw [eq14]; exact mc_X0_storeRounded l dC dI h0 h_f cA_f f u o p1 p2 y13 y7 y4 (hin2)) (cwV 5 hts gX0_storeQuotient_X0_storeRounded rfl rfl rfl (by decide +kernel) ⟨Nat.le_of_ble_eq_true rfl, Nat.le_of_ble_eq_true rfl⟩) hP hK hD hS hA [0, 1] [] [0] rfl (by decide) rfl (by decide) (by decide) rfl (va_recv hK hP (ci := 0) (q0 := 0) rfl rfl) rfl hl.1 rfl (Nat.le_of_ble_eq_true rfl) dX0_storeQuotient_83 ⟨Nat.zero_le _, Nat.zero_le _⟩ (fun H9 locs9 hP hD hS => ?_)
          have hP : va_P (dC, dI) vwCl [(h0, .inr (0, [.ref h_f, .int q14.2.2.1, .int q14.2.2.2])), (h_f, .inl (cA_f, 8, .inr (.inl q14.2.1)))] _ := hP
          have hD : va_D A [(h0, .inr (0, [.ref h_f, .int q14.2.2.1, .int q14.2.2.2])), (h_f, .inl (cA_f, 8, .inr (.inl q14.2.1)))] := hD
          exact W.iret (v := q14.1) hx hb hr (fun t ht hW => ⟨⟨_, (q14.2.1, q14.2.2.1, q14.2.2.2), rfl, hF.symm, by rw [ht]; exact hP, hD⟩, hS.F ht⟩) hS.2.2 dX0_storeQuotient_86
        · refine lv_icmp_eq (tgt := 78) hx hb dX0_storeQuotient_71 (by decide) (fun c12 => ?_) (fun c12 => ?_)
          · replace ey13 := xj_t ey13 c12
            refine lv_iconst (v := (0 : Int32)) hx hb dX0_storeQuotient_78 (by decide) ?_
            subst ey13
            exact K79 _ _ ⟨lv_sub hl [0, 1, 2, 3, 4, 5, 6] rfl, rfl⟩
          · replace ey13 := xj_f ey13 c12
            refine lv_iconst (v := (1 : Int32)) hx hb dX0_storeQuotient_74 (by decide) ?_
            refine lv_goto (tgt := 79) hx hb dX0_storeQuotient_75 (by decide) ?_
            subst ey13
            exact K79 _ _ ⟨lv_sub hl [0, 1, 2, 3, 4, 5, 6] rfl, rfl⟩
      · refine xj_l_ge (tgt := 70) hx hb dX0_storeQuotient_62 dX0_storeQuotient_63 (by decide) (fun c10 => ?_) (fun c10 => ?_)
        · replace ey11 := xj_t ey11 c10
          refine lv_iconst (v := (0 : Int32)) hx hb dX0_storeQuotient_70 (by decide) ?_
          subst ey11
          exact K71 _ _ ⟨lv_sub hl [0, 1, 2, 3, 4, 5, 6] rfl, rfl⟩
        · replace ey11 := xj_f ey11 c10
          refine lv_iconst (v := (1 : Int32)) hx hb dX0_storeQuotient_66 (by decide) ?_
          refine lv_goto (tgt := 71) hx hb dX0_storeQuotient_67 (by decide) ?_
          subst ey11
          exact K71 _ _ ⟨lv_sub hl [0, 1, 2, 3, 4, 5, 6] rfl, rfl⟩
    · refine xj_l_ge (tgt := 58) hx hb dX0_storeQuotient_50 dX0_storeQuotient_51 (by decide) (fun c8 => ?_) (fun c8 => ?_)
      · replace ey9 := xj_t ey9 c8
        refine lv_iconst (v := (0 : Int32)) hx hb dX0_storeQuotient_58 (by decide) ?_
        subst ey9
        exact K59 _ _ ⟨lv_sub hl [0, 1, 2, 3, 4, 5, 6] rfl, rfl⟩
      · replace ey9 := xj_f ey9 c8
        refine lv_iconst (v := (1 : Int32)) hx hb dX0_storeQuotient_54 (by decide) ?_
        refine lv_goto (tgt := 59) hx hb dX0_storeQuotient_55 (by decide) ?_
        subst ey9
        exact K59 _ _ ⟨lv_sub hl [0, 1, 2, 3, 4, 5, 6] rfl, rfl⟩
  · replace hF := xj_t hF c1
    refine lv_aload_n hx hb dX0_storeQuotient_6 rfl (lv_at hl 0 rfl) ?_
    refine lv_iload_n hx hb dX0_storeQuotient_7 rfl (lv_at hl 2 rfl) ?_
    refine lv_iconst (v := (0 : Int32)) hx hb dX0_storeQuotient_8 (by decide) ?_
    obtain ⟨q15, eq15⟩ : ∃ z : Int32 × (Nat → Int64) × Int32 × Int32, z = (mf_X0_storeZero f u o p2 (0 : Int32)) := ⟨_, rfl⟩
    replace hF := xj_bz hF eq15
    refine xj_vi (r := q15) (As := [.int p2, .int (0 : Int32)]) (rest := []) (Wd := mw_X0 h0 h_f cA_f) (wr := []) ⟨hx, hb, hml, hown, hts⟩ (by rw [eq15]; exact mc_X0_storeZero l dC dI h0 h_f cA_f f u o p2 (0 : Int32) (hin2) (Or.inl rfl)) (cwV 2 hts gX0_storeQuotient_X0_storeZero rfl rfl rfl (by decide +kernel) ⟨Nat.le_of_ble_eq_true rfl, Nat.le_of_ble_eq_true rfl⟩) hP hK hD hS hA [0, 1] [] [0] rfl (by decide) rfl (by decide) (by decide) rfl (va_recv hK hP (ci := 0) (q0 := 0) rfl rfl) rfl hl.1 rfl (Nat.le_of_ble_eq_true rfl) dX0_storeQuotient_9 ⟨Nat.zero_le _, Nat.zero_le _⟩ (fun H9 locs9 hP hD hS => ?_)
    have hP : va_P (dC, dI) vwCl [(h0, .inr (0, [.ref h_f, .int q15.2.2.1, .int q15.2.2.2])), (h_f, .inl (cA_f, 8, .inr (.inl q15.2.1)))] _ := hP
    have hD : va_D A [(h0, .inr (0, [.ref h_f, .int q15.2.2.1, .int q15.2.2.2])), (h_f, .inl (cA_f, 8, .inr (.inl q15.2.1)))] := hD
    exact W.iret (v := q15.1) hx hb hr (fun t ht hW => ⟨⟨_, (q15.2.1, q15.2.2.1, q15.2.2.2), rfl, hF.symm, by rw [ht]; exact hP, hD⟩, hS.F ht⟩) hS.2.2 dX0_storeQuotient_12
def mf_X0_wholeSize (p1 : Int64) (p2 : Int32) (p3 : Int32) : Int64 := (if p2 < 0 then (xj_bnd (-p2) (fun y2 => (if y2 ≤ (56 : Int32) then (if p3 = 0 then (xj_ush p1 y2) else (xj_ush ((xj_ush p1 (y2 - (1 : Int32))) + (1 : Int64)) (1 : Int32))) else (0 : Int64)))) else (xj_bnd (if (32 : Int32) ≤ p2 then (0 : Int64) else ((xj_shl p1 p2) &&& (4294967295 : Int64))) (fun y6 => (y6 ||| (36028797018963968 : Int64)))))
set_option maxHeartbeats 4000000 in
set_option maxRecDepth 100000 in
theorem mc_X0_wholeSize (l : Launch) (p1 : Int64) (p2 : Int32) (p3 : Int32) : xj_Pl l yX0_wholeSize wsX0_wholeSize ({ frames := 0, cells := 0, slots := 0, locals := 0 }) [.long p1, .int p2, .int p3] (mf_X0_wholeSize p1 p2 p3) := by
  intro sz
  refine Met.ofW (cc := cX0_wholeSize) (maxL := 6) (ret := (some .long)) (by decide) rfl ?_
  intro p e s m args below meth c s₁ B hml hv
  obtain ⟨rfl, hsz⟩ := hv
  have hx := B.exec
  have hb := B.bytes
  have hr := B.returns
  have hts := atoms_spec (ws := wsX0_wholeSize) B.pre
  have hown : s.vm.findClass RX0 = some m.cls := findClass_of_methodNamed B.named
  have hlocks := B.notSynchronized
  subst hsz
  generalize hAe : va_A [] s.heap.size = A
  have hA : ∀ q : Nat, s.heap.size ≤ q → A q := fun q h => by rw [← hAe]; exact Or.inr h
  have hS : va_S A s.heap s.heap [] := va_S.rf
  generalize hT : mf_X0_wholeSize p1 p2 p3 = T
  have hF := hT.symm
  unfold mf_X0_wholeSize at hF
  have hl := lv_entry ([.long p1, .int p2, .int p3]) (n := 6) (Nat.le_of_ble_eq_true rfl)
  rw [lg_entry_eq]
  generalize (lg_sl ([.long p1, .int p2, .int p3]) ++ List.replicate (6 - (lg_sl ([.long p1, .int p2, .int p3])).length) Slot.unset).toArray = ls at hl ⊢
  have hl : lv_has ls 6 [(0, .long p1), (2, .int p2), (3, .int p3)] := hl
  refine lv_iload_n hx hb dX0_wholeSize_0 rfl (lv_at hl 1 rfl) ?_
  refine lv_if_lt (tgt := 30) hx hb dX0_wholeSize_1 (by decide) (fun c1 => ?_) (fun c1 => ?_)
  · replace hF := xj_t hF c1
    refine lv_iload_n hx hb dX0_wholeSize_30 rfl (lv_at hl 1 rfl) ?_
    refine lv_ineg hx hb dX0_wholeSize_31 ?_
    refine lv_topi (fun y2 ey2 => ?_)
    replace hF := xj_bz hF ey2
    refine lv_istore (lv' := [(4, .int y2), (0, .long p1), (2, .int p2), (3, .int p3)]) hx hb dX0_wholeSize_32 hl (by decide) rfl (fun ls hl => ?_)
    refine lv_iload hx hb dX0_wholeSize_34 (lv_at hl 0 rfl) ?_
    refine lv_bipush (v := (56 : Int32)) hx hb dX0_wholeSize_36 (by decide) ?_
    refine lv_icmp_le (tgt := 43) hx hb dX0_wholeSize_38 (by decide) (fun c3 => ?_) (fun c3 => ?_)
    · replace hF := xj_t hF c3
      refine lv_iload_n hx hb dX0_wholeSize_43 rfl (lv_at hl 3 rfl) ?_
      refine lv_if_eq (tgt := 60) hx hb dX0_wholeSize_44 (by decide) (fun c4 => ?_) (fun c4 => ?_)
      · replace hF := xj_t hF c4
        refine lv_lload_n hx hb dX0_wholeSize_60 rfl (lv_at hl 1 rfl) ?_
        refine lv_iload hx hb dX0_wholeSize_61 (lv_at hl 0 rfl) ?_
        refine lv_lushr (v := (xj_ush p1 y2)) hx hb dX0_wholeSize_63 rfl ?_
        exact W.lret (v := (xj_ush p1 y2)) hx hb hr (fun t ht hW => ⟨⟨_, (), rfl, hF.symm, trivial⟩, hS.F ht⟩) hS.2.2 dX0_wholeSize_64
      · replace hF := xj_f hF c4
        refine lv_lload_n hx hb dX0_wholeSize_47 rfl (lv_at hl 1 rfl) ?_
        refine lv_iload hx hb dX0_wholeSize_48 (lv_at hl 0 rfl) ?_
        refine lv_iconst (v := (1 : Int32)) hx hb dX0_wholeSize_50 (by decide) ?_
        refine lv_isub hx hb dX0_wholeSize_51 ?_
        refine lv_lushr (v := (xj_ush p1 (y2 - (1 : Int32)))) hx hb dX0_wholeSize_52 rfl ?_
        refine lv_lconst (v := (1 : Int64)) hx hb dX0_wholeSize_53 (by decide) ?_
        refine lv_ladd hx hb dX0_wholeSize_54 ?_
        refine lv_iconst (v := (1 : Int32)) hx hb dX0_wholeSize_55 (by decide) ?_
        refine lv_lushr (v := (xj_ush ((xj_ush p1 (y2 - (1 : Int32))) + (1 : Int64)) (1 : Int32))) hx hb dX0_wholeSize_56 rfl ?_
        refine lv_goto (tgt := 64) hx hb dX0_wholeSize_57 (by decide) ?_
        exact W.lret (v := (xj_ush ((xj_ush p1 (y2 - (1 : Int32))) + (1 : Int64)) (1 : Int32))) hx hb hr (fun t ht hW => ⟨⟨_, (), rfl, hF.symm, trivial⟩, hS.F ht⟩) hS.2.2 dX0_wholeSize_64
    · replace hF := xj_f hF c3
      refine lv_lconst (v := (0 : Int64)) hx hb dX0_wholeSize_41 (by decide) ?_
      exact W.lret (v := (0 : Int64)) hx hb hr (fun t ht hW => ⟨⟨_, (), rfl, hF.symm, trivial⟩, hS.F ht⟩) hS.2.2 dX0_wholeSize_42
  · replace hF := xj_f hF c1
    refine lv_iload_n hx hb dX0_wholeSize_4 rfl (lv_at hl 1 rfl) ?_
    refine lv_bipush (v := (32 : Int32)) hx hb dX0_wholeSize_5 (by decide) ?_
    obtain ⟨y6, ey6⟩ : ∃ z : Int64, z = (if (32 : Int32) ≤ p2 then (0 : Int64) else ((xj_shl p1 p2) &&& (4294967295 : Int64))) := ⟨_, rfl⟩
    replace hF := xj_bz hF ey6
    refine xj_join 21 (fun ls' st' => lv_has ls' 6 [(0, .long p1), (2, .int p2), (3, .int p3)] ∧ st' = [.long y6]) ?_ (fun K21 => ?_)
    · rintro ls st ⟨hl, rfl⟩
      refine lv_lstore (lv' := [(4, .long y6), (0, .long p1), (2, .int p2), (3, .int p3)]) hx hb dX0_wholeSize_21 hl (by decide) rfl (fun ls hl => ?_)
      refine lv_lload hx hb dX0_wholeSize_23 (lv_at hl 0 rfl) ?_
      refine lv_ldc2 (own := RX0) (v := (36028797018963968 : Int64)) hx hb hown (hts (.constantLong RX0 91 (36028797018963968 : Int64)) (by decide +kernel)) dX0_wholeSize_25 ?_
      refine lv_lor hx hb dX0_wholeSize_28 ?_
      exact W.lret (v := (y6 ||| (36028797018963968 : Int64))) hx hb hr (fun t ht hW => ⟨⟨_, (), rfl, hF.symm, trivial⟩, hS.F ht⟩) hS.2.2 dX0_wholeSize_29
    · refine lv_icmp_ge (tgt := 20) hx hb dX0_wholeSize_7 (by decide) (fun c5 => ?_) (fun c5 => ?_)
      · replace ey6 := xj_t ey6 c5
        refine lv_lconst (v := (0 : Int64)) hx hb dX0_wholeSize_20 (by decide) ?_
        subst ey6
        exact K21 _ _ ⟨lv_sub hl [0, 1, 2] rfl, rfl⟩
      · replace ey6 := xj_f ey6 c5
        refine lv_lload_n hx hb dX0_wholeSize_10 rfl (lv_at hl 0 rfl) ?_
        refine lv_iload_n hx hb dX0_wholeSize_11 rfl (lv_at hl 1 rfl) ?_
        refine lv_lshl (v := (xj_shl p1 p2)) hx hb dX0_wholeSize_12 rfl ?_
        refine lv_ldc2 (own := RX0) (v := (4294967295 : Int64)) hx hb hown (hts (.constantLong RX0 80 (4294967295 : Int64)) (by decide +kernel)) dX0_wholeSize_13 ?_
        refine lv_land hx hb dX0_wholeSize_16 ?_
        refine lv_goto (tgt := 21) hx hb dX0_wholeSize_17 (by decide) ?_
        subst ey6
        exact K21 _ _ ⟨lv_sub hl [0, 1, 2] rfl, rfl⟩
def mf_X0_wholeOf (p1 : Int64) (p2 : Int32) : Int64 := (if p1 = (0 : Int64) then (0 : Int64) else (xj_bnd (mf_X0_exponentOf p1) (fun y2 => (xj_bnd ((y2 - (128 : Int32)) - (56 : Int32)) (fun y3 => (xj_bnd (mf_X0_significandOf p1) (fun y4 => (xj_bnd (mf_X0_wholeSize y4 y3 p2) (fun y5 => (if (0 : Int64) ≤ p1 then y5 else (-y5)))))))))))
set_option maxHeartbeats 4000000 in
set_option maxRecDepth 100000 in
theorem mc_X0_wholeOf (l : Launch) (p1 : Int64) (p2 : Int32) : xj_Pl l yX0_wholeOf wsX0_wholeOf ({ frames := 2, cells := 0, slots := 0, locals := 34 }) [.long p1, .int p2] (mf_X0_wholeOf p1 p2) := by
  intro sz
  refine Met.ofW (cc := cX0_wholeOf) (maxL := 6) (ret := (some .long)) (by decide) rfl ?_
  intro p e s m args below meth c s₁ B hml hv
  obtain ⟨rfl, hsz⟩ := hv
  have hx := B.exec
  have hb := B.bytes
  have hr := B.returns
  have hts := atoms_spec (ws := wsX0_wholeOf) B.pre
  have hown : s.vm.findClass RX0 = some m.cls := findClass_of_methodNamed B.named
  have hlocks := B.notSynchronized
  subst hsz
  generalize hAe : va_A [] s.heap.size = A
  have hA : ∀ q : Nat, s.heap.size ≤ q → A q := fun q h => by rw [← hAe]; exact Or.inr h
  have hS : va_S A s.heap s.heap [] := va_S.rf
  generalize hT : mf_X0_wholeOf p1 p2 = T
  have hF := hT.symm
  unfold mf_X0_wholeOf at hF
  have hl := lv_entry ([.long p1, .int p2]) (n := 6) (Nat.le_of_ble_eq_true rfl)
  rw [lg_entry_eq]
  generalize (lg_sl ([.long p1, .int p2]) ++ List.replicate (6 - (lg_sl ([.long p1, .int p2])).length) Slot.unset).toArray = ls at hl ⊢
  have hl : lv_has ls 6 [(0, .long p1), (2, .int p2)] := hl
  refine lv_lload_n hx hb dX0_wholeOf_0 rfl (lv_at hl 0 rfl) ?_
  refine lv_lconst (v := (0 : Int64)) hx hb dX0_wholeOf_1 (by decide) ?_
  refine xj_l_ne (tgt := 8) hx hb dX0_wholeOf_2 dX0_wholeOf_3 (by decide) (fun c1 => ?_) (fun c1 => ?_)
  · replace hF := xj_f hF c1
    refine lv_lload_n hx hb dX0_wholeOf_8 rfl (lv_at hl 0 rfl) ?_
    refine xj_si (As := [.long p1]) (rest := []) ⟨hx, hb, hml, hown, hts⟩ (mc_X0_exponentOf l p1) (va_cwS 1 hts gX0_wholeOf_X0_exponentOf rfl rfl rfl (by decide +kernel) ⟨Nat.le_of_ble_eq_true rfl, Nat.le_of_ble_eq_true rfl⟩) hS hA rfl hl.1 rfl (Nat.le_of_ble_eq_true rfl) dX0_wholeOf_9 ⟨Nat.zero_le _, Nat.zero_le _⟩ (fun H9 locs9 hk9 hS => ?_)
    refine lv_topi (fun y2 ey2 => ?_)
    replace hF := xj_bz hF ey2
    refine lv_sipush (v := (128 : Int32)) hx hb dX0_wholeOf_12 (by decide) ?_
    refine lv_isub hx hb dX0_wholeOf_15 ?_
    refine lv_bipush (v := (56 : Int32)) hx hb dX0_wholeOf_16 (by decide) ?_
    refine lv_isub hx hb dX0_wholeOf_18 ?_
    refine lv_topi (fun y3 ey3 => ?_)
    replace hF := xj_bz hF ey3
    refine lv_istore_n (lv' := [(3, .int y3), (0, .long p1), (2, .int p2)]) hx hb dX0_wholeOf_19 rfl hl (by decide) rfl (fun ls hl => ?_)
    refine lv_lload_n hx hb dX0_wholeOf_20 rfl (lv_at hl 1 rfl) ?_
    refine xj_sl (As := [.long p1]) (rest := []) ⟨hx, hb, hml, hown, hts⟩ (mc_X0_significandOf l p1) (va_cwS 1 hts gX0_wholeOf_X0_significandOf rfl rfl rfl (by decide +kernel) ⟨Nat.le_of_ble_eq_true rfl, Nat.le_of_ble_eq_true rfl⟩) hS hA rfl hl.1 rfl (Nat.le_of_ble_eq_true rfl) dX0_wholeOf_21 ⟨Nat.zero_le _, Nat.zero_le _⟩ (fun H9 locs9 hk9 hS => ?_)
    refine lv_topl (fun y4 ey4 => ?_)
    replace hF := xj_bz hF ey4
    refine lv_iload_n hx hb dX0_wholeOf_24 rfl (lv_at hl 0 rfl) ?_
    refine lv_iload_n hx hb dX0_wholeOf_25 rfl (lv_at hl 2 rfl) ?_
    refine xj_sl (As := [.long y4, .int y3, .int p2]) (rest := []) ⟨hx, hb, hml, hown, hts⟩ (mc_X0_wholeSize l y4 y3 p2) (va_cwS 3 hts gX0_wholeOf_X0_wholeSize rfl rfl rfl (by decide +kernel) ⟨Nat.le_of_ble_eq_true rfl, Nat.le_of_ble_eq_true rfl⟩) hS hA rfl hl.1 rfl (Nat.le_of_ble_eq_true rfl) dX0_wholeOf_26 ⟨Nat.zero_le _, Nat.zero_le _⟩ (fun H9 locs9 hk9 hS => ?_)
    refine lv_topl (fun y5 ey5 => ?_)
    replace hF := xj_bz hF ey5
    refine lv_lstore (lv' := [(4, .long y5), (3, .int y3), (0, .long p1), (2, .int p2)]) hx hb dX0_wholeOf_29 hl (by decide) rfl (fun ls hl => ?_)
    refine lv_lload_n hx hb dX0_wholeOf_31 rfl (lv_at hl 2 rfl) ?_
    refine lv_lconst (v := (0 : Int64)) hx hb dX0_wholeOf_32 (by decide) ?_
    refine xj_l_ge (tgt := 43) hx hb dX0_wholeOf_33 dX0_wholeOf_34 (by decide) (fun c6 => ?_) (fun c6 => ?_)
    · replace hF := xj_t hF c6
      refine lv_lload hx hb dX0_wholeOf_43 (lv_at hl 0 rfl) ?_
      exact W.lret (v := y5) hx hb hr (fun t ht hW => ⟨⟨_, (), rfl, hF.symm, trivial⟩, hS.F ht⟩) hS.2.2 dX0_wholeOf_45
    · replace hF := xj_f hF c6
      refine lv_lload hx hb dX0_wholeOf_37 (lv_at hl 0 rfl) ?_
      refine lv_lneg hx hb dX0_wholeOf_39 ?_
      refine lv_goto (tgt := 45) hx hb dX0_wholeOf_40 (by decide) ?_
      exact W.lret (v := (-y5)) hx hb hr (fun t ht hW => ⟨⟨_, (), rfl, hF.symm, trivial⟩, hS.F ht⟩) hS.2.2 dX0_wholeOf_45
  · replace hF := xj_t hF c1
    refine lv_lconst (v := (0 : Int64)) hx hb dX0_wholeOf_6 (by decide) ?_
    exact W.lret (v := (0 : Int64)) hx hb hr (fun t ht hW => ⟨⟨_, (), rfl, hF.symm, trivial⟩, hS.F ht⟩) hS.2.2 dX0_wholeOf_7
end
section
def mf_X0_set (f : Nat → Int64) (u : Int32) (o : Int32) (p1 : Int32) (p2 : Int64) : Int32 × (Nat → Int64) × Int32 × Int32 := (xj_bnd (mf_X0_isRegister p1) (fun y1 => (if y1 = 0 then ((0 : Int32), (f, u, o)) else ((1 : Int32), ((vp_updL f (Int32.toNatClampNeg p1) p2), u, o)))))
set_option maxHeartbeats 4000000 in
set_option maxRecDepth 100000 in
theorem mc_X0_set (l : Launch) (dC : Nat → ClassId) (dI : Nat → Nat → Nat) (h0 h_f : Nat) (cA_f : ClassId) (f : Nat → Int64) (u : Int32) (o : Int32) (p1 : Int32) (p2 : Int64) : xj_Oi l (dC, dI) vwCl [(cA_f, .long)] (mw_X0 h0 h_f cA_f) yX0_set wsX0_set ({ frames := 1, cells := 0, slots := 0, locals := 20 }) [.ref h0, .int p1, .long p2] (f, u, o) (mf_X0_set f u o p1 p2) := by
  intro sz
  refine Met.ofW (cc := cX0_set) (maxL := 4) (ret := (some .boolean)) (by decide) rfl ?_
  intro p e s m args below meth c s₁ B hml hv
  obtain ⟨rfl, hsz, hP, hK, hD0⟩ := hv
  have hx := B.exec
  have hb := B.bytes
  have hr := B.returns
  have hts := atoms_spec (ws := wsX0_set) B.pre
  have hown : s.vm.findClass RX0 = some m.cls := findClass_of_methodNamed B.named
  have hlocks := B.notSynchronized
  subst hsz
  have hD := hD0.self (sz := s.heap.size)
  generalize hAe : va_A (mw_X0 h0 h_f cA_f (f, u, o)) s.heap.size = A at hD ⊢
  have hA : ∀ q : Nat, s.heap.size ≤ q → A q := fun q h => by rw [← hAe]; exact Or.inr h
  have hS : va_S A s.heap s.heap [] := va_S.rf
  have hP : va_P (dC, dI) vwCl [(h0, .inr (0, [.ref h_f, .int u, .int o])), (h_f, .inl (cA_f, 8, .inr (.inl f)))] s.heap := hP
  have hD : va_D A [(h0, .inr (0, [.ref h_f, .int u, .int o])), (h_f, .inl (cA_f, 8, .inr (.inl f)))] := hD
  generalize hT : mf_X0_set f u o p1 p2 = T
  have hF := hT.symm
  unfold mf_X0_set at hF
  have hl := lv_entry ([.ref h0, .int p1, .long p2]) (n := 4) (Nat.le_of_ble_eq_true rfl)
  rw [lg_entry_eq]
  generalize (lg_sl ([.ref h0, .int p1, .long p2]) ++ List.replicate (4 - (lg_sl ([.ref h0, .int p1, .long p2])).length) Slot.unset).toArray = ls at hl ⊢
  have hl : lv_has ls 4 [(0, .ref h0), (1, .int p1), (2, .long p2)] := hl
  refine lv_iload_n hx hb dX0_set_0 rfl (lv_at hl 1 rfl) ?_
  refine xj_si (As := [.int p1]) (rest := []) ⟨hx, hb, hml, hown, hts⟩ (mc_X0_isRegister l p1) (va_cwS 1 hts gX0_set_X0_isRegister rfl rfl rfl (by decide +kernel) ⟨Nat.le_of_ble_eq_true rfl, Nat.le_of_ble_eq_true rfl⟩) hS hA rfl hl.1 rfl (Nat.le_of_ble_eq_true rfl) dX0_set_1 ⟨Nat.zero_le _, Nat.zero_le _⟩ (fun H9 locs9 hk9 hS => ?_)
  have hP := xj_kept hP hk9
  refine lv_topi (fun y1 ey1 => ?_)
  replace hF := xj_bz hF ey1
  refine lv_if_ne (tgt := 9) hx hb dX0_set_4 (by decide) (fun c2 => ?_) (fun c2 => ?_)
  · replace hF := xj_f hF c2
    refine lv_aload_n hx hb dX0_set_9 rfl (lv_at hl 0 rfl) ?_
    refine va_get (D := (dC, dI)) (ci := 0) (v := .ref h_f) (C := RX0) (T := TX0) (N := 3) hx hb hts (by decide +kernel) hown hK hP 0 rfl rfl 0 (by decide) (hts (.fieldLink RX0 9 "ExactFloats" "registers" "[J") (by decide +kernel)) (fun _ h9 => h9) rfl dX0_set_10 ?_
    refine lv_iload_n hx hb dX0_set_13 rfl (lv_at hl 1 rfl) ?_
    refine lv_lload_n hx hb dX0_set_14 rfl (lv_at hl 2 rfl) ?_
    refine va_last hx hb hK hP hD hS 1 0 rfl rfl (mr_reg (fun h9 => c2 (ey1.trans h9))) dX0_set_15 (fun H9 locs9 hP hD hS => ?_)
    have hP : va_P (dC, dI) vwCl [(h0, .inr (0, [.ref h_f, .int u, .int o])), (h_f, .inl (cA_f, 8, .inr (.inl (vp_updL f (Int32.toNatClampNeg p1) p2))))] _ := hP
    have hD : va_D A [(h0, .inr (0, [.ref h_f, .int u, .int o])), (h_f, .inl (cA_f, 8, .inr (.inl (vp_updL f (Int32.toNatClampNeg p1) p2))))] := hD
    refine lv_iconst (v := (1 : Int32)) hx hb dX0_set_16 (by decide) ?_
    exact W.zret (v := (1 : Int32)) hx hb hr rfl (fun t ht hW => ⟨⟨_, ((vp_updL f (Int32.toNatClampNeg p1) p2), u, o), rfl, hF.symm, by rw [ht]; exact hP, hD⟩, hS.F ht⟩) hS.2.2 dX0_set_17
  · replace hF := xj_t hF c2
    refine lv_iconst (v := (0 : Int32)) hx hb dX0_set_7 (by decide) ?_
    exact W.zret (v := (0 : Int32)) hx hb hr rfl (fun t ht hW => ⟨⟨_, (f, u, o), rfl, hF.symm, by rw [ht]; exact hP, hD⟩, hS.F ht⟩) hS.2.2 dX0_set_8
def mf_X0_get (f : Nat → Int64) (u : Int32) (o : Int32) (p1 : Int32) : Int64 := (xj_bnd (mf_X0_isRegister p1) (fun y1 => (if y1 = 0 then (0 : Int64) else (f (Int32.toNatClampNeg p1)))))
set_option maxHeartbeats 4000000 in
set_option maxRecDepth 100000 in
theorem mc_X0_get (l : Launch) (dC : Nat → ClassId) (dI : Nat → Nat → Nat) (h0 h_f : Nat) (cA_f : ClassId) (f : Nat → Int64) (u : Int32) (o : Int32) (p1 : Int32) : xj_Ol l (dC, dI) vwCl [(cA_f, .long)] (mw_X0 h0 h_f cA_f) yX0_get wsX0_get ({ frames := 1, cells := 0, slots := 0, locals := 20 }) [.ref h0, .int p1] (f, u, o) (mf_X0_get f u o p1, (f, u, o)) := by
  intro sz
  refine Met.ofW (cc := cX0_get) (maxL := 2) (ret := (some .long)) (by decide) rfl ?_
  intro p e s m args below meth c s₁ B hml hv
  obtain ⟨rfl, hsz, hP, hK, hD0⟩ := hv
  have hx := B.exec
  have hb := B.bytes
  have hr := B.returns
  have hts := atoms_spec (ws := wsX0_get) B.pre
  have hown : s.vm.findClass RX0 = some m.cls := findClass_of_methodNamed B.named
  have hlocks := B.notSynchronized
  subst hsz
  have hD := hD0.self (sz := s.heap.size)
  generalize hAe : va_A (mw_X0 h0 h_f cA_f (f, u, o)) s.heap.size = A at hD ⊢
  have hA : ∀ q : Nat, s.heap.size ≤ q → A q := fun q h => by rw [← hAe]; exact Or.inr h
  have hS : va_S A s.heap s.heap [] := va_S.rf
  have hP : va_P (dC, dI) vwCl [(h0, .inr (0, [.ref h_f, .int u, .int o])), (h_f, .inl (cA_f, 8, .inr (.inl f)))] s.heap := hP
  have hD : va_D A [(h0, .inr (0, [.ref h_f, .int u, .int o])), (h_f, .inl (cA_f, 8, .inr (.inl f)))] := hD
  generalize hT : mf_X0_get f u o p1 = T
  have hF := hT.symm
  unfold mf_X0_get at hF
  have hl := lv_entry ([.ref h0, .int p1]) (n := 2) (Nat.le_of_ble_eq_true rfl)
  rw [lg_entry_eq]
  generalize (lg_sl ([.ref h0, .int p1]) ++ List.replicate (2 - (lg_sl ([.ref h0, .int p1])).length) Slot.unset).toArray = ls at hl ⊢
  have hl : lv_has ls 2 [(0, .ref h0), (1, .int p1)] := hl
  refine lv_iload_n hx hb dX0_get_0 rfl (lv_at hl 1 rfl) ?_
  refine xj_si (As := [.int p1]) (rest := []) ⟨hx, hb, hml, hown, hts⟩ (mc_X0_isRegister l p1) (va_cwS 1 hts gX0_get_X0_isRegister rfl rfl rfl (by decide +kernel) ⟨Nat.le_of_ble_eq_true rfl, Nat.le_of_ble_eq_true rfl⟩) hS hA rfl hl.1 rfl (Nat.le_of_ble_eq_true rfl) dX0_get_1 ⟨Nat.zero_le _, Nat.zero_le _⟩ (fun H9 locs9 hk9 hS => ?_)
  have hP := xj_kept hP hk9
  refine lv_topi (fun y1 ey1 => ?_)
  replace hF := xj_bz hF ey1
  refine lv_if_eq (tgt := 16) hx hb dX0_get_4 (by decide) (fun c2 => ?_) (fun c2 => ?_)
  · replace hF := xj_t hF c2
    refine lv_lconst (v := (0 : Int64)) hx hb dX0_get_16 (by decide) ?_
    exact W.lret (v := (0 : Int64)) hx hb hr (fun t ht hW => ⟨⟨_, (f, u, o), rfl, by rw [hF], by rw [ht]; exact hP, hD⟩, hS.F ht⟩) hS.2.2 dX0_get_17
  · replace hF := xj_f hF c2
    refine lv_aload_n hx hb dX0_get_7 rfl (lv_at hl 0 rfl) ?_
    refine va_get (D := (dC, dI)) (ci := 0) (v := .ref h_f) (C := RX0) (T := TX0) (N := 3) hx hb hts (by decide +kernel) hown hK hP 0 rfl rfl 0 (by decide) (hts (.fieldLink RX0 9 "ExactFloats" "registers" "[J") (by decide +kernel)) (fun _ h9 => h9) rfl dX0_get_8 ?_
    refine lv_iload_n hx hb dX0_get_11 rfl (lv_at hl 1 rfl) ?_
    refine va_lald hx hb hK hP 1 0 rfl rfl (mr_reg (fun h9 => c2 (ey1.trans h9))) dX0_get_12 ?_
    refine lv_goto (tgt := 17) hx hb dX0_get_13 (by decide) ?_
    exact W.lret (v := (f (Int32.toNatClampNeg p1))) hx hb hr (fun t ht hW => ⟨⟨_, (f, u, o), rfl, by rw [hF], by rw [ht]; exact hP, hD⟩, hS.F ht⟩) hS.2.2 dX0_get_17
def mf_X0_under (f : Nat → Int64) (u : Int32) (o : Int32) (p1 : Int32) : (Nat → Int64) × Int32 × Int32 := (f, p1, o)
set_option maxHeartbeats 4000000 in
set_option maxRecDepth 100000 in
theorem mc_X0_under (l : Launch) (dC : Nat → ClassId) (dI : Nat → Nat → Nat) (h0 h_f : Nat) (cA_f : ClassId) (f : Nat → Int64) (u : Int32) (o : Int32) (p1 : Int32) (hb1 : p1 = 0 ∨ p1 = 1) : xj_Ov l (dC, dI) vwCl [(cA_f, .long)] (mw_X0 h0 h_f cA_f) yX0_under wsX0_under ({ frames := 0, cells := 0, slots := 0, locals := 0 }) [.ref h0, .int p1] (f, u, o) (mf_X0_under f u o p1) := by
  intro sz
  refine Met.ofW (cc := cX0_under) (maxL := 2) (ret := none) (by decide) rfl ?_
  intro p e s m args below meth c s₁ B hml hv
  obtain ⟨rfl, hsz, hP, hK, hD0⟩ := hv
  have hx := B.exec
  have hb := B.bytes
  have hr := B.returns
  have hts := atoms_spec (ws := wsX0_under) B.pre
  have hown : s.vm.findClass RX0 = some m.cls := findClass_of_methodNamed B.named
  have hlocks := B.notSynchronized
  subst hsz
  have hD := hD0.self (sz := s.heap.size)
  generalize hAe : va_A (mw_X0 h0 h_f cA_f (f, u, o)) s.heap.size = A at hD ⊢
  have hA : ∀ q : Nat, s.heap.size ≤ q → A q := fun q h => by rw [← hAe]; exact Or.inr h
  have hS : va_S A s.heap s.heap [] := va_S.rf
  have hP : va_P (dC, dI) vwCl [(h0, .inr (0, [.ref h_f, .int u, .int o])), (h_f, .inl (cA_f, 8, .inr (.inl f)))] s.heap := hP
  have hD : va_D A [(h0, .inr (0, [.ref h_f, .int u, .int o])), (h_f, .inl (cA_f, 8, .inr (.inl f)))] := hD
  generalize hT : mf_X0_under f u o p1 = T
  have hF := hT.symm
  unfold mf_X0_under at hF
  have hl := lv_entry ([.ref h0, .int p1]) (n := 2) (Nat.le_of_ble_eq_true rfl)
  rw [lg_entry_eq]
  generalize (lg_sl ([.ref h0, .int p1]) ++ List.replicate (2 - (lg_sl ([.ref h0, .int p1])).length) Slot.unset).toArray = ls at hl ⊢
  have hl : lv_has ls 2 [(0, .ref h0), (1, .int p1)] := hl
  refine lv_aload_n hx hb dX0_under_0 rfl (lv_at hl 0 rfl) ?_
  refine lv_iload_n hx hb dX0_under_1 rfl (lv_at hl 1 rfl) ?_
  refine va_put (D := (dC, dI)) (ci := 0) (v := .int p1) (ty := .boolean) (C := RX0) (T := TX0) (N := 3) hx hb hts (by decide +kernel) tyX0 tyX0_ok nmX0 hown hK hP hD hS 0 rfl rfl 1 (by decide) (hts (.fieldLink RX0 13 "ExactFloats" "underflowAsked" "Z") (by decide +kernel)) (fun _ h9 => h9) rfl (by decide +kernel) (xj_nb (hb1)) (xj_fb (hb1)) (Nat.le_of_ble_eq_true rfl) dX0_under_2 (fun H9 locs9 hP hD hS => ?_)
  have hP : va_P (dC, dI) vwCl [(h0, .inr (0, [.ref h_f, .int p1, .int o])), (h_f, .inl (cA_f, 8, .inr (.inl f)))] _ := hP
  have hD : va_D A [(h0, .inr (0, [.ref h_f, .int p1, .int o])), (h_f, .inl (cA_f, 8, .inr (.inl f)))] := hD
  exact W.vret hx hb hr (fun t ht hW => ⟨⟨(f, p1, o), rfl, hF.symm, by rw [ht]; exact hP, hD⟩, hS.F ht⟩) hS.2.2 dX0_under_5
def mf_X0_sum (f : Nat → Int64) (u : Int32) (o : Int32) (p1 : Int32) (p2 : Int32) (p3 : Int32) (p4 : Int32) : Int32 × (Nat → Int64) × Int32 × Int32 := (xj_bnd (mf_X0_refusalOf f u o p1 p2 p3 p4) (fun y1 => (if y1 = 0 then (xj_bnd (mf_X0_valueIn f u o p1 p3) (fun y3 => (xj_bnd (mf_X0_valueIn f u o p1 p2) (fun y4 => (xj_bnd (mf_X0_storeSum f u o p1 p4 y3 y4) (fun q5 => (q5.1, (q5.2.1, q5.2.2.1, q5.2.2.2)))))))) else (y1, (f, u, o)))))
set_option maxHeartbeats 4000000 in
set_option maxRecDepth 100000 in
theorem mc_X0_sum (l : Launch) (dC : Nat → ClassId) (dI : Nat → Nat → Nat) (h0 h_f : Nat) (cA_f : ClassId) (f : Nat → Int64) (u : Int32) (o : Int32) (p1 : Int32) (p2 : Int32) (p3 : Int32) (p4 : Int32) : xj_Oi l (dC, dI) vwCl [(cA_f, .long)] (mw_X0 h0 h_f cA_f) yX0_sum wsX0_sum ({ frames := 4, cells := 0, slots := 0, locals := 118 }) [.ref h0, .int p1, .int p2, .int p3, .int p4] (f, u, o) (mf_X0_sum f u o p1 p2 p3 p4) := by
  intro sz
  refine Met.ofW (cc := cX0_sum) (maxL := 6) (ret := (some .int)) (by decide) rfl ?_
  intro p e s m args below meth c s₁ B hml hv
  obtain ⟨rfl, hsz, hP, hK, hD0⟩ := hv
  have hx := B.exec
  have hb := B.bytes
  have hr := B.returns
  have hts := atoms_spec (ws := wsX0_sum) B.pre
  have hown : s.vm.findClass RX0 = some m.cls := findClass_of_methodNamed B.named
  have hlocks := B.notSynchronized
  subst hsz
  have hD := hD0.self (sz := s.heap.size)
  generalize hAe : va_A (mw_X0 h0 h_f cA_f (f, u, o)) s.heap.size = A at hD ⊢
  have hA : ∀ q : Nat, s.heap.size ≤ q → A q := fun q h => by rw [← hAe]; exact Or.inr h
  have hS : va_S A s.heap s.heap [] := va_S.rf
  have hP : va_P (dC, dI) vwCl [(h0, .inr (0, [.ref h_f, .int u, .int o])), (h_f, .inl (cA_f, 8, .inr (.inl f)))] s.heap := hP
  have hD : va_D A [(h0, .inr (0, [.ref h_f, .int u, .int o])), (h_f, .inl (cA_f, 8, .inr (.inl f)))] := hD
  generalize hT : mf_X0_sum f u o p1 p2 p3 p4 = T
  have hF := hT.symm
  unfold mf_X0_sum at hF
  have hl := lv_entry ([.ref h0, .int p1, .int p2, .int p3, .int p4]) (n := 6) (Nat.le_of_ble_eq_true rfl)
  rw [lg_entry_eq]
  generalize (lg_sl ([.ref h0, .int p1, .int p2, .int p3, .int p4]) ++ List.replicate (6 - (lg_sl ([.ref h0, .int p1, .int p2, .int p3, .int p4])).length) Slot.unset).toArray = ls at hl ⊢
  have hl : lv_has ls 6 [(0, .ref h0), (1, .int p1), (2, .int p2), (3, .int p3), (4, .int p4)] := hl
  refine lv_aload_n hx hb dX0_sum_0 rfl (lv_at hl 0 rfl) ?_
  refine lv_iload_n hx hb dX0_sum_1 rfl (lv_at hl 1 rfl) ?_
  refine lv_iload_n hx hb dX0_sum_2 rfl (lv_at hl 2 rfl) ?_
  refine lv_iload_n hx hb dX0_sum_3 rfl (lv_at hl 3 rfl) ?_
  refine lv_iload hx hb dX0_sum_4 (lv_at hl 4 rfl) ?_
  refine xj_vi (As := [.int p1, .int p2, .int p3, .int p4]) (rest := []) (Wd := mw_X0 h0 h_f cA_f) (wr := []) ⟨hx, hb, hml, hown, hts⟩ (mc_X0_refusalOf l dC dI h0 h_f cA_f f u o p1 p2 p3 p4) (cwV 4 hts gX0_sum_X0_refusalOf rfl rfl rfl (by decide +kernel) ⟨Nat.le_of_ble_eq_true rfl, Nat.le_of_ble_eq_true rfl⟩) hP hK hD hS hA [0, 1] [] [0] rfl (by decide) rfl (by decide) (by decide) rfl (va_recv hK hP (ci := 0) (q0 := 0) rfl rfl) rfl hl.1 rfl (Nat.le_of_ble_eq_true rfl) dX0_sum_6 ⟨Nat.zero_le _, Nat.zero_le _⟩ (fun H9 locs9 hP hD hS => ?_)
  have hP : va_P (dC, dI) vwCl [(h0, .inr (0, [.ref h_f, .int u, .int o])), (h_f, .inl (cA_f, 8, .inr (.inl f)))] _ := hP
  have hD : va_D A [(h0, .inr (0, [.ref h_f, .int u, .int o])), (h_f, .inl (cA_f, 8, .inr (.inl f)))] := hD
  refine lv_topi (fun y1 ey1 => ?_)
  replace hF := xj_bz hF ey1
  refine lv_istore (lv' := [(5, .int y1), (0, .ref h0), (1, .int p1), (2, .int p2), (3, .int p3), (4, .int p4)]) hx hb dX0_sum_9 hl (by decide) rfl (fun ls hl => ?_)
  refine lv_iload hx hb dX0_sum_11 (lv_at hl 0 rfl) ?_
  refine lv_if_eq (tgt := 21) hx hb dX0_sum_13 (by decide) (fun c2 => ?_) (fun c2 => ?_)
  · replace hF := xj_t hF c2
    refine lv_aload_n hx hb dX0_sum_21 rfl (lv_at hl 1 rfl) ?_
    refine lv_iload_n hx hb dX0_sum_22 rfl (lv_at hl 2 rfl) ?_
    refine lv_iload hx hb dX0_sum_23 (lv_at hl 5 rfl) ?_
    refine lv_aload_n hx hb dX0_sum_25 rfl (lv_at hl 1 rfl) ?_
    refine lv_iload_n hx hb dX0_sum_26 rfl (lv_at hl 2 rfl) ?_
    refine lv_iload_n hx hb dX0_sum_27 rfl (lv_at hl 4 rfl) ?_
    refine xj_vl (As := [.int p1, .int p3]) (rest := [.int p4, .int p1, .ref h0]) (Wd := mw_X0 h0 h_f cA_f) (wr := []) ⟨hx, hb, hml, hown, hts⟩ (mc_X0_valueIn l dC dI h0 h_f cA_f f u o p1 p3 ((mr_ref (ey1.symm.trans c2)).2.1)) (cwV 2 hts gX0_sum_X0_valueIn rfl rfl rfl (by decide +kernel) ⟨Nat.le_of_ble_eq_true rfl, Nat.le_of_ble_eq_true rfl⟩) hP hK hD hS hA [0, 1] [] [0] rfl (by decide) rfl (by decide) (by decide) rfl (va_recv hK hP (ci := 0) (q0 := 0) rfl rfl) rfl hl.1 rfl (Nat.le_of_ble_eq_true rfl) dX0_sum_28 ⟨Nat.zero_le _, Nat.zero_le _⟩ (fun H9 locs9 hP hD hS => ?_)
    have hP : va_P (dC, dI) vwCl [(h0, .inr (0, [.ref h_f, .int u, .int o])), (h_f, .inl (cA_f, 8, .inr (.inl f)))] _ := hP
    have hD : va_D A [(h0, .inr (0, [.ref h_f, .int u, .int o])), (h_f, .inl (cA_f, 8, .inr (.inl f)))] := hD
    refine lv_topl (fun y3 ey3 => ?_)
    replace hF := xj_bz hF ey3
    refine lv_aload_n hx hb dX0_sum_31 rfl (lv_at hl 1 rfl) ?_
    refine lv_iload_n hx hb dX0_sum_32 rfl (lv_at hl 2 rfl) ?_
    refine lv_iload_n hx hb dX0_sum_33 rfl (lv_at hl 3 rfl) ?_
    refine xj_vl (As := [.int p1, .int p2]) (rest := [.long y3, .int p4, .int p1, .ref h0]) (Wd := mw_X0 h0 h_f cA_f) (wr := []) ⟨hx, hb, hml, hown, hts⟩ (mc_X0_valueIn l dC dI h0 h_f cA_f f u o p1 p2 ((mr_ref (ey1.symm.trans c2)).1)) (cwV 2 hts gX0_sum_X0_valueIn rfl rfl rfl (by decide +kernel) ⟨Nat.le_of_ble_eq_true rfl, Nat.le_of_ble_eq_true rfl⟩) hP hK hD hS hA [0, 1] [] [0] rfl (by decide) rfl (by decide) (by decide) rfl (va_recv hK hP (ci := 0) (q0 := 0) rfl rfl) rfl hl.1 rfl (Nat.le_of_ble_eq_true rfl) dX0_sum_34 ⟨Nat.zero_le _, Nat.zero_le _⟩ (fun H9 locs9 hP hD hS => ?_)
    have hP : va_P (dC, dI) vwCl [(h0, .inr (0, [.ref h_f, .int u, .int o])), (h_f, .inl (cA_f, 8, .inr (.inl f)))] _ := hP
    have hD : va_D A [(h0, .inr (0, [.ref h_f, .int u, .int o])), (h_f, .inl (cA_f, 8, .inr (.inl f)))] := hD
    refine lv_topl (fun y4 ey4 => ?_)
    replace hF := xj_bz hF ey4
    obtain ⟨q5, eq5⟩ : ∃ z : Int32 × (Nat → Int64) × Int32 × Int32, z = (mf_X0_storeSum f u o p1 p4 y3 y4) := ⟨_, rfl⟩
    replace hF := xj_bz hF eq5
    refine xj_vi (r := q5) (As := [.int p1, .int p4, .long y3, .long y4]) (rest := []) (Wd := mw_X0 h0 h_f cA_f) (wr := []) ⟨hx, hb, hml, hown, hts⟩ (by rw [eq5]; exact mc_X0_storeSum l dC dI h0 h_f cA_f f u o p1 p4 y3 y4 ((mr_ref (ey1.symm.trans c2)).2.2)) (cwV 4 hts gX0_sum_X0_storeSum rfl rfl rfl (by decide +kernel) ⟨Nat.le_of_ble_eq_true rfl, Nat.le_of_ble_eq_true rfl⟩) hP hK hD hS hA [0, 1] [] [0] rfl (by decide) rfl (by decide) (by decide) rfl (va_recv hK hP (ci := 0) (q0 := 0) rfl rfl) rfl hl.1 rfl (Nat.le_of_ble_eq_true rfl) dX0_sum_37 ⟨Nat.zero_le _, Nat.zero_le _⟩ (fun H9 locs9 hP hD hS => ?_)
    have hP : va_P (dC, dI) vwCl [(h0, .inr (0, [.ref h_f, .int q5.2.2.1, .int q5.2.2.2])), (h_f, .inl (cA_f, 8, .inr (.inl q5.2.1)))] _ := hP
    have hD : va_D A [(h0, .inr (0, [.ref h_f, .int q5.2.2.1, .int q5.2.2.2])), (h_f, .inl (cA_f, 8, .inr (.inl q5.2.1)))] := hD
    exact W.iret (v := q5.1) hx hb hr (fun t ht hW => ⟨⟨_, (q5.2.1, q5.2.2.1, q5.2.2.2), rfl, hF.symm, by rw [ht]; exact hP, hD⟩, hS.F ht⟩) hS.2.2 dX0_sum_40
  · replace hF := xj_f hF c2
    refine lv_iload hx hb dX0_sum_16 (lv_at hl 0 rfl) ?_
    refine lv_goto (tgt := 40) hx hb dX0_sum_18 (by decide) ?_
    exact W.iret (v := y1) hx hb hr (fun t ht hW => ⟨⟨_, (f, u, o), rfl, hF.symm, by rw [ht]; exact hP, hD⟩, hS.F ht⟩) hS.2.2 dX0_sum_40
def mf_X0_less (f : Nat → Int64) (u : Int32) (o : Int32) (p1 : Int32) (p2 : Int32) (p3 : Int32) (p4 : Int32) : Int32 × (Nat → Int64) × Int32 × Int32 := (xj_bnd (mf_X0_refusalOf f u o p1 p2 p3 p4) (fun y1 => (if y1 = 0 then (xj_bnd (mf_X0_valueIn f u o p1 p3) (fun y3 => (xj_bnd (mf_X0_valueIn f u o p1 p2) (fun y4 => (xj_bnd (mf_X0_storeSum f u o p1 p4 y3 (-y4)) (fun q5 => (q5.1, (q5.2.1, q5.2.2.1, q5.2.2.2)))))))) else (y1, (f, u, o)))))
set_option maxHeartbeats 4000000 in
set_option maxRecDepth 100000 in
theorem mc_X0_less (l : Launch) (dC : Nat → ClassId) (dI : Nat → Nat → Nat) (h0 h_f : Nat) (cA_f : ClassId) (f : Nat → Int64) (u : Int32) (o : Int32) (p1 : Int32) (p2 : Int32) (p3 : Int32) (p4 : Int32) : xj_Oi l (dC, dI) vwCl [(cA_f, .long)] (mw_X0 h0 h_f cA_f) yX0_less wsX0_less ({ frames := 4, cells := 0, slots := 0, locals := 118 }) [.ref h0, .int p1, .int p2, .int p3, .int p4] (f, u, o) (mf_X0_less f u o p1 p2 p3 p4) := by
  intro sz
  refine Met.ofW (cc := cX0_less) (maxL := 6) (ret := (some .int)) (by decide) rfl ?_
  intro p e s m args below meth c s₁ B hml hv
  obtain ⟨rfl, hsz, hP, hK, hD0⟩ := hv
  have hx := B.exec
  have hb := B.bytes
  have hr := B.returns
  have hts := atoms_spec (ws := wsX0_less) B.pre
  have hown : s.vm.findClass RX0 = some m.cls := findClass_of_methodNamed B.named
  have hlocks := B.notSynchronized
  subst hsz
  have hD := hD0.self (sz := s.heap.size)
  generalize hAe : va_A (mw_X0 h0 h_f cA_f (f, u, o)) s.heap.size = A at hD ⊢
  have hA : ∀ q : Nat, s.heap.size ≤ q → A q := fun q h => by rw [← hAe]; exact Or.inr h
  have hS : va_S A s.heap s.heap [] := va_S.rf
  have hP : va_P (dC, dI) vwCl [(h0, .inr (0, [.ref h_f, .int u, .int o])), (h_f, .inl (cA_f, 8, .inr (.inl f)))] s.heap := hP
  have hD : va_D A [(h0, .inr (0, [.ref h_f, .int u, .int o])), (h_f, .inl (cA_f, 8, .inr (.inl f)))] := hD
  generalize hT : mf_X0_less f u o p1 p2 p3 p4 = T
  have hF := hT.symm
  unfold mf_X0_less at hF
  have hl := lv_entry ([.ref h0, .int p1, .int p2, .int p3, .int p4]) (n := 6) (Nat.le_of_ble_eq_true rfl)
  rw [lg_entry_eq]
  generalize (lg_sl ([.ref h0, .int p1, .int p2, .int p3, .int p4]) ++ List.replicate (6 - (lg_sl ([.ref h0, .int p1, .int p2, .int p3, .int p4])).length) Slot.unset).toArray = ls at hl ⊢
  have hl : lv_has ls 6 [(0, .ref h0), (1, .int p1), (2, .int p2), (3, .int p3), (4, .int p4)] := hl
  refine lv_aload_n hx hb dX0_less_0 rfl (lv_at hl 0 rfl) ?_
  refine lv_iload_n hx hb dX0_less_1 rfl (lv_at hl 1 rfl) ?_
  refine lv_iload_n hx hb dX0_less_2 rfl (lv_at hl 2 rfl) ?_
  refine lv_iload_n hx hb dX0_less_3 rfl (lv_at hl 3 rfl) ?_
  refine lv_iload hx hb dX0_less_4 (lv_at hl 4 rfl) ?_
  refine xj_vi (As := [.int p1, .int p2, .int p3, .int p4]) (rest := []) (Wd := mw_X0 h0 h_f cA_f) (wr := []) ⟨hx, hb, hml, hown, hts⟩ (mc_X0_refusalOf l dC dI h0 h_f cA_f f u o p1 p2 p3 p4) (cwV 4 hts gX0_less_X0_refusalOf rfl rfl rfl (by decide +kernel) ⟨Nat.le_of_ble_eq_true rfl, Nat.le_of_ble_eq_true rfl⟩) hP hK hD hS hA [0, 1] [] [0] rfl (by decide) rfl (by decide) (by decide) rfl (va_recv hK hP (ci := 0) (q0 := 0) rfl rfl) rfl hl.1 rfl (Nat.le_of_ble_eq_true rfl) dX0_less_6 ⟨Nat.zero_le _, Nat.zero_le _⟩ (fun H9 locs9 hP hD hS => ?_)
  have hP : va_P (dC, dI) vwCl [(h0, .inr (0, [.ref h_f, .int u, .int o])), (h_f, .inl (cA_f, 8, .inr (.inl f)))] _ := hP
  have hD : va_D A [(h0, .inr (0, [.ref h_f, .int u, .int o])), (h_f, .inl (cA_f, 8, .inr (.inl f)))] := hD
  refine lv_topi (fun y1 ey1 => ?_)
  replace hF := xj_bz hF ey1
  refine lv_istore (lv' := [(5, .int y1), (0, .ref h0), (1, .int p1), (2, .int p2), (3, .int p3), (4, .int p4)]) hx hb dX0_less_9 hl (by decide) rfl (fun ls hl => ?_)
  refine lv_iload hx hb dX0_less_11 (lv_at hl 0 rfl) ?_
  refine lv_if_eq (tgt := 21) hx hb dX0_less_13 (by decide) (fun c2 => ?_) (fun c2 => ?_)
  · replace hF := xj_t hF c2
    refine lv_aload_n hx hb dX0_less_21 rfl (lv_at hl 1 rfl) ?_
    refine lv_iload_n hx hb dX0_less_22 rfl (lv_at hl 2 rfl) ?_
    refine lv_iload hx hb dX0_less_23 (lv_at hl 5 rfl) ?_
    refine lv_aload_n hx hb dX0_less_25 rfl (lv_at hl 1 rfl) ?_
    refine lv_iload_n hx hb dX0_less_26 rfl (lv_at hl 2 rfl) ?_
    refine lv_iload_n hx hb dX0_less_27 rfl (lv_at hl 4 rfl) ?_
    refine xj_vl (As := [.int p1, .int p3]) (rest := [.int p4, .int p1, .ref h0]) (Wd := mw_X0 h0 h_f cA_f) (wr := []) ⟨hx, hb, hml, hown, hts⟩ (mc_X0_valueIn l dC dI h0 h_f cA_f f u o p1 p3 ((mr_ref (ey1.symm.trans c2)).2.1)) (cwV 2 hts gX0_less_X0_valueIn rfl rfl rfl (by decide +kernel) ⟨Nat.le_of_ble_eq_true rfl, Nat.le_of_ble_eq_true rfl⟩) hP hK hD hS hA [0, 1] [] [0] rfl (by decide) rfl (by decide) (by decide) rfl (va_recv hK hP (ci := 0) (q0 := 0) rfl rfl) rfl hl.1 rfl (Nat.le_of_ble_eq_true rfl) dX0_less_28 ⟨Nat.zero_le _, Nat.zero_le _⟩ (fun H9 locs9 hP hD hS => ?_)
    have hP : va_P (dC, dI) vwCl [(h0, .inr (0, [.ref h_f, .int u, .int o])), (h_f, .inl (cA_f, 8, .inr (.inl f)))] _ := hP
    have hD : va_D A [(h0, .inr (0, [.ref h_f, .int u, .int o])), (h_f, .inl (cA_f, 8, .inr (.inl f)))] := hD
    refine lv_topl (fun y3 ey3 => ?_)
    replace hF := xj_bz hF ey3
    refine lv_aload_n hx hb dX0_less_31 rfl (lv_at hl 1 rfl) ?_
    refine lv_iload_n hx hb dX0_less_32 rfl (lv_at hl 2 rfl) ?_
    refine lv_iload_n hx hb dX0_less_33 rfl (lv_at hl 3 rfl) ?_
    refine xj_vl (As := [.int p1, .int p2]) (rest := [.long y3, .int p4, .int p1, .ref h0]) (Wd := mw_X0 h0 h_f cA_f) (wr := []) ⟨hx, hb, hml, hown, hts⟩ (mc_X0_valueIn l dC dI h0 h_f cA_f f u o p1 p2 ((mr_ref (ey1.symm.trans c2)).1)) (cwV 2 hts gX0_less_X0_valueIn rfl rfl rfl (by decide +kernel) ⟨Nat.le_of_ble_eq_true rfl, Nat.le_of_ble_eq_true rfl⟩) hP hK hD hS hA [0, 1] [] [0] rfl (by decide) rfl (by decide) (by decide) rfl (va_recv hK hP (ci := 0) (q0 := 0) rfl rfl) rfl hl.1 rfl (Nat.le_of_ble_eq_true rfl) dX0_less_34 ⟨Nat.zero_le _, Nat.zero_le _⟩ (fun H9 locs9 hP hD hS => ?_)
    have hP : va_P (dC, dI) vwCl [(h0, .inr (0, [.ref h_f, .int u, .int o])), (h_f, .inl (cA_f, 8, .inr (.inl f)))] _ := hP
    have hD : va_D A [(h0, .inr (0, [.ref h_f, .int u, .int o])), (h_f, .inl (cA_f, 8, .inr (.inl f)))] := hD
    refine lv_topl (fun y4 ey4 => ?_)
    replace hF := xj_bz hF ey4
    refine lv_lneg hx hb dX0_less_37 ?_
    obtain ⟨q5, eq5⟩ : ∃ z : Int32 × (Nat → Int64) × Int32 × Int32, z = (mf_X0_storeSum f u o p1 p4 y3 (-y4)) := ⟨_, rfl⟩
    replace hF := xj_bz hF eq5
    refine xj_vi (r := q5) (As := [.int p1, .int p4, .long y3, .long (-y4)]) (rest := []) (Wd := mw_X0 h0 h_f cA_f) (wr := []) ⟨hx, hb, hml, hown, hts⟩ (by rw [eq5]; exact mc_X0_storeSum l dC dI h0 h_f cA_f f u o p1 p4 y3 (-y4) ((mr_ref (ey1.symm.trans c2)).2.2)) (cwV 4 hts gX0_less_X0_storeSum rfl rfl rfl (by decide +kernel) ⟨Nat.le_of_ble_eq_true rfl, Nat.le_of_ble_eq_true rfl⟩) hP hK hD hS hA [0, 1] [] [0] rfl (by decide) rfl (by decide) (by decide) rfl (va_recv hK hP (ci := 0) (q0 := 0) rfl rfl) rfl hl.1 rfl (Nat.le_of_ble_eq_true rfl) dX0_less_38 ⟨Nat.zero_le _, Nat.zero_le _⟩ (fun H9 locs9 hP hD hS => ?_)
    have hP : va_P (dC, dI) vwCl [(h0, .inr (0, [.ref h_f, .int q5.2.2.1, .int q5.2.2.2])), (h_f, .inl (cA_f, 8, .inr (.inl q5.2.1)))] _ := hP
    have hD : va_D A [(h0, .inr (0, [.ref h_f, .int q5.2.2.1, .int q5.2.2.2])), (h_f, .inl (cA_f, 8, .inr (.inl q5.2.1)))] := hD
    exact W.iret (v := q5.1) hx hb hr (fun t ht hW => ⟨⟨_, (q5.2.1, q5.2.2.1, q5.2.2.2), rfl, hF.symm, by rw [ht]; exact hP, hD⟩, hS.F ht⟩) hS.2.2 dX0_less_41
  · replace hF := xj_f hF c2
    refine lv_iload hx hb dX0_less_16 (lv_at hl 0 rfl) ?_
    refine lv_goto (tgt := 41) hx hb dX0_less_18 (by decide) ?_
    exact W.iret (v := y1) hx hb hr (fun t ht hW => ⟨⟨_, (f, u, o), rfl, hF.symm, by rw [ht]; exact hP, hD⟩, hS.F ht⟩) hS.2.2 dX0_less_41
def mf_X0_product (f : Nat → Int64) (u : Int32) (o : Int32) (p1 : Int32) (p2 : Int32) (p3 : Int32) (p4 : Int32) : Int32 × (Nat → Int64) × Int32 × Int32 := (xj_bnd (mf_X0_refusalOf f u o p1 p2 p3 p4) (fun y1 => (if y1 = 0 then (xj_bnd (mf_X0_valueIn f u o p1 p2) (fun y3 => (xj_bnd (mf_X0_valueIn f u o p1 p3) (fun y4 => (xj_bnd (mf_X0_storeProduct f u o p1 p4 y3 y4) (fun q5 => (q5.1, (q5.2.1, q5.2.2.1, q5.2.2.2)))))))) else (y1, (f, u, o)))))
set_option maxHeartbeats 4000000 in
set_option maxRecDepth 100000 in
theorem mc_X0_product (l : Launch) (dC : Nat → ClassId) (dI : Nat → Nat → Nat) (h0 h_f : Nat) (cA_f : ClassId) (f : Nat → Int64) (u : Int32) (o : Int32) (p1 : Int32) (p2 : Int32) (p3 : Int32) (p4 : Int32) : xj_Oi l (dC, dI) vwCl [(cA_f, .long)] (mw_X0 h0 h_f cA_f) yX0_product wsX0_product ({ frames := 3, cells := 0, slots := 0, locals := 82 }) [.ref h0, .int p1, .int p2, .int p3, .int p4] (f, u, o) (mf_X0_product f u o p1 p2 p3 p4) := by
  intro sz
  refine Met.ofW (cc := cX0_product) (maxL := 6) (ret := (some .int)) (by decide) rfl ?_
  intro p e s m args below meth c s₁ B hml hv
  obtain ⟨rfl, hsz, hP, hK, hD0⟩ := hv
  have hx := B.exec
  have hb := B.bytes
  have hr := B.returns
  have hts := atoms_spec (ws := wsX0_product) B.pre
  have hown : s.vm.findClass RX0 = some m.cls := findClass_of_methodNamed B.named
  have hlocks := B.notSynchronized
  subst hsz
  have hD := hD0.self (sz := s.heap.size)
  generalize hAe : va_A (mw_X0 h0 h_f cA_f (f, u, o)) s.heap.size = A at hD ⊢
  have hA : ∀ q : Nat, s.heap.size ≤ q → A q := fun q h => by rw [← hAe]; exact Or.inr h
  have hS : va_S A s.heap s.heap [] := va_S.rf
  have hP : va_P (dC, dI) vwCl [(h0, .inr (0, [.ref h_f, .int u, .int o])), (h_f, .inl (cA_f, 8, .inr (.inl f)))] s.heap := hP
  have hD : va_D A [(h0, .inr (0, [.ref h_f, .int u, .int o])), (h_f, .inl (cA_f, 8, .inr (.inl f)))] := hD
  generalize hT : mf_X0_product f u o p1 p2 p3 p4 = T
  have hF := hT.symm
  unfold mf_X0_product at hF
  have hl := lv_entry ([.ref h0, .int p1, .int p2, .int p3, .int p4]) (n := 6) (Nat.le_of_ble_eq_true rfl)
  rw [lg_entry_eq]
  generalize (lg_sl ([.ref h0, .int p1, .int p2, .int p3, .int p4]) ++ List.replicate (6 - (lg_sl ([.ref h0, .int p1, .int p2, .int p3, .int p4])).length) Slot.unset).toArray = ls at hl ⊢
  have hl : lv_has ls 6 [(0, .ref h0), (1, .int p1), (2, .int p2), (3, .int p3), (4, .int p4)] := hl
  refine lv_aload_n hx hb dX0_product_0 rfl (lv_at hl 0 rfl) ?_
  refine lv_iload_n hx hb dX0_product_1 rfl (lv_at hl 1 rfl) ?_
  refine lv_iload_n hx hb dX0_product_2 rfl (lv_at hl 2 rfl) ?_
  refine lv_iload_n hx hb dX0_product_3 rfl (lv_at hl 3 rfl) ?_
  refine lv_iload hx hb dX0_product_4 (lv_at hl 4 rfl) ?_
  refine xj_vi (As := [.int p1, .int p2, .int p3, .int p4]) (rest := []) (Wd := mw_X0 h0 h_f cA_f) (wr := []) ⟨hx, hb, hml, hown, hts⟩ (mc_X0_refusalOf l dC dI h0 h_f cA_f f u o p1 p2 p3 p4) (cwV 4 hts gX0_product_X0_refusalOf rfl rfl rfl (by decide +kernel) ⟨Nat.le_of_ble_eq_true rfl, Nat.le_of_ble_eq_true rfl⟩) hP hK hD hS hA [0, 1] [] [0] rfl (by decide) rfl (by decide) (by decide) rfl (va_recv hK hP (ci := 0) (q0 := 0) rfl rfl) rfl hl.1 rfl (Nat.le_of_ble_eq_true rfl) dX0_product_6 ⟨Nat.zero_le _, Nat.zero_le _⟩ (fun H9 locs9 hP hD hS => ?_)
  have hP : va_P (dC, dI) vwCl [(h0, .inr (0, [.ref h_f, .int u, .int o])), (h_f, .inl (cA_f, 8, .inr (.inl f)))] _ := hP
  have hD : va_D A [(h0, .inr (0, [.ref h_f, .int u, .int o])), (h_f, .inl (cA_f, 8, .inr (.inl f)))] := hD
  refine lv_topi (fun y1 ey1 => ?_)
  replace hF := xj_bz hF ey1
  refine lv_istore (lv' := [(5, .int y1), (0, .ref h0), (1, .int p1), (2, .int p2), (3, .int p3), (4, .int p4)]) hx hb dX0_product_9 hl (by decide) rfl (fun ls hl => ?_)
  refine lv_iload hx hb dX0_product_11 (lv_at hl 0 rfl) ?_
  refine lv_if_eq (tgt := 21) hx hb dX0_product_13 (by decide) (fun c2 => ?_) (fun c2 => ?_)
  · replace hF := xj_t hF c2
    refine lv_aload_n hx hb dX0_product_21 rfl (lv_at hl 1 rfl) ?_
    refine lv_iload_n hx hb dX0_product_22 rfl (lv_at hl 2 rfl) ?_
    refine lv_iload hx hb dX0_product_23 (lv_at hl 5 rfl) ?_
    refine lv_aload_n hx hb dX0_product_25 rfl (lv_at hl 1 rfl) ?_
    refine lv_iload_n hx hb dX0_product_26 rfl (lv_at hl 2 rfl) ?_
    refine lv_iload_n hx hb dX0_product_27 rfl (lv_at hl 3 rfl) ?_
    refine xj_vl (As := [.int p1, .int p2]) (rest := [.int p4, .int p1, .ref h0]) (Wd := mw_X0 h0 h_f cA_f) (wr := []) ⟨hx, hb, hml, hown, hts⟩ (mc_X0_valueIn l dC dI h0 h_f cA_f f u o p1 p2 ((mr_ref (ey1.symm.trans c2)).1)) (cwV 2 hts gX0_product_X0_valueIn rfl rfl rfl (by decide +kernel) ⟨Nat.le_of_ble_eq_true rfl, Nat.le_of_ble_eq_true rfl⟩) hP hK hD hS hA [0, 1] [] [0] rfl (by decide) rfl (by decide) (by decide) rfl (va_recv hK hP (ci := 0) (q0 := 0) rfl rfl) rfl hl.1 rfl (Nat.le_of_ble_eq_true rfl) dX0_product_28 ⟨Nat.zero_le _, Nat.zero_le _⟩ (fun H9 locs9 hP hD hS => ?_)
    have hP : va_P (dC, dI) vwCl [(h0, .inr (0, [.ref h_f, .int u, .int o])), (h_f, .inl (cA_f, 8, .inr (.inl f)))] _ := hP
    have hD : va_D A [(h0, .inr (0, [.ref h_f, .int u, .int o])), (h_f, .inl (cA_f, 8, .inr (.inl f)))] := hD
    refine lv_topl (fun y3 ey3 => ?_)
    replace hF := xj_bz hF ey3
    refine lv_aload_n hx hb dX0_product_31 rfl (lv_at hl 1 rfl) ?_
    refine lv_iload_n hx hb dX0_product_32 rfl (lv_at hl 2 rfl) ?_
    refine lv_iload_n hx hb dX0_product_33 rfl (lv_at hl 4 rfl) ?_
    refine xj_vl (As := [.int p1, .int p3]) (rest := [.long y3, .int p4, .int p1, .ref h0]) (Wd := mw_X0 h0 h_f cA_f) (wr := []) ⟨hx, hb, hml, hown, hts⟩ (mc_X0_valueIn l dC dI h0 h_f cA_f f u o p1 p3 ((mr_ref (ey1.symm.trans c2)).2.1)) (cwV 2 hts gX0_product_X0_valueIn rfl rfl rfl (by decide +kernel) ⟨Nat.le_of_ble_eq_true rfl, Nat.le_of_ble_eq_true rfl⟩) hP hK hD hS hA [0, 1] [] [0] rfl (by decide) rfl (by decide) (by decide) rfl (va_recv hK hP (ci := 0) (q0 := 0) rfl rfl) rfl hl.1 rfl (Nat.le_of_ble_eq_true rfl) dX0_product_34 ⟨Nat.zero_le _, Nat.zero_le _⟩ (fun H9 locs9 hP hD hS => ?_)
    have hP : va_P (dC, dI) vwCl [(h0, .inr (0, [.ref h_f, .int u, .int o])), (h_f, .inl (cA_f, 8, .inr (.inl f)))] _ := hP
    have hD : va_D A [(h0, .inr (0, [.ref h_f, .int u, .int o])), (h_f, .inl (cA_f, 8, .inr (.inl f)))] := hD
    refine lv_topl (fun y4 ey4 => ?_)
    replace hF := xj_bz hF ey4
    obtain ⟨q5, eq5⟩ : ∃ z : Int32 × (Nat → Int64) × Int32 × Int32, z = (mf_X0_storeProduct f u o p1 p4 y3 y4) := ⟨_, rfl⟩
    replace hF := xj_bz hF eq5
    refine xj_vi (r := q5) (As := [.int p1, .int p4, .long y3, .long y4]) (rest := []) (Wd := mw_X0 h0 h_f cA_f) (wr := []) ⟨hx, hb, hml, hown, hts⟩ (by rw [eq5]; exact mc_X0_storeProduct l dC dI h0 h_f cA_f f u o p1 p4 y3 y4 ((mr_ref (ey1.symm.trans c2)).2.2)) (cwV 4 hts gX0_product_X0_storeProduct rfl rfl rfl (by decide +kernel) ⟨Nat.le_of_ble_eq_true rfl, Nat.le_of_ble_eq_true rfl⟩) hP hK hD hS hA [0, 1] [] [0] rfl (by decide) rfl (by decide) (by decide) rfl (va_recv hK hP (ci := 0) (q0 := 0) rfl rfl) rfl hl.1 rfl (Nat.le_of_ble_eq_true rfl) dX0_product_37 ⟨Nat.zero_le _, Nat.zero_le _⟩ (fun H9 locs9 hP hD hS => ?_)
    have hP : va_P (dC, dI) vwCl [(h0, .inr (0, [.ref h_f, .int q5.2.2.1, .int q5.2.2.2])), (h_f, .inl (cA_f, 8, .inr (.inl q5.2.1)))] _ := hP
    have hD : va_D A [(h0, .inr (0, [.ref h_f, .int q5.2.2.1, .int q5.2.2.2])), (h_f, .inl (cA_f, 8, .inr (.inl q5.2.1)))] := hD
    exact W.iret (v := q5.1) hx hb hr (fun t ht hW => ⟨⟨_, (q5.2.1, q5.2.2.1, q5.2.2.2), rfl, hF.symm, by rw [ht]; exact hP, hD⟩, hS.F ht⟩) hS.2.2 dX0_product_40
  · replace hF := xj_f hF c2
    refine lv_iload hx hb dX0_product_16 (lv_at hl 0 rfl) ?_
    refine lv_goto (tgt := 40) hx hb dX0_product_18 (by decide) ?_
    exact W.iret (v := y1) hx hb hr (fun t ht hW => ⟨⟨_, (f, u, o), rfl, hF.symm, by rw [ht]; exact hP, hD⟩, hS.F ht⟩) hS.2.2 dX0_product_40
def mf_X0_quotient (f : Nat → Int64) (u : Int32) (o : Int32) (p1 : Int32) (p2 : Int32) (p3 : Int32) (p4 : Int32) : Int32 × (Nat → Int64) × Int32 × Int32 := (xj_bnd (mf_X0_refusalOf f u o p1 p2 p3 p4) (fun y1 => (if y1 = 0 then (xj_bnd (mf_X0_valueIn f u o p1 p2) (fun y3 => (if y3 = (0 : Int64) then ((-4 : Int32), (f, u, o)) else (xj_bnd (mf_X0_valueIn f u o p1 p3) (fun y5 => (xj_bnd (mf_X0_storeQuotient f u o p1 p4 y5 y3) (fun q6 => (q6.1, (q6.2.1, q6.2.2.1, q6.2.2.2))))))))) else (y1, (f, u, o)))))
set_option maxHeartbeats 4000000 in
set_option maxRecDepth 100000 in
theorem mc_X0_quotient (l : Launch) (dC : Nat → ClassId) (dI : Nat → Nat → Nat) (h0 h_f : Nat) (cA_f : ClassId) (f : Nat → Int64) (u : Int32) (o : Int32) (p1 : Int32) (p2 : Int32) (p3 : Int32) (p4 : Int32) : xj_Oi l (dC, dI) vwCl [(cA_f, .long)] (mw_X0 h0 h_f cA_f) yX0_quotient wsX0_quotient ({ frames := 3, cells := 0, slots := 0, locals := 83 }) [.ref h0, .int p1, .int p2, .int p3, .int p4] (f, u, o) (mf_X0_quotient f u o p1 p2 p3 p4) := by
  intro sz
  refine Met.ofW (cc := cX0_quotient) (maxL := 8) (ret := (some .int)) (by decide) rfl ?_
  intro p e s m args below meth c s₁ B hml hv
  obtain ⟨rfl, hsz, hP, hK, hD0⟩ := hv
  have hx := B.exec
  have hb := B.bytes
  have hr := B.returns
  have hts := atoms_spec (ws := wsX0_quotient) B.pre
  have hown : s.vm.findClass RX0 = some m.cls := findClass_of_methodNamed B.named
  have hlocks := B.notSynchronized
  subst hsz
  have hD := hD0.self (sz := s.heap.size)
  generalize hAe : va_A (mw_X0 h0 h_f cA_f (f, u, o)) s.heap.size = A at hD ⊢
  have hA : ∀ q : Nat, s.heap.size ≤ q → A q := fun q h => by rw [← hAe]; exact Or.inr h
  have hS : va_S A s.heap s.heap [] := va_S.rf
  have hP : va_P (dC, dI) vwCl [(h0, .inr (0, [.ref h_f, .int u, .int o])), (h_f, .inl (cA_f, 8, .inr (.inl f)))] s.heap := hP
  have hD : va_D A [(h0, .inr (0, [.ref h_f, .int u, .int o])), (h_f, .inl (cA_f, 8, .inr (.inl f)))] := hD
  generalize hT : mf_X0_quotient f u o p1 p2 p3 p4 = T
  have hF := hT.symm
  unfold mf_X0_quotient at hF
  have hl := lv_entry ([.ref h0, .int p1, .int p2, .int p3, .int p4]) (n := 8) (Nat.le_of_ble_eq_true rfl)
  rw [lg_entry_eq]
  generalize (lg_sl ([.ref h0, .int p1, .int p2, .int p3, .int p4]) ++ List.replicate (8 - (lg_sl ([.ref h0, .int p1, .int p2, .int p3, .int p4])).length) Slot.unset).toArray = ls at hl ⊢
  have hl : lv_has ls 8 [(0, .ref h0), (1, .int p1), (2, .int p2), (3, .int p3), (4, .int p4)] := hl
  refine lv_aload_n hx hb dX0_quotient_0 rfl (lv_at hl 0 rfl) ?_
  refine lv_iload_n hx hb dX0_quotient_1 rfl (lv_at hl 1 rfl) ?_
  refine lv_iload_n hx hb dX0_quotient_2 rfl (lv_at hl 2 rfl) ?_
  refine lv_iload_n hx hb dX0_quotient_3 rfl (lv_at hl 3 rfl) ?_
  refine lv_iload hx hb dX0_quotient_4 (lv_at hl 4 rfl) ?_
  refine xj_vi (As := [.int p1, .int p2, .int p3, .int p4]) (rest := []) (Wd := mw_X0 h0 h_f cA_f) (wr := []) ⟨hx, hb, hml, hown, hts⟩ (mc_X0_refusalOf l dC dI h0 h_f cA_f f u o p1 p2 p3 p4) (cwV 4 hts gX0_quotient_X0_refusalOf rfl rfl rfl (by decide +kernel) ⟨Nat.le_of_ble_eq_true rfl, Nat.le_of_ble_eq_true rfl⟩) hP hK hD hS hA [0, 1] [] [0] rfl (by decide) rfl (by decide) (by decide) rfl (va_recv hK hP (ci := 0) (q0 := 0) rfl rfl) rfl hl.1 rfl (Nat.le_of_ble_eq_true rfl) dX0_quotient_6 ⟨Nat.zero_le _, Nat.zero_le _⟩ (fun H9 locs9 hP hD hS => ?_)
  have hP : va_P (dC, dI) vwCl [(h0, .inr (0, [.ref h_f, .int u, .int o])), (h_f, .inl (cA_f, 8, .inr (.inl f)))] _ := hP
  have hD : va_D A [(h0, .inr (0, [.ref h_f, .int u, .int o])), (h_f, .inl (cA_f, 8, .inr (.inl f)))] := hD
  refine lv_topi (fun y1 ey1 => ?_)
  replace hF := xj_bz hF ey1
  refine lv_istore (lv' := [(5, .int y1), (0, .ref h0), (1, .int p1), (2, .int p2), (3, .int p3), (4, .int p4)]) hx hb dX0_quotient_9 hl (by decide) rfl (fun ls hl => ?_)
  refine lv_iload hx hb dX0_quotient_11 (lv_at hl 0 rfl) ?_
  refine lv_if_eq (tgt := 19) hx hb dX0_quotient_13 (by decide) (fun c2 => ?_) (fun c2 => ?_)
  · replace hF := xj_t hF c2
    refine lv_aload_n hx hb dX0_quotient_19 rfl (lv_at hl 1 rfl) ?_
    refine lv_iload_n hx hb dX0_quotient_20 rfl (lv_at hl 2 rfl) ?_
    refine lv_iload_n hx hb dX0_quotient_21 rfl (lv_at hl 3 rfl) ?_
    refine xj_vl (As := [.int p1, .int p2]) (rest := []) (Wd := mw_X0 h0 h_f cA_f) (wr := []) ⟨hx, hb, hml, hown, hts⟩ (mc_X0_valueIn l dC dI h0 h_f cA_f f u o p1 p2 ((mr_ref (ey1.symm.trans c2)).1)) (cwV 2 hts gX0_quotient_X0_valueIn rfl rfl rfl (by decide +kernel) ⟨Nat.le_of_ble_eq_true rfl, Nat.le_of_ble_eq_true rfl⟩) hP hK hD hS hA [0, 1] [] [0] rfl (by decide) rfl (by decide) (by decide) rfl (va_recv hK hP (ci := 0) (q0 := 0) rfl rfl) rfl hl.1 rfl (Nat.le_of_ble_eq_true rfl) dX0_quotient_22 ⟨Nat.zero_le _, Nat.zero_le _⟩ (fun H9 locs9 hP hD hS => ?_)
    have hP : va_P (dC, dI) vwCl [(h0, .inr (0, [.ref h_f, .int u, .int o])), (h_f, .inl (cA_f, 8, .inr (.inl f)))] _ := hP
    have hD : va_D A [(h0, .inr (0, [.ref h_f, .int u, .int o])), (h_f, .inl (cA_f, 8, .inr (.inl f)))] := hD
    refine lv_topl (fun y3 ey3 => ?_)
    replace hF := xj_bz hF ey3
    refine lv_lstore (lv' := [(6, .long y3), (5, .int y1), (0, .ref h0), (1, .int p1), (2, .int p2), (3, .int p3), (4, .int p4)]) hx hb dX0_quotient_25 hl (by decide) rfl (fun ls hl => ?_)
    refine lv_lload hx hb dX0_quotient_27 (lv_at hl 0 rfl) ?_
    refine lv_lconst (v := (0 : Int64)) hx hb dX0_quotient_29 (by decide) ?_
    refine xj_l_ne (tgt := 39) hx hb dX0_quotient_30 dX0_quotient_31 (by decide) (fun c4 => ?_) (fun c4 => ?_)
    · replace hF := xj_f hF c4
      refine lv_aload_n hx hb dX0_quotient_39 rfl (lv_at hl 2 rfl) ?_
      refine lv_iload_n hx hb dX0_quotient_40 rfl (lv_at hl 3 rfl) ?_
      refine lv_iload hx hb dX0_quotient_41 (lv_at hl 6 rfl) ?_
      refine lv_aload_n hx hb dX0_quotient_43 rfl (lv_at hl 2 rfl) ?_
      refine lv_iload_n hx hb dX0_quotient_44 rfl (lv_at hl 3 rfl) ?_
      refine lv_iload_n hx hb dX0_quotient_45 rfl (lv_at hl 5 rfl) ?_
      refine xj_vl (As := [.int p1, .int p3]) (rest := [.int p4, .int p1, .ref h0]) (Wd := mw_X0 h0 h_f cA_f) (wr := []) ⟨hx, hb, hml, hown, hts⟩ (mc_X0_valueIn l dC dI h0 h_f cA_f f u o p1 p3 ((mr_ref (ey1.symm.trans c2)).2.1)) (cwV 2 hts gX0_quotient_X0_valueIn rfl rfl rfl (by decide +kernel) ⟨Nat.le_of_ble_eq_true rfl, Nat.le_of_ble_eq_true rfl⟩) hP hK hD hS hA [0, 1] [] [0] rfl (by decide) rfl (by decide) (by decide) rfl (va_recv hK hP (ci := 0) (q0 := 0) rfl rfl) rfl hl.1 rfl (Nat.le_of_ble_eq_true rfl) dX0_quotient_46 ⟨Nat.zero_le _, Nat.zero_le _⟩ (fun H9 locs9 hP hD hS => ?_)
      have hP : va_P (dC, dI) vwCl [(h0, .inr (0, [.ref h_f, .int u, .int o])), (h_f, .inl (cA_f, 8, .inr (.inl f)))] _ := hP
      have hD : va_D A [(h0, .inr (0, [.ref h_f, .int u, .int o])), (h_f, .inl (cA_f, 8, .inr (.inl f)))] := hD
      refine lv_topl (fun y5 ey5 => ?_)
      replace hF := xj_bz hF ey5
      refine lv_lload hx hb dX0_quotient_49 (lv_at hl 0 rfl) ?_
      obtain ⟨q6, eq6⟩ : ∃ z : Int32 × (Nat → Int64) × Int32 × Int32, z = (mf_X0_storeQuotient f u o p1 p4 y5 y3) := ⟨_, rfl⟩
      replace hF := xj_bz hF eq6
      refine xj_vi (r := q6) (As := [.int p1, .int p4, .long y5, .long y3]) (rest := []) (Wd := mw_X0 h0 h_f cA_f) (wr := []) ⟨hx, hb, hml, hown, hts⟩ (by rw [eq6]; exact mc_X0_storeQuotient l dC dI h0 h_f cA_f f u o p1 p4 y5 y3 ((mr_ref (ey1.symm.trans c2)).2.2)) (cwV 4 hts gX0_quotient_X0_storeQuotient rfl rfl rfl (by decide +kernel) ⟨Nat.le_of_ble_eq_true rfl, Nat.le_of_ble_eq_true rfl⟩) hP hK hD hS hA [0, 1] [] [0] rfl (by decide) rfl (by decide) (by decide) rfl (va_recv hK hP (ci := 0) (q0 := 0) rfl rfl) rfl hl.1 rfl (Nat.le_of_ble_eq_true rfl) dX0_quotient_51 ⟨Nat.zero_le _, Nat.zero_le _⟩ (fun H9 locs9 hP hD hS => ?_)
      have hP : va_P (dC, dI) vwCl [(h0, .inr (0, [.ref h_f, .int q6.2.2.1, .int q6.2.2.2])), (h_f, .inl (cA_f, 8, .inr (.inl q6.2.1)))] _ := hP
      have hD : va_D A [(h0, .inr (0, [.ref h_f, .int q6.2.2.1, .int q6.2.2.2])), (h_f, .inl (cA_f, 8, .inr (.inl q6.2.1)))] := hD
      exact W.iret (v := q6.1) hx hb hr (fun t ht hW => ⟨⟨_, (q6.2.1, q6.2.2.1, q6.2.2.2), rfl, hF.symm, by rw [ht]; exact hP, hD⟩, hS.F ht⟩) hS.2.2 dX0_quotient_54
    · replace hF := xj_t hF c4
      refine lv_bipush (v := (-4 : Int32)) hx hb dX0_quotient_34 (by decide) ?_
      refine lv_goto (tgt := 54) hx hb dX0_quotient_36 (by decide) ?_
      exact W.iret (v := (-4 : Int32)) hx hb hr (fun t ht hW => ⟨⟨_, (f, u, o), rfl, hF.symm, by rw [ht]; exact hP, hD⟩, hS.F ht⟩) hS.2.2 dX0_quotient_54
  · replace hF := xj_f hF c2
    refine lv_iload hx hb dX0_quotient_16 (lv_at hl 0 rfl) ?_
    exact W.iret (v := y1) hx hb hr (fun t ht hW => ⟨⟨_, (f, u, o), rfl, hF.symm, by rw [ht]; exact hP, hD⟩, hS.F ht⟩) hS.2.2 dX0_quotient_18
def mf_X0_negative (f : Nat → Int64) (u : Int32) (o : Int32) (p1 : Int32) (p2 : Int32) (p3 : Int32) : Int32 × (Nat → Int64) × Int32 × Int32 := (xj_bnd (mf_X0_refusalOf f u o p1 p2 p2 p3) (fun y1 => (if y1 = 0 then (xj_bnd (mf_X0_valueIn f u o p1 p2) (fun y3 => (xj_bnd (mf_X0_storeValue f u o p1 p3 (-y3)) (fun q4 => (q4.1, (q4.2.1, q4.2.2.1, q4.2.2.2)))))) else (y1, (f, u, o)))))
set_option maxHeartbeats 4000000 in
set_option maxRecDepth 100000 in
theorem mc_X0_negative (l : Launch) (dC : Nat → ClassId) (dI : Nat → Nat → Nat) (h0 h_f : Nat) (cA_f : ClassId) (f : Nat → Int64) (u : Int32) (o : Int32) (p1 : Int32) (p2 : Int32) (p3 : Int32) : xj_Oi l (dC, dI) vwCl [(cA_f, .long)] (mw_X0 h0 h_f cA_f) yX0_negative wsX0_negative ({ frames := 3, cells := 0, slots := 0, locals := 78 }) [.ref h0, .int p1, .int p2, .int p3] (f, u, o) (mf_X0_negative f u o p1 p2 p3) := by
  intro sz
  refine Met.ofW (cc := cX0_negative) (maxL := 5) (ret := (some .int)) (by decide) rfl ?_
  intro p e s m args below meth c s₁ B hml hv
  obtain ⟨rfl, hsz, hP, hK, hD0⟩ := hv
  have hx := B.exec
  have hb := B.bytes
  have hr := B.returns
  have hts := atoms_spec (ws := wsX0_negative) B.pre
  have hown : s.vm.findClass RX0 = some m.cls := findClass_of_methodNamed B.named
  have hlocks := B.notSynchronized
  subst hsz
  have hD := hD0.self (sz := s.heap.size)
  generalize hAe : va_A (mw_X0 h0 h_f cA_f (f, u, o)) s.heap.size = A at hD ⊢
  have hA : ∀ q : Nat, s.heap.size ≤ q → A q := fun q h => by rw [← hAe]; exact Or.inr h
  have hS : va_S A s.heap s.heap [] := va_S.rf
  have hP : va_P (dC, dI) vwCl [(h0, .inr (0, [.ref h_f, .int u, .int o])), (h_f, .inl (cA_f, 8, .inr (.inl f)))] s.heap := hP
  have hD : va_D A [(h0, .inr (0, [.ref h_f, .int u, .int o])), (h_f, .inl (cA_f, 8, .inr (.inl f)))] := hD
  generalize hT : mf_X0_negative f u o p1 p2 p3 = T
  have hF := hT.symm
  unfold mf_X0_negative at hF
  have hl := lv_entry ([.ref h0, .int p1, .int p2, .int p3]) (n := 5) (Nat.le_of_ble_eq_true rfl)
  rw [lg_entry_eq]
  generalize (lg_sl ([.ref h0, .int p1, .int p2, .int p3]) ++ List.replicate (5 - (lg_sl ([.ref h0, .int p1, .int p2, .int p3])).length) Slot.unset).toArray = ls at hl ⊢
  have hl : lv_has ls 5 [(0, .ref h0), (1, .int p1), (2, .int p2), (3, .int p3)] := hl
  refine lv_aload_n hx hb dX0_negative_0 rfl (lv_at hl 0 rfl) ?_
  refine lv_iload_n hx hb dX0_negative_1 rfl (lv_at hl 1 rfl) ?_
  refine lv_iload_n hx hb dX0_negative_2 rfl (lv_at hl 2 rfl) ?_
  refine lv_iload_n hx hb dX0_negative_3 rfl (lv_at hl 2 rfl) ?_
  refine lv_iload_n hx hb dX0_negative_4 rfl (lv_at hl 3 rfl) ?_
  refine xj_vi (As := [.int p1, .int p2, .int p2, .int p3]) (rest := []) (Wd := mw_X0 h0 h_f cA_f) (wr := []) ⟨hx, hb, hml, hown, hts⟩ (mc_X0_refusalOf l dC dI h0 h_f cA_f f u o p1 p2 p2 p3) (cwV 4 hts gX0_negative_X0_refusalOf rfl rfl rfl (by decide +kernel) ⟨Nat.le_of_ble_eq_true rfl, Nat.le_of_ble_eq_true rfl⟩) hP hK hD hS hA [0, 1] [] [0] rfl (by decide) rfl (by decide) (by decide) rfl (va_recv hK hP (ci := 0) (q0 := 0) rfl rfl) rfl hl.1 rfl (Nat.le_of_ble_eq_true rfl) dX0_negative_5 ⟨Nat.zero_le _, Nat.zero_le _⟩ (fun H9 locs9 hP hD hS => ?_)
  have hP : va_P (dC, dI) vwCl [(h0, .inr (0, [.ref h_f, .int u, .int o])), (h_f, .inl (cA_f, 8, .inr (.inl f)))] _ := hP
  have hD : va_D A [(h0, .inr (0, [.ref h_f, .int u, .int o])), (h_f, .inl (cA_f, 8, .inr (.inl f)))] := hD
  refine lv_topi (fun y1 ey1 => ?_)
  replace hF := xj_bz hF ey1
  refine lv_istore (lv' := [(4, .int y1), (0, .ref h0), (1, .int p1), (2, .int p2), (3, .int p3)]) hx hb dX0_negative_8 hl (by decide) rfl (fun ls hl => ?_)
  refine lv_iload hx hb dX0_negative_10 (lv_at hl 0 rfl) ?_
  refine lv_if_eq (tgt := 20) hx hb dX0_negative_12 (by decide) (fun c2 => ?_) (fun c2 => ?_)
  · replace hF := xj_t hF c2
    refine lv_aload_n hx hb dX0_negative_20 rfl (lv_at hl 1 rfl) ?_
    refine lv_iload_n hx hb dX0_negative_21 rfl (lv_at hl 2 rfl) ?_
    refine lv_iload_n hx hb dX0_negative_22 rfl (lv_at hl 4 rfl) ?_
    refine lv_aload_n hx hb dX0_negative_23 rfl (lv_at hl 1 rfl) ?_
    refine lv_iload_n hx hb dX0_negative_24 rfl (lv_at hl 2 rfl) ?_
    refine lv_iload_n hx hb dX0_negative_25 rfl (lv_at hl 3 rfl) ?_
    refine xj_vl (As := [.int p1, .int p2]) (rest := [.int p3, .int p1, .ref h0]) (Wd := mw_X0 h0 h_f cA_f) (wr := []) ⟨hx, hb, hml, hown, hts⟩ (mc_X0_valueIn l dC dI h0 h_f cA_f f u o p1 p2 ((mr_ref (ey1.symm.trans c2)).1)) (cwV 2 hts gX0_negative_X0_valueIn rfl rfl rfl (by decide +kernel) ⟨Nat.le_of_ble_eq_true rfl, Nat.le_of_ble_eq_true rfl⟩) hP hK hD hS hA [0, 1] [] [0] rfl (by decide) rfl (by decide) (by decide) rfl (va_recv hK hP (ci := 0) (q0 := 0) rfl rfl) rfl hl.1 rfl (Nat.le_of_ble_eq_true rfl) dX0_negative_26 ⟨Nat.zero_le _, Nat.zero_le _⟩ (fun H9 locs9 hP hD hS => ?_)
    have hP : va_P (dC, dI) vwCl [(h0, .inr (0, [.ref h_f, .int u, .int o])), (h_f, .inl (cA_f, 8, .inr (.inl f)))] _ := hP
    have hD : va_D A [(h0, .inr (0, [.ref h_f, .int u, .int o])), (h_f, .inl (cA_f, 8, .inr (.inl f)))] := hD
    refine lv_topl (fun y3 ey3 => ?_)
    replace hF := xj_bz hF ey3
    refine lv_lneg hx hb dX0_negative_29 ?_
    obtain ⟨q4, eq4⟩ : ∃ z : Int32 × (Nat → Int64) × Int32 × Int32, z = (mf_X0_storeValue f u o p1 p3 (-y3)) := ⟨_, rfl⟩
    replace hF := xj_bz hF eq4
    refine xj_vi (r := q4) (As := [.int p1, .int p3, .long (-y3)]) (rest := []) (Wd := mw_X0 h0 h_f cA_f) (wr := []) ⟨hx, hb, hml, hown, hts⟩ (by rw [eq4]; exact mc_X0_storeValue l dC dI h0 h_f cA_f f u o p1 p3 (-y3) ((mr_ref (ey1.symm.trans c2)).2.2)) (cwV 3 hts gX0_negative_X0_storeValue rfl rfl rfl (by decide +kernel) ⟨Nat.le_of_ble_eq_true rfl, Nat.le_of_ble_eq_true rfl⟩) hP hK hD hS hA [0, 1] [] [0] rfl (by decide) rfl (by decide) (by decide) rfl (va_recv hK hP (ci := 0) (q0 := 0) rfl rfl) rfl hl.1 rfl (Nat.le_of_ble_eq_true rfl) dX0_negative_30 ⟨Nat.zero_le _, Nat.zero_le _⟩ (fun H9 locs9 hP hD hS => ?_)
    have hP : va_P (dC, dI) vwCl [(h0, .inr (0, [.ref h_f, .int q4.2.2.1, .int q4.2.2.2])), (h_f, .inl (cA_f, 8, .inr (.inl q4.2.1)))] _ := hP
    have hD : va_D A [(h0, .inr (0, [.ref h_f, .int q4.2.2.1, .int q4.2.2.2])), (h_f, .inl (cA_f, 8, .inr (.inl q4.2.1)))] := hD
    exact W.iret (v := q4.1) hx hb hr (fun t ht hW => ⟨⟨_, (q4.2.1, q4.2.2.1, q4.2.2.2), rfl, hF.symm, by rw [ht]; exact hP, hD⟩, hS.F ht⟩) hS.2.2 dX0_negative_33
  · replace hF := xj_f hF c2
    refine lv_iload hx hb dX0_negative_15 (lv_at hl 0 rfl) ?_
    refine lv_goto (tgt := 33) hx hb dX0_negative_17 (by decide) ?_
    exact W.iret (v := y1) hx hb hr (fun t ht hW => ⟨⟨_, (f, u, o), rfl, hF.symm, by rw [ht]; exact hP, hD⟩, hS.F ht⟩) hS.2.2 dX0_negative_33
def mf_X0_compare (f : Nat → Int64) (u : Int32) (o : Int32) (p1 : Int32) (p2 : Int32) (p3 : Int32) : Int32 := (xj_bnd (mf_X0_refusalOf f u o p1 p2 p3 p2) (fun y1 => (if y1 = 0 then (xj_bnd (mf_X0_valueIn f u o p1 p2) (fun y3 => (xj_bnd (mf_X0_valueIn f u o p1 p3) (fun y4 => (xj_bnd (mf_J13_compare_74951 y3 y4) (fun y5 => (xj_bnd (mf_X0_flagsOf (Int32.toInt64 y5)) (fun y6 => y6)))))))) else y1)))
set_option maxHeartbeats 4000000 in
set_option maxRecDepth 100000 in
theorem mc_X0_compare (l : Launch) (dC : Nat → ClassId) (dI : Nat → Nat → Nat) (h0 h_f : Nat) (cA_f : ClassId) (f : Nat → Int64) (u : Int32) (o : Int32) (p1 : Int32) (p2 : Int32) (p3 : Int32) : xj_Oi l (dC, dI) vwCl [(cA_f, .long)] (mw_X0 h0 h_f cA_f) yX0_compare wsX0_compare ({ frames := 2, cells := 0, slots := 0, locals := 45 }) [.ref h0, .int p1, .int p2, .int p3] (f, u, o) (mf_X0_compare f u o p1 p2 p3, (f, u, o)) := by
  intro sz
  refine Met.ofW (cc := cX0_compare) (maxL := 5) (ret := (some .int)) (by decide) rfl ?_
  intro p e s m args below meth c s₁ B hml hv
  obtain ⟨rfl, hsz, hP, hK, hD0⟩ := hv
  have hx := B.exec
  have hb := B.bytes
  have hr := B.returns
  have hts := atoms_spec (ws := wsX0_compare) B.pre
  have hown : s.vm.findClass RX0 = some m.cls := findClass_of_methodNamed B.named
  have hlocks := B.notSynchronized
  subst hsz
  have hD := hD0.self (sz := s.heap.size)
  generalize hAe : va_A (mw_X0 h0 h_f cA_f (f, u, o)) s.heap.size = A at hD ⊢
  have hA : ∀ q : Nat, s.heap.size ≤ q → A q := fun q h => by rw [← hAe]; exact Or.inr h
  have hS : va_S A s.heap s.heap [] := va_S.rf
  have hP : va_P (dC, dI) vwCl [(h0, .inr (0, [.ref h_f, .int u, .int o])), (h_f, .inl (cA_f, 8, .inr (.inl f)))] s.heap := hP
  have hD : va_D A [(h0, .inr (0, [.ref h_f, .int u, .int o])), (h_f, .inl (cA_f, 8, .inr (.inl f)))] := hD
  generalize hT : mf_X0_compare f u o p1 p2 p3 = T
  have hF := hT.symm
  unfold mf_X0_compare at hF
  have hl := lv_entry ([.ref h0, .int p1, .int p2, .int p3]) (n := 5) (Nat.le_of_ble_eq_true rfl)
  rw [lg_entry_eq]
  generalize (lg_sl ([.ref h0, .int p1, .int p2, .int p3]) ++ List.replicate (5 - (lg_sl ([.ref h0, .int p1, .int p2, .int p3])).length) Slot.unset).toArray = ls at hl ⊢
  have hl : lv_has ls 5 [(0, .ref h0), (1, .int p1), (2, .int p2), (3, .int p3)] := hl
  refine lv_aload_n hx hb dX0_compare_0 rfl (lv_at hl 0 rfl) ?_
  refine lv_iload_n hx hb dX0_compare_1 rfl (lv_at hl 1 rfl) ?_
  refine lv_iload_n hx hb dX0_compare_2 rfl (lv_at hl 2 rfl) ?_
  refine lv_iload_n hx hb dX0_compare_3 rfl (lv_at hl 3 rfl) ?_
  refine lv_iload_n hx hb dX0_compare_4 rfl (lv_at hl 2 rfl) ?_
  refine xj_vi (As := [.int p1, .int p2, .int p3, .int p2]) (rest := []) (Wd := mw_X0 h0 h_f cA_f) (wr := []) ⟨hx, hb, hml, hown, hts⟩ (mc_X0_refusalOf l dC dI h0 h_f cA_f f u o p1 p2 p3 p2) (cwV 4 hts gX0_compare_X0_refusalOf rfl rfl rfl (by decide +kernel) ⟨Nat.le_of_ble_eq_true rfl, Nat.le_of_ble_eq_true rfl⟩) hP hK hD hS hA [0, 1] [] [0] rfl (by decide) rfl (by decide) (by decide) rfl (va_recv hK hP (ci := 0) (q0 := 0) rfl rfl) rfl hl.1 rfl (Nat.le_of_ble_eq_true rfl) dX0_compare_5 ⟨Nat.zero_le _, Nat.zero_le _⟩ (fun H9 locs9 hP hD hS => ?_)
  have hP : va_P (dC, dI) vwCl [(h0, .inr (0, [.ref h_f, .int u, .int o])), (h_f, .inl (cA_f, 8, .inr (.inl f)))] _ := hP
  have hD : va_D A [(h0, .inr (0, [.ref h_f, .int u, .int o])), (h_f, .inl (cA_f, 8, .inr (.inl f)))] := hD
  refine lv_topi (fun y1 ey1 => ?_)
  replace hF := xj_bz hF ey1
  refine lv_istore (lv' := [(4, .int y1), (0, .ref h0), (1, .int p1), (2, .int p2), (3, .int p3)]) hx hb dX0_compare_8 hl (by decide) rfl (fun ls hl => ?_)
  refine lv_iload hx hb dX0_compare_10 (lv_at hl 0 rfl) ?_
  refine lv_if_eq (tgt := 18) hx hb dX0_compare_12 (by decide) (fun c2 => ?_) (fun c2 => ?_)
  · replace hF := xj_t hF c2
    refine lv_aload_n hx hb dX0_compare_18 rfl (lv_at hl 1 rfl) ?_
    refine lv_iload_n hx hb dX0_compare_19 rfl (lv_at hl 2 rfl) ?_
    refine lv_iload_n hx hb dX0_compare_20 rfl (lv_at hl 3 rfl) ?_
    refine xj_vl (As := [.int p1, .int p2]) (rest := []) (Wd := mw_X0 h0 h_f cA_f) (wr := []) ⟨hx, hb, hml, hown, hts⟩ (mc_X0_valueIn l dC dI h0 h_f cA_f f u o p1 p2 ((mr_ref (ey1.symm.trans c2)).1)) (cwV 2 hts gX0_compare_X0_valueIn rfl rfl rfl (by decide +kernel) ⟨Nat.le_of_ble_eq_true rfl, Nat.le_of_ble_eq_true rfl⟩) hP hK hD hS hA [0, 1] [] [0] rfl (by decide) rfl (by decide) (by decide) rfl (va_recv hK hP (ci := 0) (q0 := 0) rfl rfl) rfl hl.1 rfl (Nat.le_of_ble_eq_true rfl) dX0_compare_21 ⟨Nat.zero_le _, Nat.zero_le _⟩ (fun H9 locs9 hP hD hS => ?_)
    have hP : va_P (dC, dI) vwCl [(h0, .inr (0, [.ref h_f, .int u, .int o])), (h_f, .inl (cA_f, 8, .inr (.inl f)))] _ := hP
    have hD : va_D A [(h0, .inr (0, [.ref h_f, .int u, .int o])), (h_f, .inl (cA_f, 8, .inr (.inl f)))] := hD
    refine lv_topl (fun y3 ey3 => ?_)
    replace hF := xj_bz hF ey3
    refine lv_aload_n hx hb dX0_compare_24 rfl (lv_at hl 1 rfl) ?_
    refine lv_iload_n hx hb dX0_compare_25 rfl (lv_at hl 2 rfl) ?_
    refine lv_iload_n hx hb dX0_compare_26 rfl (lv_at hl 4 rfl) ?_
    refine xj_vl (As := [.int p1, .int p3]) (rest := [.long y3]) (Wd := mw_X0 h0 h_f cA_f) (wr := []) ⟨hx, hb, hml, hown, hts⟩ (mc_X0_valueIn l dC dI h0 h_f cA_f f u o p1 p3 ((mr_ref (ey1.symm.trans c2)).2.1)) (cwV 2 hts gX0_compare_X0_valueIn rfl rfl rfl (by decide +kernel) ⟨Nat.le_of_ble_eq_true rfl, Nat.le_of_ble_eq_true rfl⟩) hP hK hD hS hA [0, 1] [] [0] rfl (by decide) rfl (by decide) (by decide) rfl (va_recv hK hP (ci := 0) (q0 := 0) rfl rfl) rfl hl.1 rfl (Nat.le_of_ble_eq_true rfl) dX0_compare_27 ⟨Nat.zero_le _, Nat.zero_le _⟩ (fun H9 locs9 hP hD hS => ?_)
    have hP : va_P (dC, dI) vwCl [(h0, .inr (0, [.ref h_f, .int u, .int o])), (h_f, .inl (cA_f, 8, .inr (.inl f)))] _ := hP
    have hD : va_D A [(h0, .inr (0, [.ref h_f, .int u, .int o])), (h_f, .inl (cA_f, 8, .inr (.inl f)))] := hD
    refine lv_topl (fun y4 ey4 => ?_)
    replace hF := xj_bz hF ey4
    refine xj_si (As := [.long y3, .long y4]) (rest := []) ⟨hx, hb, hml, hown, hts⟩ (mc_J13_compare_74951 l y3 y4) (va_cwS 2 hts gX0_compare_J13_compare_74951 rfl rfl rfl (by decide +kernel) ⟨Nat.le_of_ble_eq_true rfl, Nat.le_of_ble_eq_true rfl⟩) hS hA rfl hl.1 rfl (Nat.le_of_ble_eq_true rfl) dX0_compare_30 ⟨Nat.zero_le _, Nat.zero_le _⟩ (fun H9 locs9 hk9 hS => ?_)
    have hP := xj_kept hP hk9
    refine lv_topi (fun y5 ey5 => ?_)
    replace hF := xj_bz hF ey5
    refine lv_i2l (v := (Int32.toInt64 y5)) hx hb dX0_compare_33 rfl ?_
    refine xj_si (As := [.long (Int32.toInt64 y5)]) (rest := []) ⟨hx, hb, hml, hown, hts⟩ (mc_X0_flagsOf l (Int32.toInt64 y5)) (va_cwS 1 hts gX0_compare_X0_flagsOf rfl rfl rfl (by decide +kernel) ⟨Nat.le_of_ble_eq_true rfl, Nat.le_of_ble_eq_true rfl⟩) hS hA rfl hl.1 rfl (Nat.le_of_ble_eq_true rfl) dX0_compare_34 ⟨Nat.zero_le _, Nat.zero_le _⟩ (fun H9 locs9 hk9 hS => ?_)
    have hP := xj_kept hP hk9
    refine lv_topi (fun y6 ey6 => ?_)
    replace hF := xj_bz hF ey6
    exact W.iret (v := y6) hx hb hr (fun t ht hW => ⟨⟨_, (f, u, o), rfl, by rw [hF], by rw [ht]; exact hP, hD⟩, hS.F ht⟩) hS.2.2 dX0_compare_37
  · replace hF := xj_f hF c2
    refine lv_iload hx hb dX0_compare_15 (lv_at hl 0 rfl) ?_
    exact W.iret (v := y1) hx hb hr (fun t ht hW => ⟨⟨_, (f, u, o), rfl, by rw [hF], by rw [ht]; exact hP, hD⟩, hS.F ht⟩) hS.2.2 dX0_compare_17
def mf_X0_change (f : Nat → Int64) (u : Int32) (o : Int32) (p1 : Int32) (p2 : Int32) (p3 : Int32) : Int32 × (Nat → Int64) × Int32 × Int32 := (xj_bnd (mf_X0_refusalOf f u o p1 p2 p2 p3) (fun y1 => (xj_bnd (if p1 = (4 : Int32) then (8 : Int32) else (4 : Int32)) (fun y3 => (if y1 = 0 then (xj_bnd (mf_X0_valueIn f u o p1 p2) (fun y5 => (xj_bnd (mf_X0_storeValue f u o y3 p3 y5) (fun q6 => (q6.1, (q6.2.1, q6.2.2.1, q6.2.2.2)))))) else (y1, (f, u, o)))))))
set_option maxHeartbeats 4000000 in
set_option maxRecDepth 100000 in
theorem mc_X0_change (l : Launch) (dC : Nat → ClassId) (dI : Nat → Nat → Nat) (h0 h_f : Nat) (cA_f : ClassId) (f : Nat → Int64) (u : Int32) (o : Int32) (p1 : Int32) (p2 : Int32) (p3 : Int32) : xj_Oi l (dC, dI) vwCl [(cA_f, .long)] (mw_X0 h0 h_f cA_f) yX0_change wsX0_change ({ frames := 3, cells := 0, slots := 0, locals := 78 }) [.ref h0, .int p1, .int p2, .int p3] (f, u, o) (mf_X0_change f u o p1 p2 p3) := by
  intro sz
  refine Met.ofW (cc := cX0_change) (maxL := 6) (ret := (some .int)) (by decide) rfl ?_
  intro p e s m args below meth c s₁ B hml hv
  obtain ⟨rfl, hsz, hP, hK, hD0⟩ := hv
  have hx := B.exec
  have hb := B.bytes
  have hr := B.returns
  have hts := atoms_spec (ws := wsX0_change) B.pre
  have hown : s.vm.findClass RX0 = some m.cls := findClass_of_methodNamed B.named
  have hlocks := B.notSynchronized
  subst hsz
  have hD := hD0.self (sz := s.heap.size)
  generalize hAe : va_A (mw_X0 h0 h_f cA_f (f, u, o)) s.heap.size = A at hD ⊢
  have hA : ∀ q : Nat, s.heap.size ≤ q → A q := fun q h => by rw [← hAe]; exact Or.inr h
  have hS : va_S A s.heap s.heap [] := va_S.rf
  have hP : va_P (dC, dI) vwCl [(h0, .inr (0, [.ref h_f, .int u, .int o])), (h_f, .inl (cA_f, 8, .inr (.inl f)))] s.heap := hP
  have hD : va_D A [(h0, .inr (0, [.ref h_f, .int u, .int o])), (h_f, .inl (cA_f, 8, .inr (.inl f)))] := hD
  generalize hT : mf_X0_change f u o p1 p2 p3 = T
  have hF := hT.symm
  unfold mf_X0_change at hF
  have hl := lv_entry ([.ref h0, .int p1, .int p2, .int p3]) (n := 6) (Nat.le_of_ble_eq_true rfl)
  rw [lg_entry_eq]
  generalize (lg_sl ([.ref h0, .int p1, .int p2, .int p3]) ++ List.replicate (6 - (lg_sl ([.ref h0, .int p1, .int p2, .int p3])).length) Slot.unset).toArray = ls at hl ⊢
  have hl : lv_has ls 6 [(0, .ref h0), (1, .int p1), (2, .int p2), (3, .int p3)] := hl
  refine lv_aload_n hx hb dX0_change_0 rfl (lv_at hl 0 rfl) ?_
  refine lv_iload_n hx hb dX0_change_1 rfl (lv_at hl 1 rfl) ?_
  refine lv_iload_n hx hb dX0_change_2 rfl (lv_at hl 2 rfl) ?_
  refine lv_iload_n hx hb dX0_change_3 rfl (lv_at hl 2 rfl) ?_
  refine lv_iload_n hx hb dX0_change_4 rfl (lv_at hl 3 rfl) ?_
  refine xj_vi (As := [.int p1, .int p2, .int p2, .int p3]) (rest := []) (Wd := mw_X0 h0 h_f cA_f) (wr := []) ⟨hx, hb, hml, hown, hts⟩ (mc_X0_refusalOf l dC dI h0 h_f cA_f f u o p1 p2 p2 p3) (cwV 4 hts gX0_change_X0_refusalOf rfl rfl rfl (by decide +kernel) ⟨Nat.le_of_ble_eq_true rfl, Nat.le_of_ble_eq_true rfl⟩) hP hK hD hS hA [0, 1] [] [0] rfl (by decide) rfl (by decide) (by decide) rfl (va_recv hK hP (ci := 0) (q0 := 0) rfl rfl) rfl hl.1 rfl (Nat.le_of_ble_eq_true rfl) dX0_change_5 ⟨Nat.zero_le _, Nat.zero_le _⟩ (fun H9 locs9 hP hD hS => ?_)
  have hP : va_P (dC, dI) vwCl [(h0, .inr (0, [.ref h_f, .int u, .int o])), (h_f, .inl (cA_f, 8, .inr (.inl f)))] _ := hP
  have hD : va_D A [(h0, .inr (0, [.ref h_f, .int u, .int o])), (h_f, .inl (cA_f, 8, .inr (.inl f)))] := hD
  refine lv_topi (fun y1 ey1 => ?_)
  replace hF := xj_bz hF ey1
  refine lv_istore (lv' := [(4, .int y1), (0, .ref h0), (1, .int p1), (2, .int p2), (3, .int p3)]) hx hb dX0_change_8 hl (by decide) rfl (fun ls hl => ?_)
  refine lv_iload_n hx hb dX0_change_10 rfl (lv_at hl 2 rfl) ?_
  refine lv_iconst (v := (4 : Int32)) hx hb dX0_change_11 (by decide) ?_
  obtain ⟨y3, ey3⟩ : ∃ z : Int32, z = (if p1 = (4 : Int32) then (8 : Int32) else (4 : Int32)) := ⟨_, rfl⟩
  replace hF := xj_bz hF ey3
  refine xj_join 21 (fun ls' st' => lv_has ls' 6 [(4, .int y1), (0, .ref h0), (1, .int p1), (2, .int p2), (3, .int p3)] ∧ st' = [.int y3]) ?_ (fun K21 => ?_)
  · rintro ls st ⟨hl, rfl⟩
    refine lv_istore (lv' := [(5, .int y3), (4, .int y1), (0, .ref h0), (1, .int p1), (2, .int p2), (3, .int p3)]) hx hb dX0_change_21 hl (by decide) rfl (fun ls hl => ?_)
    refine lv_iload hx hb dX0_change_23 (lv_at hl 1 rfl) ?_
    refine lv_if_eq (tgt := 33) hx hb dX0_change_25 (by decide) (fun c4 => ?_) (fun c4 => ?_)
    · replace hF := xj_t hF c4
      refine lv_aload_n hx hb dX0_change_33 rfl (lv_at hl 2 rfl) ?_
      refine lv_iload hx hb dX0_change_34 (lv_at hl 0 rfl) ?_
      refine lv_iload_n hx hb dX0_change_36 rfl (lv_at hl 5 rfl) ?_
      refine lv_aload_n hx hb dX0_change_37 rfl (lv_at hl 2 rfl) ?_
      refine lv_iload_n hx hb dX0_change_38 rfl (lv_at hl 3 rfl) ?_
      refine lv_iload_n hx hb dX0_change_39 rfl (lv_at hl 4 rfl) ?_
      refine xj_vl (As := [.int p1, .int p2]) (rest := [.int p3, .int y3, .ref h0]) (Wd := mw_X0 h0 h_f cA_f) (wr := []) ⟨hx, hb, hml, hown, hts⟩ (mc_X0_valueIn l dC dI h0 h_f cA_f f u o p1 p2 ((mr_ref (ey1.symm.trans c4)).1)) (cwV 2 hts gX0_change_X0_valueIn rfl rfl rfl (by decide +kernel) ⟨Nat.le_of_ble_eq_true rfl, Nat.le_of_ble_eq_true rfl⟩) hP hK hD hS hA [0, 1] [] [0] rfl (by decide) rfl (by decide) (by decide) rfl (va_recv hK hP (ci := 0) (q0 := 0) rfl rfl) rfl hl.1 rfl (Nat.le_of_ble_eq_true rfl) dX0_change_40 ⟨Nat.zero_le _, Nat.zero_le _⟩ (fun H9 locs9 hP hD hS => ?_)
      have hP : va_P (dC, dI) vwCl [(h0, .inr (0, [.ref h_f, .int u, .int o])), (h_f, .inl (cA_f, 8, .inr (.inl f)))] _ := hP
      have hD : va_D A [(h0, .inr (0, [.ref h_f, .int u, .int o])), (h_f, .inl (cA_f, 8, .inr (.inl f)))] := hD
      refine lv_topl (fun y5 ey5 => ?_)
      replace hF := xj_bz hF ey5
      obtain ⟨q6, eq6⟩ : ∃ z : Int32 × (Nat → Int64) × Int32 × Int32, z = (mf_X0_storeValue f u o y3 p3 y5) := ⟨_, rfl⟩
      replace hF := xj_bz hF eq6
      refine xj_vi (r := q6) (As := [.int y3, .int p3, .long y5]) (rest := []) (Wd := mw_X0 h0 h_f cA_f) (wr := []) ⟨hx, hb, hml, hown, hts⟩ (by rw [eq6]; exact mc_X0_storeValue l dC dI h0 h_f cA_f f u o y3 p3 y5 ((mr_ref (ey1.symm.trans c4)).2.2)) (cwV 3 hts gX0_change_X0_storeValue rfl rfl rfl (by decide +kernel) ⟨Nat.le_of_ble_eq_true rfl, Nat.le_of_ble_eq_true rfl⟩) hP hK hD hS hA [0, 1] [] [0] rfl (by decide) rfl (by decide) (by decide) rfl (va_recv hK hP (ci := 0) (q0 := 0) rfl rfl) rfl hl.1 rfl (Nat.le_of_ble_eq_true rfl) dX0_change_43 ⟨Nat.zero_le _, Nat.zero_le _⟩ (fun H9 locs9 hP hD hS => ?_)
      have hP : va_P (dC, dI) vwCl [(h0, .inr (0, [.ref h_f, .int q6.2.2.1, .int q6.2.2.2])), (h_f, .inl (cA_f, 8, .inr (.inl q6.2.1)))] _ := hP
      have hD : va_D A [(h0, .inr (0, [.ref h_f, .int q6.2.2.1, .int q6.2.2.2])), (h_f, .inl (cA_f, 8, .inr (.inl q6.2.1)))] := hD
      exact W.iret (v := q6.1) hx hb hr (fun t ht hW => ⟨⟨_, (q6.2.1, q6.2.2.1, q6.2.2.2), rfl, hF.symm, by rw [ht]; exact hP, hD⟩, hS.F ht⟩) hS.2.2 dX0_change_46
    · replace hF := xj_f hF c4
      refine lv_iload hx hb dX0_change_28 (lv_at hl 1 rfl) ?_
      refine lv_goto (tgt := 46) hx hb dX0_change_30 (by decide) ?_
      exact W.iret (v := y1) hx hb hr (fun t ht hW => ⟨⟨_, (f, u, o), rfl, hF.symm, by rw [ht]; exact hP, hD⟩, hS.F ht⟩) hS.2.2 dX0_change_46
  · refine lv_icmp_ne (tgt := 20) hx hb dX0_change_12 (by decide) (fun c2 => ?_) (fun c2 => ?_)
    · replace ey3 := xj_f ey3 c2
      refine lv_iconst (v := (4 : Int32)) hx hb dX0_change_20 (by decide) ?_
      subst ey3
      exact K21 _ _ ⟨lv_sub hl [0, 1, 2, 3, 4] rfl, rfl⟩
    · replace ey3 := xj_t ey3 c2
      refine lv_bipush (v := (8 : Int32)) hx hb dX0_change_15 (by decide) ?_
      refine lv_goto (tgt := 21) hx hb dX0_change_17 (by decide) ?_
      subst ey3
      exact K21 _ _ ⟨lv_sub hl [0, 1, 2, 3, 4] rfl, rfl⟩
def mf_X0_whole (f : Nat → Int64) (u : Int32) (o : Int32) (p1 : Int32) (p2 : Int32) (p3 : Int32) (p4 : Int32) (p5 : Int32) : Int32 × (Nat → Int64) × Int32 × Int32 := (xj_bnd (xj_bnd (mf_X0_refusalOf f u o p1 p2 p2 p5) (fun y3 => (if y3 = 0 then (xj_bnd (mf_X0_valueIn f u o p1 p2) (fun y5 => (xj_bnd (mf_X0_wholeOf y5 p4) (fun y6 => (xj_bnd ((64 : Int32) - ((8 : Int32) * p3)) (fun y7 => (xj_bnd (xj_shr (xj_shl y6 y7) y7) (fun y8 => (xj_bnd (mf_X0_flagsOf y8) (fun y9 => (xj_bnd (if y8 = y6 then (0 : Int32) else (2 : Int32)) (fun y11 => ((y9 ||| y11), ((vp_updL f (Int32.toNatClampNeg p5) y8), u, o)))))))))))))) else (y3, (f, u, o))))) (fun k2 => (if p3 = (1 : Int32) then k2 else (if p3 = (2 : Int32) then k2 else (if p3 = (4 : Int32) then k2 else ((-5 : Int32), (f, u, o)))))))
set_option maxHeartbeats 4000000 in
set_option maxRecDepth 100000 in
theorem mc_X0_whole (l : Launch) (dC : Nat → ClassId) (dI : Nat → Nat → Nat) (h0 h_f : Nat) (cA_f : ClassId) (f : Nat → Int64) (u : Int32) (o : Int32) (p1 : Int32) (p2 : Int32) (p3 : Int32) (p4 : Int32) (p5 : Int32) : xj_Oi l (dC, dI) vwCl [(cA_f, .long)] (mw_X0 h0 h_f cA_f) yX0_whole wsX0_whole ({ frames := 3, cells := 0, slots := 0, locals := 59 }) [.ref h0, .int p1, .int p2, .int p3, .int p4, .int p5] (f, u, o) (mf_X0_whole f u o p1 p2 p3 p4 p5) := by
  intro sz
  refine Met.ofW (cc := cX0_whole) (maxL := 12) (ret := (some .int)) (by decide) rfl ?_
  intro p e s m args below meth c s₁ B hml hv
  obtain ⟨rfl, hsz, hP, hK, hD0⟩ := hv
  have hx := B.exec
  have hb := B.bytes
  have hr := B.returns
  have hts := atoms_spec (ws := wsX0_whole) B.pre
  have hown : s.vm.findClass RX0 = some m.cls := findClass_of_methodNamed B.named
  have hlocks := B.notSynchronized
  subst hsz
  have hD := hD0.self (sz := s.heap.size)
  generalize hAe : va_A (mw_X0 h0 h_f cA_f (f, u, o)) s.heap.size = A at hD ⊢
  have hA : ∀ q : Nat, s.heap.size ≤ q → A q := fun q h => by rw [← hAe]; exact Or.inr h
  have hS : va_S A s.heap s.heap [] := va_S.rf
  have hP : va_P (dC, dI) vwCl [(h0, .inr (0, [.ref h_f, .int u, .int o])), (h_f, .inl (cA_f, 8, .inr (.inl f)))] s.heap := hP
  have hD : va_D A [(h0, .inr (0, [.ref h_f, .int u, .int o])), (h_f, .inl (cA_f, 8, .inr (.inl f)))] := hD
  generalize hT : mf_X0_whole f u o p1 p2 p3 p4 p5 = T
  have hF := hT.symm
  unfold mf_X0_whole at hF
  have hl := lv_entry ([.ref h0, .int p1, .int p2, .int p3, .int p4, .int p5]) (n := 12) (Nat.le_of_ble_eq_true rfl)
  rw [lg_entry_eq]
  generalize (lg_sl ([.ref h0, .int p1, .int p2, .int p3, .int p4, .int p5]) ++ List.replicate (12 - (lg_sl ([.ref h0, .int p1, .int p2, .int p3, .int p4, .int p5])).length) Slot.unset).toArray = ls at hl ⊢
  have hl : lv_has ls 12 [(0, .ref h0), (1, .int p1), (2, .int p2), (3, .int p3), (4, .int p4), (5, .int p5)] := hl
  refine lv_iload_n hx hb dX0_whole_0 rfl (lv_at hl 3 rfl) ?_
  refine lv_iconst (v := (1 : Int32)) hx hb dX0_whole_1 (by decide) ?_
  obtain ⟨k2, ek2, hF⟩ := xj_b hF
  refine xj_join 18 (fun ls' st' => T = k2 ∧ lv_has ls' 12 [(0, .ref h0), (1, .int p1), (2, .int p2), (3, .int p3), (4, .int p4), (5, .int p5)] ∧ st' = []) ?_ (fun K18 => ?_)
  · rintro ls st ⟨hF, hl, rfl⟩
    have hF := hF.trans ek2
    refine lv_aload_n hx hb dX0_whole_18 rfl (lv_at hl 0 rfl) ?_
    refine lv_iload_n hx hb dX0_whole_19 rfl (lv_at hl 1 rfl) ?_
    refine lv_iload_n hx hb dX0_whole_20 rfl (lv_at hl 2 rfl) ?_
    refine lv_iload_n hx hb dX0_whole_21 rfl (lv_at hl 2 rfl) ?_
    refine lv_iload hx hb dX0_whole_22 (lv_at hl 5 rfl) ?_
    refine xj_vi (As := [.int p1, .int p2, .int p2, .int p5]) (rest := []) (Wd := mw_X0 h0 h_f cA_f) (wr := []) ⟨hx, hb, hml, hown, hts⟩ (mc_X0_refusalOf l dC dI h0 h_f cA_f f u o p1 p2 p2 p5) (cwV 4 hts gX0_whole_X0_refusalOf rfl rfl rfl (by decide +kernel) ⟨Nat.le_of_ble_eq_true rfl, Nat.le_of_ble_eq_true rfl⟩) hP hK hD hS hA [0, 1] [] [0] rfl (by decide) rfl (by decide) (by decide) rfl (va_recv hK hP (ci := 0) (q0 := 0) rfl rfl) rfl hl.1 rfl (Nat.le_of_ble_eq_true rfl) dX0_whole_24 ⟨Nat.zero_le _, Nat.zero_le _⟩ (fun H9 locs9 hP hD hS => ?_)
    have hP : va_P (dC, dI) vwCl [(h0, .inr (0, [.ref h_f, .int u, .int o])), (h_f, .inl (cA_f, 8, .inr (.inl f)))] _ := hP
    have hD : va_D A [(h0, .inr (0, [.ref h_f, .int u, .int o])), (h_f, .inl (cA_f, 8, .inr (.inl f)))] := hD
    refine lv_topi (fun y3 ey3 => ?_)
    replace hF := xj_bz hF ey3
    refine lv_istore (lv' := [(6, .int y3), (0, .ref h0), (1, .int p1), (2, .int p2), (3, .int p3), (4, .int p4), (5, .int p5)]) hx hb dX0_whole_27 hl (by decide) rfl (fun ls hl => ?_)
    refine lv_iload hx hb dX0_whole_29 (lv_at hl 0 rfl) ?_
    refine lv_if_eq (tgt := 37) hx hb dX0_whole_31 (by decide) (fun c4 => ?_) (fun c4 => ?_)
    · replace hF := xj_t hF c4
      refine lv_aload_n hx hb dX0_whole_37 rfl (lv_at hl 1 rfl) ?_
      refine lv_iload_n hx hb dX0_whole_38 rfl (lv_at hl 2 rfl) ?_
      refine lv_iload_n hx hb dX0_whole_39 rfl (lv_at hl 3 rfl) ?_
      refine xj_vl (As := [.int p1, .int p2]) (rest := []) (Wd := mw_X0 h0 h_f cA_f) (wr := []) ⟨hx, hb, hml, hown, hts⟩ (mc_X0_valueIn l dC dI h0 h_f cA_f f u o p1 p2 ((mr_ref (ey3.symm.trans c4)).1)) (cwV 2 hts gX0_whole_X0_valueIn rfl rfl rfl (by decide +kernel) ⟨Nat.le_of_ble_eq_true rfl, Nat.le_of_ble_eq_true rfl⟩) hP hK hD hS hA [0, 1] [] [0] rfl (by decide) rfl (by decide) (by decide) rfl (va_recv hK hP (ci := 0) (q0 := 0) rfl rfl) rfl hl.1 rfl (Nat.le_of_ble_eq_true rfl) dX0_whole_40 ⟨Nat.zero_le _, Nat.zero_le _⟩ (fun H9 locs9 hP hD hS => ?_)
      have hP : va_P (dC, dI) vwCl [(h0, .inr (0, [.ref h_f, .int u, .int o])), (h_f, .inl (cA_f, 8, .inr (.inl f)))] _ := hP
      have hD : va_D A [(h0, .inr (0, [.ref h_f, .int u, .int o])), (h_f, .inl (cA_f, 8, .inr (.inl f)))] := hD
      refine lv_topl (fun y5 ey5 => ?_)
      replace hF := xj_bz hF ey5
      refine lv_iload hx hb dX0_whole_43 (lv_at hl 5 rfl) ?_
      refine xj_sl (As := [.long y5, .int p4]) (rest := []) ⟨hx, hb, hml, hown, hts⟩ (mc_X0_wholeOf l y5 p4) (va_cwS 2 hts gX0_whole_X0_wholeOf rfl rfl rfl (by decide +kernel) ⟨Nat.le_of_ble_eq_true rfl, Nat.le_of_ble_eq_true rfl⟩) hS hA rfl hl.1 rfl (Nat.le_of_ble_eq_true rfl) dX0_whole_45 ⟨Nat.zero_le _, Nat.zero_le _⟩ (fun H9 locs9 hk9 hS => ?_)
      have hP := xj_kept hP hk9
      refine lv_topl (fun y6 ey6 => ?_)
      replace hF := xj_bz hF ey6
      refine lv_lstore (lv' := [(7, .long y6), (6, .int y3), (0, .ref h0), (1, .int p1), (2, .int p2), (3, .int p3), (4, .int p4), (5, .int p5)]) hx hb dX0_whole_48 hl (by decide) rfl (fun ls hl => ?_)
      refine lv_bipush (v := (64 : Int32)) hx hb dX0_whole_50 (by decide) ?_
      refine lv_bipush (v := (8 : Int32)) hx hb dX0_whole_52 (by decide) ?_
      refine lv_iload_n hx hb dX0_whole_54 rfl (lv_at hl 5 rfl) ?_
      refine lv_imul hx hb dX0_whole_55 ?_
      refine lv_isub hx hb dX0_whole_56 ?_
      refine lv_topi (fun y7 ey7 => ?_)
      replace hF := xj_bz hF ey7
      refine lv_istore (lv' := [(9, .int y7), (7, .long y6), (6, .int y3), (0, .ref h0), (1, .int p1), (2, .int p2), (3, .int p3), (4, .int p4), (5, .int p5)]) hx hb dX0_whole_57 hl (by decide) rfl (fun ls hl => ?_)
      refine lv_lload hx hb dX0_whole_59 (lv_at hl 1 rfl) ?_
      refine lv_iload hx hb dX0_whole_61 (lv_at hl 0 rfl) ?_
      refine lv_lshl (v := (xj_shl y6 y7)) hx hb dX0_whole_63 rfl ?_
      refine lv_iload hx hb dX0_whole_64 (lv_at hl 0 rfl) ?_
      refine lv_lshr (v := (xj_shr (xj_shl y6 y7) y7)) hx hb dX0_whole_66 rfl ?_
      refine lv_topl (fun y8 ey8 => ?_)
      replace hF := xj_bz hF ey8
      refine lv_lstore (lv' := [(10, .long y8), (9, .int y7), (7, .long y6), (6, .int y3), (0, .ref h0), (1, .int p1), (2, .int p2), (3, .int p3), (4, .int p4), (5, .int p5)]) hx hb dX0_whole_67 hl (by decide) rfl (fun ls hl => ?_)
      refine lv_aload_n hx hb dX0_whole_69 rfl (lv_at hl 4 rfl) ?_
      refine va_get (D := (dC, dI)) (ci := 0) (v := .ref h_f) (C := RX0) (T := TX0) (N := 3) hx hb hts (by decide +kernel) hown hK hP 0 rfl rfl 0 (by decide) (hts (.fieldLink RX0 9 "ExactFloats" "registers" "[J") (by decide +kernel)) (fun _ h9 => h9) rfl dX0_whole_70 ?_
      refine lv_iload hx hb dX0_whole_73 (lv_at hl 9 rfl) ?_
      refine lv_lload hx hb dX0_whole_75 (lv_at hl 0 rfl) ?_
      refine va_last hx hb hK hP hD hS 1 0 rfl rfl ((mr_ref (ey3.symm.trans c4)).2.2) dX0_whole_77 (fun H9 locs9 hP hD hS => ?_)
      have hP : va_P (dC, dI) vwCl [(h0, .inr (0, [.ref h_f, .int u, .int o])), (h_f, .inl (cA_f, 8, .inr (.inl (vp_updL f (Int32.toNatClampNeg p5) y8))))] _ := hP
      have hD : va_D A [(h0, .inr (0, [.ref h_f, .int u, .int o])), (h_f, .inl (cA_f, 8, .inr (.inl (vp_updL f (Int32.toNatClampNeg p5) y8))))] := hD
      refine lv_lload hx hb dX0_whole_78 (lv_at hl 0 rfl) ?_
      refine xj_si (As := [.long y8]) (rest := []) ⟨hx, hb, hml, hown, hts⟩ (mc_X0_flagsOf l y8) (va_cwS 1 hts gX0_whole_X0_flagsOf rfl rfl rfl (by decide +kernel) ⟨Nat.le_of_ble_eq_true rfl, Nat.le_of_ble_eq_true rfl⟩) hS hA rfl hl.1 rfl (Nat.le_of_ble_eq_true rfl) dX0_whole_80 ⟨Nat.zero_le _, Nat.zero_le _⟩ (fun H9 locs9 hk9 hS => ?_)
      have hP := xj_kept hP hk9
      refine lv_topi (fun y9 ey9 => ?_)
      replace hF := xj_bz hF ey9
      refine lv_lload hx hb dX0_whole_83 (lv_at hl 0 rfl) ?_
      refine lv_lload hx hb dX0_whole_85 (lv_at hl 2 rfl) ?_
      obtain ⟨y11, ey11⟩ : ∃ z : Int32, z = (if y8 = y6 then (0 : Int32) else (2 : Int32)) := ⟨_, rfl⟩
      replace hF := xj_bz hF ey11
      refine xj_join 96 (fun ls' st' => lv_has ls' 12 [(10, .long y8), (9, .int y7), (7, .long y6), (6, .int y3), (0, .ref h0), (1, .int p1), (2, .int p2), (3, .int p3), (4, .int p4), (5, .int p5)] ∧ st' = [.int y11, .int y9]) ?_ (fun K96 => ?_)
      · rintro ls st ⟨hl, rfl⟩
        refine lv_ior hx hb dX0_whole_96 ?_
        exact W.iret (v := (y9 ||| y11)) hx hb hr (fun t ht hW => ⟨⟨_, ((vp_updL f (Int32.toNatClampNeg p5) y8), u, o), rfl, hF.symm, by rw [ht]; exact hP, hD⟩, hS.F ht⟩) hS.2.2 dX0_whole_97
      · refine xj_l_eq (tgt := 95) hx hb dX0_whole_87 dX0_whole_88 (by decide) (fun c10 => ?_) (fun c10 => ?_)
        · replace ey11 := xj_t ey11 c10
          refine lv_iconst (v := (0 : Int32)) hx hb dX0_whole_95 (by decide) ?_
          subst ey11
          exact K96 _ _ ⟨lv_sub hl [0, 1, 2, 3, 4, 5, 6, 7, 8, 9] rfl, rfl⟩
        · replace ey11 := xj_f ey11 c10
          refine lv_iconst (v := (2 : Int32)) hx hb dX0_whole_91 (by decide) ?_
          refine lv_goto (tgt := 96) hx hb dX0_whole_92 (by decide) ?_
          subst ey11
          exact K96 _ _ ⟨lv_sub hl [0, 1, 2, 3, 4, 5, 6, 7, 8, 9] rfl, rfl⟩
    · replace hF := xj_f hF c4
      refine lv_iload hx hb dX0_whole_34 (lv_at hl 0 rfl) ?_
      exact W.iret (v := y3) hx hb hr (fun t ht hW => ⟨⟨_, (f, u, o), rfl, hF.symm, by rw [ht]; exact hP, hD⟩, hS.F ht⟩) hS.2.2 dX0_whole_36
  · refine lv_icmp_eq (tgt := 18) hx hb dX0_whole_2 (by decide) (fun c1 => ?_) (fun c1 => ?_)
    · replace hF := xj_t hF c1
      exact K18 _ _ ⟨hF, lv_sub hl [0, 1, 2, 3, 4, 5] rfl, rfl⟩
    · replace hF := xj_f hF c1
      refine lv_iload_n hx hb dX0_whole_5 rfl (lv_at hl 3 rfl) ?_
      refine lv_iconst (v := (2 : Int32)) hx hb dX0_whole_6 (by decide) ?_
      refine lv_icmp_eq (tgt := 18) hx hb dX0_whole_7 (by decide) (fun c12 => ?_) (fun c12 => ?_)
      · replace hF := xj_t hF c12
        exact K18 _ _ ⟨hF, lv_sub hl [0, 1, 2, 3, 4, 5] rfl, rfl⟩
      · replace hF := xj_f hF c12
        refine lv_iload_n hx hb dX0_whole_10 rfl (lv_at hl 3 rfl) ?_
        refine lv_iconst (v := (4 : Int32)) hx hb dX0_whole_11 (by decide) ?_
        refine lv_icmp_eq (tgt := 18) hx hb dX0_whole_12 (by decide) (fun c13 => ?_) (fun c13 => ?_)
        · replace hF := xj_t hF c13
          exact K18 _ _ ⟨hF, lv_sub hl [0, 1, 2, 3, 4, 5] rfl, rfl⟩
        · replace hF := xj_f hF c13
          refine lv_bipush (v := (-5 : Int32)) hx hb dX0_whole_15 (by decide) ?_
          exact W.iret (v := (-5 : Int32)) hx hb hr (fun t ht hW => ⟨⟨_, (f, u, o), rfl, hF.symm, by rw [ht]; exact hP, hD⟩, hS.F ht⟩) hS.2.2 dX0_whole_17
def mf_X0_number (f : Nat → Int64) (u : Int32) (o : Int32) (p1 : Int32) (p2 : Int32) (p3 : Int32) : Int32 × (Nat → Int64) × Int32 × Int32 := (xj_bnd (mf_X0_isSize p1) (fun y1 => (if y1 = 0 then ((-5 : Int32), (f, u, o)) else (xj_bnd (mf_X0_isRegister p3) (fun y3 => (if y3 = 0 then ((-5 : Int32), (f, u, o)) else (xj_bnd (if 0 ≤ p2 then (0 : Int32) else (1 : Int32)) (fun y6 => (xj_bnd (xj_abs (Int32.toInt64 p2)) (fun y7 => (xj_bnd (mf_X0_storeRounded f u o p1 p3 y6 (191 : Int32) y7) (fun q8 => (q8.1, (q8.2.1, q8.2.2.1, q8.2.2.2))))))))))))))
set_option maxHeartbeats 4000000 in
set_option maxRecDepth 100000 in
theorem mc_X0_number (l : Launch) (dC : Nat → ClassId) (dI : Nat → Nat → Nat) (h0 h_f : Nat) (cA_f : ClassId) (f : Nat → Int64) (u : Int32) (o : Int32) (p1 : Int32) (p2 : Int32) (p3 : Int32) : xj_Oi l (dC, dI) vwCl [(cA_f, .long)] (mw_X0 h0 h_f cA_f) yX0_number wsX0_number ({ frames := 2, cells := 0, slots := 0, locals := 54 }) [.ref h0, .int p1, .int p2, .int p3] (f, u, o) (mf_X0_number f u o p1 p2 p3) := by
  intro sz
  refine Met.ofW (cc := cX0_number) (maxL := 4) (ret := (some .int)) (by decide) rfl ?_
  intro p e s m args below meth c s₁ B hml hv
  obtain ⟨rfl, hsz, hP, hK, hD0⟩ := hv
  have hx := B.exec
  have hb := B.bytes
  have hr := B.returns
  have hts := atoms_spec (ws := wsX0_number) B.pre
  have hown : s.vm.findClass RX0 = some m.cls := findClass_of_methodNamed B.named
  have hlocks := B.notSynchronized
  subst hsz
  have hD := hD0.self (sz := s.heap.size)
  generalize hAe : va_A (mw_X0 h0 h_f cA_f (f, u, o)) s.heap.size = A at hD ⊢
  have hA : ∀ q : Nat, s.heap.size ≤ q → A q := fun q h => by rw [← hAe]; exact Or.inr h
  have hS : va_S A s.heap s.heap [] := va_S.rf
  have hP : va_P (dC, dI) vwCl [(h0, .inr (0, [.ref h_f, .int u, .int o])), (h_f, .inl (cA_f, 8, .inr (.inl f)))] s.heap := hP
  have hD : va_D A [(h0, .inr (0, [.ref h_f, .int u, .int o])), (h_f, .inl (cA_f, 8, .inr (.inl f)))] := hD
  generalize hT : mf_X0_number f u o p1 p2 p3 = T
  have hF := hT.symm
  unfold mf_X0_number at hF
  have hl := lv_entry ([.ref h0, .int p1, .int p2, .int p3]) (n := 4) (Nat.le_of_ble_eq_true rfl)
  rw [lg_entry_eq]
  generalize (lg_sl ([.ref h0, .int p1, .int p2, .int p3]) ++ List.replicate (4 - (lg_sl ([.ref h0, .int p1, .int p2, .int p3])).length) Slot.unset).toArray = ls at hl ⊢
  have hl : lv_has ls 4 [(0, .ref h0), (1, .int p1), (2, .int p2), (3, .int p3)] := hl
  refine lv_iload_n hx hb dX0_number_0 rfl (lv_at hl 1 rfl) ?_
  refine xj_si (As := [.int p1]) (rest := []) ⟨hx, hb, hml, hown, hts⟩ (mc_X0_isSize l p1) (va_cwS 1 hts gX0_number_X0_isSize rfl rfl rfl (by decide +kernel) ⟨Nat.le_of_ble_eq_true rfl, Nat.le_of_ble_eq_true rfl⟩) hS hA rfl hl.1 rfl (Nat.le_of_ble_eq_true rfl) dX0_number_1 ⟨Nat.zero_le _, Nat.zero_le _⟩ (fun H9 locs9 hk9 hS => ?_)
  have hP := xj_kept hP hk9
  refine lv_topi (fun y1 ey1 => ?_)
  replace hF := xj_bz hF ey1
  refine lv_if_eq (tgt := 14) hx hb dX0_number_4 (by decide) (fun c2 => ?_) (fun c2 => ?_)
  · replace hF := xj_t hF c2
    refine lv_bipush (v := (-5 : Int32)) hx hb dX0_number_14 (by decide) ?_
    exact W.iret (v := (-5 : Int32)) hx hb hr (fun t ht hW => ⟨⟨_, (f, u, o), rfl, hF.symm, by rw [ht]; exact hP, hD⟩, hS.F ht⟩) hS.2.2 dX0_number_16
  · replace hF := xj_f hF c2
    refine lv_iload_n hx hb dX0_number_7 rfl (lv_at hl 3 rfl) ?_
    refine xj_si (As := [.int p3]) (rest := []) ⟨hx, hb, hml, hown, hts⟩ (mc_X0_isRegister l p3) (va_cwS 1 hts gX0_number_X0_isRegister rfl rfl rfl (by decide +kernel) ⟨Nat.le_of_ble_eq_true rfl, Nat.le_of_ble_eq_true rfl⟩) hS hA rfl hl.1 rfl (Nat.le_of_ble_eq_true rfl) dX0_number_8 ⟨Nat.zero_le _, Nat.zero_le _⟩ (fun H9 locs9 hk9 hS => ?_)
    have hP := xj_kept hP hk9
    refine lv_topi (fun y3 ey3 => ?_)
    replace hF := xj_bz hF ey3
    refine lv_if_ne (tgt := 17) hx hb dX0_number_11 (by decide) (fun c4 => ?_) (fun c4 => ?_)
    · replace hF := xj_f hF c4
      refine lv_aload_n hx hb dX0_number_17 rfl (lv_at hl 0 rfl) ?_
      refine lv_iload_n hx hb dX0_number_18 rfl (lv_at hl 1 rfl) ?_
      refine lv_iload_n hx hb dX0_number_19 rfl (lv_at hl 3 rfl) ?_
      refine lv_iload_n hx hb dX0_number_20 rfl (lv_at hl 2 rfl) ?_
      obtain ⟨y6, ey6⟩ : ∃ z : Int32, z = (if 0 ≤ p2 then (0 : Int32) else (1 : Int32)) := ⟨_, rfl⟩
      replace hF := xj_bz hF ey6
      refine xj_join 29 (fun ls' st' => lv_has ls' 4 [(0, .ref h0), (1, .int p1), (2, .int p2), (3, .int p3)] ∧ st' = [.int y6, .int p3, .int p1, .ref h0]) ?_ (fun K29 => ?_)
      · rintro ls st ⟨hl, rfl⟩
        refine lv_sipush (v := (191 : Int32)) hx hb dX0_number_29 (by decide) ?_
        refine lv_iload_n hx hb dX0_number_32 rfl (lv_at hl 2 rfl) ?_
        refine lv_i2l (v := (Int32.toInt64 p2)) hx hb dX0_number_33 rfl ?_
        refine va_mabs_long (x := (Int32.toInt64 p2)) hx hb (by rw [hml]; exact hl.1.symm) hown (hts (.methodLink RX0 63 Lib.MathLoose.abs_long.x) (by decide +kernel)) (hts (.static Lib.MathLoose.abs_long.x) (by decide +kernel)) (hts (.initialized "java/lang/Math") (by decide +kernel)) (hts _ (by decide +kernel)) (Nat.le_of_ble_eq_true rfl) (Nat.le_of_ble_eq_true rfl) (Nat.zero_le _) (Nat.zero_le _) dX0_number_34 ?_
        refine lv_topl (fun y7 ey7 => ?_)
        replace hF := xj_bz hF ey7
        obtain ⟨q8, eq8⟩ : ∃ z : Int32 × (Nat → Int64) × Int32 × Int32, z = (mf_X0_storeRounded f u o p1 p3 y6 (191 : Int32) y7) := ⟨_, rfl⟩
        replace hF := xj_bz hF eq8
        refine xj_vi (r := q8) (As := [.int p1, .int p3, .int y6, .int (191 : Int32), .long y7]) (rest := []) (Wd := mw_X0 h0 h_f cA_f) (wr := []) ⟨hx, hb, hml, hown, hts⟩ (by rw [eq8]; exact mc_X0_storeRounded l dC dI h0 h_f cA_f f u o p1 p3 y6 (191 : Int32) y7 (mr_reg (fun h9 => c4 (ey3.trans h9)))) (cwV 5 hts gX0_number_X0_storeRounded rfl rfl rfl (by decide +kernel) ⟨Nat.le_of_ble_eq_true rfl, Nat.le_of_ble_eq_true rfl⟩) hP hK hD hS hA [0, 1] [] [0] rfl (by decide) rfl (by decide) (by decide) rfl (va_recv hK hP (ci := 0) (q0 := 0) rfl rfl) rfl hl.1 rfl (Nat.le_of_ble_eq_true rfl) dX0_number_37 ⟨Nat.zero_le _, Nat.zero_le _⟩ (fun H9 locs9 hP hD hS => ?_)
        have hP : va_P (dC, dI) vwCl [(h0, .inr (0, [.ref h_f, .int q8.2.2.1, .int q8.2.2.2])), (h_f, .inl (cA_f, 8, .inr (.inl q8.2.1)))] _ := hP
        have hD : va_D A [(h0, .inr (0, [.ref h_f, .int q8.2.2.1, .int q8.2.2.2])), (h_f, .inl (cA_f, 8, .inr (.inl q8.2.1)))] := hD
        exact W.iret (v := q8.1) hx hb hr (fun t ht hW => ⟨⟨_, (q8.2.1, q8.2.2.1, q8.2.2.2), rfl, hF.symm, by rw [ht]; exact hP, hD⟩, hS.F ht⟩) hS.2.2 dX0_number_40
      · refine lv_if_ge (tgt := 28) hx hb dX0_number_21 (by decide) (fun c5 => ?_) (fun c5 => ?_)
        · replace ey6 := xj_t ey6 c5
          refine lv_iconst (v := (0 : Int32)) hx hb dX0_number_28 (by decide) ?_
          subst ey6
          exact K29 _ _ ⟨lv_sub hl [0, 1, 2, 3] rfl, rfl⟩
        · replace ey6 := xj_f ey6 c5
          refine lv_iconst (v := (1 : Int32)) hx hb dX0_number_24 (by decide) ?_
          refine lv_goto (tgt := 29) hx hb dX0_number_25 (by decide) ?_
          subst ey6
          exact K29 _ _ ⟨lv_sub hl [0, 1, 2, 3] rfl, rfl⟩
    · replace hF := xj_t hF c4
      refine lv_bipush (v := (-5 : Int32)) hx hb dX0_number_14 (by decide) ?_
      exact W.iret (v := (-5 : Int32)) hx hb hr (fun t ht hW => ⟨⟨_, (f, u, o), rfl, hF.symm, by rw [ht]; exact hP, hD⟩, hS.F ht⟩) hS.2.2 dX0_number_16
def mf_X0_lost (f : Nat → Int64) (u : Int32) (o : Int32)  : Int32 := o
set_option maxHeartbeats 4000000 in
set_option maxRecDepth 100000 in
theorem mc_X0_lost (l : Launch) (dC : Nat → ClassId) (dI : Nat → Nat → Nat) (h0 h_f : Nat) (cA_f : ClassId) (f : Nat → Int64) (u : Int32) (o : Int32)  (ho : o = 0 ∨ o = 1) : xj_Oi l (dC, dI) vwCl [(cA_f, .long)] (mw_X0 h0 h_f cA_f) yX0_lost wsX0_lost ({ frames := 0, cells := 0, slots := 0, locals := 0 }) [.ref h0] (f, u, o) (mf_X0_lost f u o, (f, u, o)) := by
  intro sz
  refine Met.ofW (cc := cX0_lost) (maxL := 1) (ret := (some .boolean)) (by decide) rfl ?_
  intro p e s m args below meth c s₁ B hml hv
  obtain ⟨rfl, hsz, hP, hK, hD0⟩ := hv
  have hx := B.exec
  have hb := B.bytes
  have hr := B.returns
  have hts := atoms_spec (ws := wsX0_lost) B.pre
  have hown : s.vm.findClass RX0 = some m.cls := findClass_of_methodNamed B.named
  have hlocks := B.notSynchronized
  subst hsz
  have hD := hD0.self (sz := s.heap.size)
  generalize hAe : va_A (mw_X0 h0 h_f cA_f (f, u, o)) s.heap.size = A at hD ⊢
  have hA : ∀ q : Nat, s.heap.size ≤ q → A q := fun q h => by rw [← hAe]; exact Or.inr h
  have hS : va_S A s.heap s.heap [] := va_S.rf
  have hP : va_P (dC, dI) vwCl [(h0, .inr (0, [.ref h_f, .int u, .int o])), (h_f, .inl (cA_f, 8, .inr (.inl f)))] s.heap := hP
  have hD : va_D A [(h0, .inr (0, [.ref h_f, .int u, .int o])), (h_f, .inl (cA_f, 8, .inr (.inl f)))] := hD
  generalize hT : mf_X0_lost f u o = T
  have hF := hT.symm
  unfold mf_X0_lost at hF
  have hl := lv_entry ([.ref h0]) (n := 1) (Nat.le_of_ble_eq_true rfl)
  rw [lg_entry_eq]
  generalize (lg_sl ([.ref h0]) ++ List.replicate (1 - (lg_sl ([.ref h0])).length) Slot.unset).toArray = ls at hl ⊢
  have hl : lv_has ls 1 [(0, .ref h0)] := hl
  refine lv_aload_n hx hb dX0_lost_0 rfl (lv_at hl 0 rfl) ?_
  refine va_get (D := (dC, dI)) (ci := 0) (v := .int o) (C := RX0) (T := TX0) (N := 3) hx hb hts (by decide +kernel) hown hK hP 0 rfl rfl 2 (by decide) (hts (.fieldLink RX0 17 "ExactFloats" "lastWasInexact" "Z") (by decide +kernel)) (fun _ h9 => h9) rfl dX0_lost_1 ?_
  exact W.zret (v := o) hx hb hr (xj_nb (ho)) (fun t ht hW => ⟨⟨_, (f, u, o), rfl, by rw [hF], by rw [ht]; exact hP, hD⟩, hS.F ht⟩) hS.2.2 dX0_lost_4
end
section
theorem xj_ge {y z : Int32} (e : y = z) (h : 0 ≤ y) : 0 ≤ z := e ▸ h
abbrev cY_set : ByteArray := prog_3_method_2_code
def yY_set : MethodName := ⟨RX1, "set", "(IJ)Z"⟩
abbrev cY_get : ByteArray := prog_3_method_3_code
def yY_get : MethodName := ⟨RX1, "get", "(I)J"⟩
abbrev cY_under : ByteArray := prog_3_method_4_code
def yY_under : MethodName := ⟨RX1, "under", "(Z)V"⟩
abbrev cY_isSize : ByteArray := prog_3_method_5_code
def yY_isSize : MethodName := ⟨RX1, "isSize", "(I)Z"⟩
abbrev cY_isRegister : ByteArray := prog_3_method_6_code
def yY_isRegister : MethodName := ⟨RX1, "isRegister", "(I)Z"⟩
abbrev cY_many : ByteArray := prog_3_method_7_code
def yY_many : MethodName := ⟨RX1, "many", "(I)I"⟩
abbrev cY_in : ByteArray := prog_3_method_8_code
def yY_in : MethodName := ⟨RX1, "in", "(II)J"⟩
abbrev cY_isReserved : ByteArray := prog_3_method_9_code
def yY_isReserved : MethodName := ⟨RX1, "isReserved", "(J)Z"⟩
abbrev cY_isZero : ByteArray := prog_3_method_10_code
def yY_isZero : MethodName := ⟨RX1, "isZero", "(J)Z"⟩
abbrev cY_isBelow : ByteArray := prog_3_method_11_code
def yY_isBelow : MethodName := ⟨RX1, "isBelow", "(J)Z"⟩
abbrev cY_take : ByteArray := prog_3_method_12_code
def yY_take : MethodName := ⟨RX1, "take", "(IJ)V"⟩
abbrev cY_rounds : ByteArray := prog_3_method_13_code
def yY_rounds : MethodName := ⟨RX1, "rounds", "(IZJIZ)J"⟩
abbrev cY_flags : ByteArray := prog_3_method_14_code
def yY_flags : MethodName := ⟨RX1, "flags", "(J)I"⟩
abbrev cY_gives : ByteArray := prog_3_method_15_code
def yY_gives : MethodName := ⟨RX1, "gives", "(JI)I"⟩
abbrev cY_other : ByteArray := prog_3_method_16_code
def yY_other : MethodName := ⟨RX1, "other", "(J)J"⟩
abbrev cY_added : ByteArray := prog_3_method_17_code
def yY_added : MethodName := ⟨RX1, "added", "(IJJ)J"⟩
abbrev cY_two : ByteArray := prog_3_method_18_code
def yY_two : MethodName := ⟨RX1, "two", "(IIII)I"⟩
abbrev cY_sum : ByteArray := prog_3_method_19_code
def yY_sum : MethodName := ⟨RX1, "sum", "(IIII)I"⟩
abbrev cY_less : ByteArray := prog_3_method_20_code
def yY_less : MethodName := ⟨RX1, "less", "(IIII)I"⟩
abbrev cY_product : ByteArray := prog_3_method_21_code
def yY_product : MethodName := ⟨RX1, "product", "(IIII)I"⟩
abbrev cY_quotient : ByteArray := prog_3_method_22_code
def yY_quotient : MethodName := ⟨RX1, "quotient", "(IIII)I"⟩
abbrev cY_one : ByteArray := prog_3_method_23_code
def yY_one : MethodName := ⟨RX1, "one", "(III)I"⟩
abbrev cY_negative : ByteArray := prog_3_method_24_code
def yY_negative : MethodName := ⟨RX1, "negative", "(III)I"⟩
abbrev cY_compare : ByteArray := prog_3_method_25_code
def yY_compare : MethodName := ⟨RX1, "compare", "(III)I"⟩
abbrev cY_change : ByteArray := prog_3_method_26_code
def yY_change : MethodName := ⟨RX1, "change", "(III)I"⟩
abbrev cY_whole : ByteArray := prog_3_method_27_code
def yY_whole : MethodName := ⟨RX1, "whole", "(IIIZI)I"⟩
abbrev cY_number : ByteArray := prog_3_method_28_code
def yY_number : MethodName := ⟨RX1, "number", "(III)I"⟩
abbrev cY_lost : ByteArray := prog_3_method_29_code
def yY_lost : MethodName := ⟨RX1, "lost", "()Z"⟩
def waY : List Cond := [.code yY_set cY_set 4 (some .boolean), .code yY_get cY_get 2 (some .long), .code yY_under cY_under 2 none, .code yY_isSize cY_isSize 1 (some .boolean), .code yY_isRegister cY_isRegister 1 (some .boolean), .code yY_many cY_many 1 (some .int), .code yY_in cY_in 3 (some .long), .code yY_isReserved cY_isReserved 2 (some .boolean), .code yY_isZero cY_isZero 2 (some .boolean), .code yY_isBelow cY_isBelow 2 (some .boolean), .code yY_take cY_take 6 none, .code yY_rounds cY_rounds 17 (some .long), .code yY_flags cY_flags 2 (some .int), .code yY_gives cY_gives 4 (some .int), .code yY_other cY_other 2 (some .long), .code yY_added cY_added 26 (some .long), .code yY_two cY_two 5 (some .int), .code yY_sum cY_sum 6 (some .int), .code yY_less cY_less 6 (some .int), .code yY_product cY_product 20 (some .int), .code yY_quotient cY_quotient 16 (some .int), .code yY_one cY_one 4 (some .int), .code yY_negative cY_negative 5 (some .int), .code yY_compare cY_compare 15 (some .int), .code yY_change cY_change 5 (some .int), .code yY_whole cY_whole 13 (some .int), .code yY_number cY_number 6 (some .int), .code yY_lost cY_lost 1 (some .boolean), .initialized RX1, .fieldLink RX1 7 "ExactFloatsModel" "register" "[J", .fieldLink RX1 13 "ExactFloatsModel" "asked" "Z", .constantLong RX1 17 (4294967295 : Int64), .constantLong RX1 19 (65408 : Int64), .constantLong RX1 21 (32768 : Int64), .constantLong RX1 23 (32640 : Int64), .methodLink RX1 25 yY_isBelow, .static yY_isBelow, .fieldLink RX1 29 "ExactFloatsModel" "minus" "Z", .constantLong RX1 32 (255 : Int64), .fieldLink RX1 34 "ExactFloatsModel" "exponent" "I", .constantLong RX1 38 (127 : Int64), .constantLong RX1 40 (65535 : Int64), .constantLong RX1 42 (36028797018963968 : Int64), .fieldLink RX1 44 "ExactFloatsModel" "bits" "J", .fieldLink RX1 48 "ExactFloatsModel" "fault" "I", .fieldLink RX1 51 "ExactFloatsModel" "cut" "Z", .methodLink RX1 54 yY_many, .static yY_many, .constantLong RX1 58 (36028797018963967 : Int64), .methodLink RX1 60 yY_isZero, .static yY_isZero, .fieldLink RX1 63 "ExactFloatsModel" "isLost" "Z", .methodLink RX1 66 yY_flags, .static yY_flags, .methodLink RX1 70 yY_take, .instanceMethod yY_take, .selects RX1 yY_take yY_take, .methodLink RX1 74 yY_rounds, .instanceMethod yY_rounds, .selects RX1 yY_rounds yY_rounds, .methodLink RX1 78 yY_isSize, .static yY_isSize, .methodLink RX1 82 yY_isRegister, .static yY_isRegister, .methodLink RX1 85 yY_in, .instanceMethod yY_in, .selects RX1 yY_in yY_in, .methodLink RX1 89 yY_isReserved, .static yY_isReserved, .methodLink RX1 92 yY_two, .instanceMethod yY_two, .selects RX1 yY_two yY_two, .methodLink RX1 96 yY_added, .instanceMethod yY_added, .selects RX1 yY_added yY_added, .methodLink RX1 100 yY_gives, .instanceMethod yY_gives, .selects RX1 yY_gives yY_gives, .methodLink RX1 104 yY_other, .static yY_other, .constantLong RX1 108 (268435455 : Int64), .constantLong RX1 110 (4194303 : Int64), .methodLink RX1 112 yY_one, .instanceMethod yY_one, .selects RX1 yY_one yY_one, .instanceMethod yY_set, .selects RX1 yY_set yY_set, .instanceMethod yY_get, .selects RX1 yY_get yY_get, .instanceMethod yY_under, .selects RX1 yY_under yY_under, .instanceMethod yY_sum, .selects RX1 yY_sum yY_sum, .instanceMethod yY_less, .selects RX1 yY_less yY_less, .instanceMethod yY_product, .selects RX1 yY_product yY_product, .instanceMethod yY_quotient, .selects RX1 yY_quotient yY_quotient, .instanceMethod yY_negative, .selects RX1 yY_negative yY_negative, .instanceMethod yY_compare, .selects RX1 yY_compare yY_compare, .instanceMethod yY_change, .selects RX1 yY_change yY_change, .instanceMethod yY_whole, .selects RX1 yY_whole yY_whole, .instanceMethod yY_number, .selects RX1 yY_number yY_number, .instanceMethod yY_lost, .selects RX1 yY_lost yY_lost] ++ wsX10
def wsY_set : List Cond := .code yY_set cY_set 4 (some .boolean) :: waY
def wsY_get : List Cond := .code yY_get cY_get 2 (some .long) :: waY
def wsY_under : List Cond := .code yY_under cY_under 2 none :: waY
def wsY_isSize : List Cond := .code yY_isSize cY_isSize 1 (some .boolean) :: waY
def wsY_isRegister : List Cond := .code yY_isRegister cY_isRegister 1 (some .boolean) :: waY
def wsY_many : List Cond := .code yY_many cY_many 1 (some .int) :: waY
def wsY_in : List Cond := .code yY_in cY_in 3 (some .long) :: waY
def wsY_isReserved : List Cond := .code yY_isReserved cY_isReserved 2 (some .boolean) :: waY
def wsY_isZero : List Cond := .code yY_isZero cY_isZero 2 (some .boolean) :: waY
def wsY_isBelow : List Cond := .code yY_isBelow cY_isBelow 2 (some .boolean) :: waY
def wsY_take : List Cond := .code yY_take cY_take 6 none :: waY
def wsY_rounds : List Cond := .code yY_rounds cY_rounds 17 (some .long) :: waY
def wsY_flags : List Cond := .code yY_flags cY_flags 2 (some .int) :: waY
def wsY_gives : List Cond := .code yY_gives cY_gives 4 (some .int) :: waY
def wsY_other : List Cond := .code yY_other cY_other 2 (some .long) :: waY
def wsY_added : List Cond := .code yY_added cY_added 26 (some .long) :: waY
def wsY_two : List Cond := .code yY_two cY_two 5 (some .int) :: waY
def wsY_sum : List Cond := .code yY_sum cY_sum 6 (some .int) :: waY
def wsY_less : List Cond := .code yY_less cY_less 6 (some .int) :: waY
def wsY_product : List Cond := .code yY_product cY_product 20 (some .int) :: waY
def wsY_quotient : List Cond := .code yY_quotient cY_quotient 16 (some .int) :: waY
def wsY_one : List Cond := .code yY_one cY_one 4 (some .int) :: waY
def wsY_negative : List Cond := .code yY_negative cY_negative 5 (some .int) :: waY
def wsY_compare : List Cond := .code yY_compare cY_compare 15 (some .int) :: waY
def wsY_change : List Cond := .code yY_change cY_change 5 (some .int) :: waY
def wsY_whole : List Cond := .code yY_whole cY_whole 13 (some .int) :: waY
def wsY_number : List Cond := .code yY_number cY_number 6 (some .int) :: waY
def wsY_lost : List Cond := .code yY_lost cY_lost 1 (some .boolean) :: waY
abbrev cY_init : ByteArray := cX1_init
abbrev yY_init : MethodName := yX1_init
abbrev wsY_init : List Cond := wsX1_init
theorem inY : ∀ w ∈ wsX10, w ∈ waY := fun w h => List.mem_append_right _ h
theorem mY_0 : (.code yY_set cY_set 4 (some .boolean) : Cond) ∈ waY := List.mem_of_getElem? (i := 0) rfl
theorem mY_1 : (.code yY_get cY_get 2 (some .long) : Cond) ∈ waY := List.mem_of_getElem? (i := 1) rfl
theorem mY_2 : (.code yY_under cY_under 2 none : Cond) ∈ waY := List.mem_of_getElem? (i := 2) rfl
theorem mY_3 : (.code yY_isSize cY_isSize 1 (some .boolean) : Cond) ∈ waY := List.mem_of_getElem? (i := 3) rfl
theorem mY_4 : (.code yY_isRegister cY_isRegister 1 (some .boolean) : Cond) ∈ waY := List.mem_of_getElem? (i := 4) rfl
theorem mY_5 : (.code yY_many cY_many 1 (some .int) : Cond) ∈ waY := List.mem_of_getElem? (i := 5) rfl
theorem mY_6 : (.code yY_in cY_in 3 (some .long) : Cond) ∈ waY := List.mem_of_getElem? (i := 6) rfl
theorem mY_7 : (.code yY_isReserved cY_isReserved 2 (some .boolean) : Cond) ∈ waY := List.mem_of_getElem? (i := 7) rfl
theorem mY_8 : (.code yY_isZero cY_isZero 2 (some .boolean) : Cond) ∈ waY := List.mem_of_getElem? (i := 8) rfl
theorem mY_9 : (.code yY_isBelow cY_isBelow 2 (some .boolean) : Cond) ∈ waY := List.mem_of_getElem? (i := 9) rfl
theorem mY_10 : (.code yY_take cY_take 6 none : Cond) ∈ waY := List.mem_of_getElem? (i := 10) rfl
theorem mY_11 : (.code yY_rounds cY_rounds 17 (some .long) : Cond) ∈ waY := List.mem_of_getElem? (i := 11) rfl
theorem mY_12 : (.code yY_flags cY_flags 2 (some .int) : Cond) ∈ waY := List.mem_of_getElem? (i := 12) rfl
theorem mY_13 : (.code yY_gives cY_gives 4 (some .int) : Cond) ∈ waY := List.mem_of_getElem? (i := 13) rfl
theorem mY_14 : (.code yY_other cY_other 2 (some .long) : Cond) ∈ waY := List.mem_of_getElem? (i := 14) rfl
theorem mY_15 : (.code yY_added cY_added 26 (some .long) : Cond) ∈ waY := List.mem_of_getElem? (i := 15) rfl
theorem mY_16 : (.code yY_two cY_two 5 (some .int) : Cond) ∈ waY := List.mem_of_getElem? (i := 16) rfl
theorem mY_17 : (.code yY_sum cY_sum 6 (some .int) : Cond) ∈ waY := List.mem_of_getElem? (i := 17) rfl
theorem mY_18 : (.code yY_less cY_less 6 (some .int) : Cond) ∈ waY := List.mem_of_getElem? (i := 18) rfl
theorem mY_19 : (.code yY_product cY_product 20 (some .int) : Cond) ∈ waY := List.mem_of_getElem? (i := 19) rfl
theorem mY_20 : (.code yY_quotient cY_quotient 16 (some .int) : Cond) ∈ waY := List.mem_of_getElem? (i := 20) rfl
theorem mY_21 : (.code yY_one cY_one 4 (some .int) : Cond) ∈ waY := List.mem_of_getElem? (i := 21) rfl
theorem mY_22 : (.code yY_negative cY_negative 5 (some .int) : Cond) ∈ waY := List.mem_of_getElem? (i := 22) rfl
theorem mY_23 : (.code yY_compare cY_compare 15 (some .int) : Cond) ∈ waY := List.mem_of_getElem? (i := 23) rfl
theorem mY_24 : (.code yY_change cY_change 5 (some .int) : Cond) ∈ waY := List.mem_of_getElem? (i := 24) rfl
theorem mY_25 : (.code yY_whole cY_whole 13 (some .int) : Cond) ∈ waY := List.mem_of_getElem? (i := 25) rfl
theorem mY_26 : (.code yY_number cY_number 6 (some .int) : Cond) ∈ waY := List.mem_of_getElem? (i := 26) rfl
theorem mY_27 : (.code yY_lost cY_lost 1 (some .boolean) : Cond) ∈ waY := List.mem_of_getElem? (i := 27) rfl
theorem mY_28 : (.initialized RX1 : Cond) ∈ waY := List.mem_of_getElem? (i := 28) rfl
theorem mY_29 : (.fieldLink RX1 7 "ExactFloatsModel" "register" "[J" : Cond) ∈ waY := List.mem_of_getElem? (i := 29) rfl
theorem mY_30 : (.fieldLink RX1 13 "ExactFloatsModel" "asked" "Z" : Cond) ∈ waY := List.mem_of_getElem? (i := 30) rfl
theorem mY_31 : (.constantLong RX1 17 (4294967295 : Int64) : Cond) ∈ waY := List.mem_of_getElem? (i := 31) rfl
theorem mY_32 : (.constantLong RX1 19 (65408 : Int64) : Cond) ∈ waY := List.mem_of_getElem? (i := 32) rfl
theorem mY_33 : (.constantLong RX1 21 (32768 : Int64) : Cond) ∈ waY := List.mem_of_getElem? (i := 33) rfl
theorem mY_34 : (.constantLong RX1 23 (32640 : Int64) : Cond) ∈ waY := List.mem_of_getElem? (i := 34) rfl
theorem mY_35 : (.methodLink RX1 25 yY_isBelow : Cond) ∈ waY := List.mem_of_getElem? (i := 35) rfl
theorem mY_36 : (.static yY_isBelow : Cond) ∈ waY := List.mem_of_getElem? (i := 36) rfl
theorem mY_37 : (.fieldLink RX1 29 "ExactFloatsModel" "minus" "Z" : Cond) ∈ waY := List.mem_of_getElem? (i := 37) rfl
theorem mY_38 : (.constantLong RX1 32 (255 : Int64) : Cond) ∈ waY := List.mem_of_getElem? (i := 38) rfl
theorem mY_39 : (.fieldLink RX1 34 "ExactFloatsModel" "exponent" "I" : Cond) ∈ waY := List.mem_of_getElem? (i := 39) rfl
theorem mY_40 : (.constantLong RX1 38 (127 : Int64) : Cond) ∈ waY := List.mem_of_getElem? (i := 40) rfl
theorem mY_41 : (.constantLong RX1 40 (65535 : Int64) : Cond) ∈ waY := List.mem_of_getElem? (i := 41) rfl
theorem mY_42 : (.constantLong RX1 42 (36028797018963968 : Int64) : Cond) ∈ waY := List.mem_of_getElem? (i := 42) rfl
theorem mY_43 : (.fieldLink RX1 44 "ExactFloatsModel" "bits" "J" : Cond) ∈ waY := List.mem_of_getElem? (i := 43) rfl
theorem mY_44 : (.fieldLink RX1 48 "ExactFloatsModel" "fault" "I" : Cond) ∈ waY := List.mem_of_getElem? (i := 44) rfl
theorem mY_45 : (.fieldLink RX1 51 "ExactFloatsModel" "cut" "Z" : Cond) ∈ waY := List.mem_of_getElem? (i := 45) rfl
theorem mY_46 : (.methodLink RX1 54 yY_many : Cond) ∈ waY := List.mem_of_getElem? (i := 46) rfl
theorem mY_47 : (.static yY_many : Cond) ∈ waY := List.mem_of_getElem? (i := 47) rfl
theorem mY_48 : (.constantLong RX1 58 (36028797018963967 : Int64) : Cond) ∈ waY := List.mem_of_getElem? (i := 48) rfl
theorem mY_49 : (.methodLink RX1 60 yY_isZero : Cond) ∈ waY := List.mem_of_getElem? (i := 49) rfl
theorem mY_50 : (.static yY_isZero : Cond) ∈ waY := List.mem_of_getElem? (i := 50) rfl
theorem mY_51 : (.fieldLink RX1 63 "ExactFloatsModel" "isLost" "Z" : Cond) ∈ waY := List.mem_of_getElem? (i := 51) rfl
theorem mY_52 : (.methodLink RX1 66 yY_flags : Cond) ∈ waY := List.mem_of_getElem? (i := 52) rfl
theorem mY_53 : (.static yY_flags : Cond) ∈ waY := List.mem_of_getElem? (i := 53) rfl
theorem mY_54 : (.methodLink RX1 70 yY_take : Cond) ∈ waY := List.mem_of_getElem? (i := 54) rfl
theorem mY_55 : (.instanceMethod yY_take : Cond) ∈ waY := List.mem_of_getElem? (i := 55) rfl
theorem mY_56 : (.selects RX1 yY_take yY_take : Cond) ∈ waY := List.mem_of_getElem? (i := 56) rfl
theorem mY_57 : (.methodLink RX1 74 yY_rounds : Cond) ∈ waY := List.mem_of_getElem? (i := 57) rfl
theorem mY_58 : (.instanceMethod yY_rounds : Cond) ∈ waY := List.mem_of_getElem? (i := 58) rfl
theorem mY_59 : (.selects RX1 yY_rounds yY_rounds : Cond) ∈ waY := List.mem_of_getElem? (i := 59) rfl
theorem mY_60 : (.methodLink RX1 78 yY_isSize : Cond) ∈ waY := List.mem_of_getElem? (i := 60) rfl
theorem mY_61 : (.static yY_isSize : Cond) ∈ waY := List.mem_of_getElem? (i := 61) rfl
theorem mY_62 : (.methodLink RX1 82 yY_isRegister : Cond) ∈ waY := List.mem_of_getElem? (i := 62) rfl
theorem mY_63 : (.static yY_isRegister : Cond) ∈ waY := List.mem_of_getElem? (i := 63) rfl
theorem mY_64 : (.methodLink RX1 85 yY_in : Cond) ∈ waY := List.mem_of_getElem? (i := 64) rfl
theorem mY_65 : (.instanceMethod yY_in : Cond) ∈ waY := List.mem_of_getElem? (i := 65) rfl
theorem mY_66 : (.selects RX1 yY_in yY_in : Cond) ∈ waY := List.mem_of_getElem? (i := 66) rfl
theorem mY_67 : (.methodLink RX1 89 yY_isReserved : Cond) ∈ waY := List.mem_of_getElem? (i := 67) rfl
theorem mY_68 : (.static yY_isReserved : Cond) ∈ waY := List.mem_of_getElem? (i := 68) rfl
theorem mY_69 : (.methodLink RX1 92 yY_two : Cond) ∈ waY := List.mem_of_getElem? (i := 69) rfl
theorem mY_70 : (.instanceMethod yY_two : Cond) ∈ waY := List.mem_of_getElem? (i := 70) rfl
theorem mY_71 : (.selects RX1 yY_two yY_two : Cond) ∈ waY := List.mem_of_getElem? (i := 71) rfl
theorem mY_72 : (.methodLink RX1 96 yY_added : Cond) ∈ waY := List.mem_of_getElem? (i := 72) rfl
theorem mY_73 : (.instanceMethod yY_added : Cond) ∈ waY := List.mem_of_getElem? (i := 73) rfl
theorem mY_74 : (.selects RX1 yY_added yY_added : Cond) ∈ waY := List.mem_of_getElem? (i := 74) rfl
theorem mY_75 : (.methodLink RX1 100 yY_gives : Cond) ∈ waY := List.mem_of_getElem? (i := 75) rfl
theorem mY_76 : (.instanceMethod yY_gives : Cond) ∈ waY := List.mem_of_getElem? (i := 76) rfl
theorem mY_77 : (.selects RX1 yY_gives yY_gives : Cond) ∈ waY := List.mem_of_getElem? (i := 77) rfl
theorem mY_78 : (.methodLink RX1 104 yY_other : Cond) ∈ waY := List.mem_of_getElem? (i := 78) rfl
theorem mY_79 : (.static yY_other : Cond) ∈ waY := List.mem_of_getElem? (i := 79) rfl
theorem mY_80 : (.constantLong RX1 108 (268435455 : Int64) : Cond) ∈ waY := List.mem_of_getElem? (i := 80) rfl
theorem mY_81 : (.constantLong RX1 110 (4194303 : Int64) : Cond) ∈ waY := List.mem_of_getElem? (i := 81) rfl
theorem mY_82 : (.methodLink RX1 112 yY_one : Cond) ∈ waY := List.mem_of_getElem? (i := 82) rfl
theorem mY_83 : (.instanceMethod yY_one : Cond) ∈ waY := List.mem_of_getElem? (i := 83) rfl
theorem mY_84 : (.selects RX1 yY_one yY_one : Cond) ∈ waY := List.mem_of_getElem? (i := 84) rfl
theorem mY_85 : (.instanceMethod yY_set : Cond) ∈ waY := List.mem_of_getElem? (i := 85) rfl
theorem mY_86 : (.selects RX1 yY_set yY_set : Cond) ∈ waY := List.mem_of_getElem? (i := 86) rfl
theorem mY_87 : (.instanceMethod yY_get : Cond) ∈ waY := List.mem_of_getElem? (i := 87) rfl
theorem mY_88 : (.selects RX1 yY_get yY_get : Cond) ∈ waY := List.mem_of_getElem? (i := 88) rfl
theorem mY_89 : (.instanceMethod yY_under : Cond) ∈ waY := List.mem_of_getElem? (i := 89) rfl
theorem mY_90 : (.selects RX1 yY_under yY_under : Cond) ∈ waY := List.mem_of_getElem? (i := 90) rfl
theorem mY_91 : (.instanceMethod yY_sum : Cond) ∈ waY := List.mem_of_getElem? (i := 91) rfl
theorem mY_92 : (.selects RX1 yY_sum yY_sum : Cond) ∈ waY := List.mem_of_getElem? (i := 92) rfl
theorem mY_93 : (.instanceMethod yY_less : Cond) ∈ waY := List.mem_of_getElem? (i := 93) rfl
theorem mY_94 : (.selects RX1 yY_less yY_less : Cond) ∈ waY := List.mem_of_getElem? (i := 94) rfl
theorem mY_95 : (.instanceMethod yY_product : Cond) ∈ waY := List.mem_of_getElem? (i := 95) rfl
theorem mY_96 : (.selects RX1 yY_product yY_product : Cond) ∈ waY := List.mem_of_getElem? (i := 96) rfl
theorem mY_97 : (.instanceMethod yY_quotient : Cond) ∈ waY := List.mem_of_getElem? (i := 97) rfl
theorem mY_98 : (.selects RX1 yY_quotient yY_quotient : Cond) ∈ waY := List.mem_of_getElem? (i := 98) rfl
theorem mY_99 : (.instanceMethod yY_negative : Cond) ∈ waY := List.mem_of_getElem? (i := 99) rfl
theorem mY_100 : (.selects RX1 yY_negative yY_negative : Cond) ∈ waY := List.mem_of_getElem? (i := 100) rfl
theorem mY_101 : (.instanceMethod yY_compare : Cond) ∈ waY := List.mem_of_getElem? (i := 101) rfl
theorem mY_102 : (.selects RX1 yY_compare yY_compare : Cond) ∈ waY := List.mem_of_getElem? (i := 102) rfl
theorem mY_103 : (.instanceMethod yY_change : Cond) ∈ waY := List.mem_of_getElem? (i := 103) rfl
theorem mY_104 : (.selects RX1 yY_change yY_change : Cond) ∈ waY := List.mem_of_getElem? (i := 104) rfl
theorem mY_105 : (.instanceMethod yY_whole : Cond) ∈ waY := List.mem_of_getElem? (i := 105) rfl
theorem mY_106 : (.selects RX1 yY_whole yY_whole : Cond) ∈ waY := List.mem_of_getElem? (i := 106) rfl
theorem mY_107 : (.instanceMethod yY_number : Cond) ∈ waY := List.mem_of_getElem? (i := 107) rfl
theorem mY_108 : (.selects RX1 yY_number yY_number : Cond) ∈ waY := List.mem_of_getElem? (i := 108) rfl
theorem mY_109 : (.instanceMethod yY_lost : Cond) ∈ waY := List.mem_of_getElem? (i := 109) rfl
theorem mY_110 : (.selects RX1 yY_lost yY_lost : Cond) ∈ waY := List.mem_of_getElem? (i := 110) rfl
set_option maxRecDepth 100000 in
theorem gwY : waY.all goodWord = true := by decide +kernel
theorem gaY : GoodIn waY waY := fun w h => ⟨h, good_of_word (List.all_eq_true.mp gwY w h)⟩
theorem gcY {c0 cd : Cond} {pre : List Cond} (hpre : ∀ w ∈ pre, w ∈ waY) (hcd : cd ∈ waY) : GoodIn (c0 :: waY) (pre ++ (cd :: waY)) := by
  intro w h
  have hw : w ∈ waY := by
    rcases List.mem_append.mp h with h | h
    · exact hpre w h
    · rcases List.mem_cons.mp h with h | h
      · rw [h]; exact hcd
      · exact h
  exact ⟨List.mem_cons_of_mem _ hw, (gaY w hw).2⟩
theorem m4Y {a b c d : Cond} (h1 : a ∈ waY) (h2 : b ∈ waY) (h3 : c ∈ waY) (h4 : d ∈ waY) : ∀ w ∈ [a, b, c, d], w ∈ waY := by
  intro w h
  simp only [List.mem_cons, List.not_mem_nil, or_false] at h
  rcases h with rfl | rfl | rfl | rfl <;> assumption
theorem m3Y {a b c : Cond} (h1 : a ∈ waY) (h2 : b ∈ waY) (h3 : c ∈ waY) : ∀ w ∈ [a, b, c], w ∈ waY := by
  intro w h
  simp only [List.mem_cons, List.not_mem_nil, or_false] at h
  rcases h with rfl | rfl | rfl <;> assumption
theorem gY_isBelow (c0 : Cond) : GoodIn (c0 :: waY) (va_wsS RX1 25 yY_isBelow wsY_isBelow) := gcY (m3Y mY_35 mY_36 mY_28) mY_9
theorem gY_many (c0 : Cond) : GoodIn (c0 :: waY) (va_wsS RX1 54 yY_many wsY_many) := gcY (m3Y mY_46 mY_47 mY_28) mY_5
theorem gY_isZero (c0 : Cond) : GoodIn (c0 :: waY) (va_wsS RX1 60 yY_isZero wsY_isZero) := gcY (m3Y mY_49 mY_50 mY_28) mY_8
theorem gY_flags (c0 : Cond) : GoodIn (c0 :: waY) (va_wsS RX1 66 yY_flags wsY_flags) := gcY (m3Y mY_52 mY_53 mY_28) mY_12
theorem gY_take (c0 : Cond) : GoodIn (c0 :: waY) (wsV RX1 70 RX1 yY_take wsY_take) := gcY (m4Y mY_54 mY_55 mY_56 mY_28) mY_10
theorem gY_rounds (c0 : Cond) : GoodIn (c0 :: waY) (wsV RX1 74 RX1 yY_rounds wsY_rounds) := gcY (m4Y mY_57 mY_58 mY_59 mY_28) mY_11
theorem gY_isSize (c0 : Cond) : GoodIn (c0 :: waY) (va_wsS RX1 78 yY_isSize wsY_isSize) := gcY (m3Y mY_60 mY_61 mY_28) mY_3
theorem gY_isRegister (c0 : Cond) : GoodIn (c0 :: waY) (va_wsS RX1 82 yY_isRegister wsY_isRegister) := gcY (m3Y mY_62 mY_63 mY_28) mY_4
theorem gY_in (c0 : Cond) : GoodIn (c0 :: waY) (wsV RX1 85 RX1 yY_in wsY_in) := gcY (m4Y mY_64 mY_65 mY_66 mY_28) mY_6
theorem gY_isReserved (c0 : Cond) : GoodIn (c0 :: waY) (va_wsS RX1 89 yY_isReserved wsY_isReserved) := gcY (m3Y mY_67 mY_68 mY_28) mY_7
theorem gY_two (c0 : Cond) : GoodIn (c0 :: waY) (wsV RX1 92 RX1 yY_two wsY_two) := gcY (m4Y mY_69 mY_70 mY_71 mY_28) mY_16
theorem gY_added (c0 : Cond) : GoodIn (c0 :: waY) (wsV RX1 96 RX1 yY_added wsY_added) := gcY (m4Y mY_72 mY_73 mY_74 mY_28) mY_15
theorem gY_gives (c0 : Cond) : GoodIn (c0 :: waY) (wsV RX1 100 RX1 yY_gives wsY_gives) := gcY (m4Y mY_75 mY_76 mY_77 mY_28) mY_13
theorem gY_other (c0 : Cond) : GoodIn (c0 :: waY) (va_wsS RX1 104 yY_other wsY_other) := gcY (m3Y mY_78 mY_79 mY_28) mY_14
theorem gY_one (c0 : Cond) : GoodIn (c0 :: waY) (wsV RX1 112 RX1 yY_one wsY_one) := gcY (m4Y mY_82 mY_83 mY_84 mY_28) mY_21
end
section
theorem dY_init_0 : decode cY_init 0 = .ok (.aload_n 0, 1) := by decide +kernel
theorem dY_init_1 : decode cY_init 1 = .ok (.invokespecial 1, 3) := by decide +kernel
theorem dY_init_4 : decode cY_init 4 = .ok (.aload_n 0, 1) := by decide +kernel
theorem dY_init_5 : decode cY_init 5 = .ok (.bipush 8, 2) := by decide +kernel
theorem dY_init_7 : decode cY_init 7 = .ok (.newarray .long, 2) := by decide +kernel
theorem dY_init_9 : decode cY_init 9 = .ok (.putfield 7, 3) := by decide +kernel
theorem dY_init_12 : decode cY_init 12 = .ok (.return_, 1) := by decide +kernel
theorem dY_set_0 : decode cY_set 0 = .ok (.iload_n 1, 1) := by decide +kernel
theorem dY_set_1 : decode cY_set 1 = .ok (.ifCond .lt 9, 3) := by decide +kernel
theorem dY_set_4 : decode cY_set 4 = .ok (.iload_n 1, 1) := by decide +kernel
theorem dY_set_5 : decode cY_set 5 = .ok (.bipush 7, 2) := by decide +kernel
theorem dY_set_7 : decode cY_set 7 = .ok (.if_icmp .le 5, 3) := by decide +kernel
theorem dY_set_10 : decode cY_set 10 = .ok (.iconst 0, 1) := by decide +kernel
theorem dY_set_11 : decode cY_set 11 = .ok (.ireturn, 1) := by decide +kernel
theorem dY_set_12 : decode cY_set 12 = .ok (.aload_n 0, 1) := by decide +kernel
theorem dY_set_13 : decode cY_set 13 = .ok (.getfield 7, 3) := by decide +kernel
theorem dY_set_16 : decode cY_set 16 = .ok (.iload_n 1, 1) := by decide +kernel
theorem dY_set_17 : decode cY_set 17 = .ok (.lload_n 2, 1) := by decide +kernel
theorem dY_set_18 : decode cY_set 18 = .ok (.lastore, 1) := by decide +kernel
theorem dY_set_19 : decode cY_set 19 = .ok (.iconst 1, 1) := by decide +kernel
theorem dY_set_20 : decode cY_set 20 = .ok (.ireturn, 1) := by decide +kernel
theorem dY_get_0 : decode cY_get 0 = .ok (.iload_n 1, 1) := by decide +kernel
theorem dY_get_1 : decode cY_get 1 = .ok (.ifCond .lt 9, 3) := by decide +kernel
theorem dY_get_4 : decode cY_get 4 = .ok (.iload_n 1, 1) := by decide +kernel
theorem dY_get_5 : decode cY_get 5 = .ok (.bipush 7, 2) := by decide +kernel
theorem dY_get_7 : decode cY_get 7 = .ok (.if_icmp .le 7, 3) := by decide +kernel
theorem dY_get_10 : decode cY_get 10 = .ok (.lconst 0, 1) := by decide +kernel
theorem dY_get_11 : decode cY_get 11 = .ok (.goto 9, 3) := by decide +kernel
theorem dY_get_14 : decode cY_get 14 = .ok (.aload_n 0, 1) := by decide +kernel
theorem dY_get_15 : decode cY_get 15 = .ok (.getfield 7, 3) := by decide +kernel
theorem dY_get_18 : decode cY_get 18 = .ok (.iload_n 1, 1) := by decide +kernel
theorem dY_get_19 : decode cY_get 19 = .ok (.laload, 1) := by decide +kernel
theorem dY_get_20 : decode cY_get 20 = .ok (.lreturn, 1) := by decide +kernel
theorem dY_under_0 : decode cY_under 0 = .ok (.aload_n 0, 1) := by decide +kernel
theorem dY_under_1 : decode cY_under 1 = .ok (.iload_n 1, 1) := by decide +kernel
theorem dY_under_2 : decode cY_under 2 = .ok (.putfield 13, 3) := by decide +kernel
theorem dY_under_5 : decode cY_under 5 = .ok (.return_, 1) := by decide +kernel
theorem dY_isSize_0 : decode cY_isSize 0 = .ok (.iload_n 0, 1) := by decide +kernel
theorem dY_isSize_1 : decode cY_isSize 1 = .ok (.iconst 4, 1) := by decide +kernel
theorem dY_isSize_2 : decode cY_isSize 2 = .ok (.if_icmp .eq 9, 3) := by decide +kernel
theorem dY_isSize_5 : decode cY_isSize 5 = .ok (.iload_n 0, 1) := by decide +kernel
theorem dY_isSize_6 : decode cY_isSize 6 = .ok (.bipush 8, 2) := by decide +kernel
theorem dY_isSize_8 : decode cY_isSize 8 = .ok (.if_icmp .ne 7, 3) := by decide +kernel
theorem dY_isSize_11 : decode cY_isSize 11 = .ok (.iconst 1, 1) := by decide +kernel
theorem dY_isSize_12 : decode cY_isSize 12 = .ok (.goto 4, 3) := by decide +kernel
theorem dY_isSize_15 : decode cY_isSize 15 = .ok (.iconst 0, 1) := by decide +kernel
theorem dY_isSize_16 : decode cY_isSize 16 = .ok (.ireturn, 1) := by decide +kernel
theorem dY_isRegister_0 : decode cY_isRegister 0 = .ok (.iload_n 0, 1) := by decide +kernel
theorem dY_isRegister_1 : decode cY_isRegister 1 = .ok (.ifCond .lt 13, 3) := by decide +kernel
theorem dY_isRegister_4 : decode cY_isRegister 4 = .ok (.iload_n 0, 1) := by decide +kernel
theorem dY_isRegister_5 : decode cY_isRegister 5 = .ok (.bipush 7, 2) := by decide +kernel
theorem dY_isRegister_7 : decode cY_isRegister 7 = .ok (.if_icmp .gt 7, 3) := by decide +kernel
theorem dY_isRegister_10 : decode cY_isRegister 10 = .ok (.iconst 1, 1) := by decide +kernel
theorem dY_isRegister_11 : decode cY_isRegister 11 = .ok (.goto 4, 3) := by decide +kernel
theorem dY_isRegister_14 : decode cY_isRegister 14 = .ok (.iconst 0, 1) := by decide +kernel
theorem dY_isRegister_15 : decode cY_isRegister 15 = .ok (.ireturn, 1) := by decide +kernel
theorem dY_many_0 : decode cY_many 0 = .ok (.iload_n 0, 1) := by decide +kernel
theorem dY_many_1 : decode cY_many 1 = .ok (.bipush 8, 2) := by decide +kernel
theorem dY_many_3 : decode cY_many 3 = .ok (.if_icmp .ne 8, 3) := by decide +kernel
theorem dY_many_6 : decode cY_many 6 = .ok (.bipush 56, 2) := by decide +kernel
theorem dY_many_8 : decode cY_many 8 = .ok (.goto 5, 3) := by decide +kernel
theorem dY_many_11 : decode cY_many 11 = .ok (.bipush 24, 2) := by decide +kernel
theorem dY_many_13 : decode cY_many 13 = .ok (.ireturn, 1) := by decide +kernel
theorem dY_in_0 : decode cY_in 0 = .ok (.iload_n 1, 1) := by decide +kernel
theorem dY_in_1 : decode cY_in 1 = .ok (.bipush 8, 2) := by decide +kernel
theorem dY_in_3 : decode cY_in 3 = .ok (.if_icmp .ne 12, 3) := by decide +kernel
theorem dY_in_6 : decode cY_in 6 = .ok (.aload_n 0, 1) := by decide +kernel
theorem dY_in_7 : decode cY_in 7 = .ok (.getfield 7, 3) := by decide +kernel
theorem dY_in_10 : decode cY_in 10 = .ok (.iload_n 2, 1) := by decide +kernel
theorem dY_in_11 : decode cY_in 11 = .ok (.laload, 1) := by decide +kernel
theorem dY_in_12 : decode cY_in 12 = .ok (.goto 13, 3) := by decide +kernel
theorem dY_in_15 : decode cY_in 15 = .ok (.aload_n 0, 1) := by decide +kernel
theorem dY_in_16 : decode cY_in 16 = .ok (.getfield 7, 3) := by decide +kernel
theorem dY_in_19 : decode cY_in 19 = .ok (.iload_n 2, 1) := by decide +kernel
theorem dY_in_20 : decode cY_in 20 = .ok (.laload, 1) := by decide +kernel
theorem dY_in_21 : decode cY_in 21 = .ok (.ldc2_w 17, 3) := by decide +kernel
theorem dY_in_24 : decode cY_in 24 = .ok (.land, 1) := by decide +kernel
theorem dY_in_25 : decode cY_in 25 = .ok (.lreturn, 1) := by decide +kernel
theorem dY_isReserved_0 : decode cY_isReserved 0 = .ok (.lload_n 0, 1) := by decide +kernel
theorem dY_isReserved_1 : decode cY_isReserved 1 = .ok (.ldc2_w 19, 3) := by decide +kernel
theorem dY_isReserved_4 : decode cY_isReserved 4 = .ok (.land, 1) := by decide +kernel
theorem dY_isReserved_5 : decode cY_isReserved 5 = .ok (.ldc2_w 21, 3) := by decide +kernel
theorem dY_isReserved_8 : decode cY_isReserved 8 = .ok (.lcmp, 1) := by decide +kernel
theorem dY_isReserved_9 : decode cY_isReserved 9 = .ok (.ifCond .ne 7, 3) := by decide +kernel
theorem dY_isReserved_12 : decode cY_isReserved 12 = .ok (.iconst 1, 1) := by decide +kernel
theorem dY_isReserved_13 : decode cY_isReserved 13 = .ok (.goto 4, 3) := by decide +kernel
theorem dY_isReserved_16 : decode cY_isReserved 16 = .ok (.iconst 0, 1) := by decide +kernel
theorem dY_isReserved_17 : decode cY_isReserved 17 = .ok (.ireturn, 1) := by decide +kernel
theorem dY_isZero_0 : decode cY_isZero 0 = .ok (.lload_n 0, 1) := by decide +kernel
theorem dY_isZero_1 : decode cY_isZero 1 = .ok (.ldc2_w 23, 3) := by decide +kernel
theorem dY_isZero_4 : decode cY_isZero 4 = .ok (.land, 1) := by decide +kernel
theorem dY_isZero_5 : decode cY_isZero 5 = .ok (.lconst 0, 1) := by decide +kernel
theorem dY_isZero_6 : decode cY_isZero 6 = .ok (.lcmp, 1) := by decide +kernel
theorem dY_isZero_7 : decode cY_isZero 7 = .ok (.ifCond .ne 7, 3) := by decide +kernel
theorem dY_isZero_10 : decode cY_isZero 10 = .ok (.iconst 1, 1) := by decide +kernel
theorem dY_isZero_11 : decode cY_isZero 11 = .ok (.goto 4, 3) := by decide +kernel
theorem dY_isZero_14 : decode cY_isZero 14 = .ok (.iconst 0, 1) := by decide +kernel
theorem dY_isZero_15 : decode cY_isZero 15 = .ok (.ireturn, 1) := by decide +kernel
theorem dY_isBelow_0 : decode cY_isBelow 0 = .ok (.lload_n 0, 1) := by decide +kernel
theorem dY_isBelow_1 : decode cY_isBelow 1 = .ok (.ldc2_w 21, 3) := by decide +kernel
theorem dY_isBelow_4 : decode cY_isBelow 4 = .ok (.land, 1) := by decide +kernel
theorem dY_isBelow_5 : decode cY_isBelow 5 = .ok (.lconst 0, 1) := by decide +kernel
theorem dY_isBelow_6 : decode cY_isBelow 6 = .ok (.lcmp, 1) := by decide +kernel
theorem dY_isBelow_7 : decode cY_isBelow 7 = .ok (.ifCond .eq 7, 3) := by decide +kernel
theorem dY_isBelow_10 : decode cY_isBelow 10 = .ok (.iconst 1, 1) := by decide +kernel
theorem dY_isBelow_11 : decode cY_isBelow 11 = .ok (.goto 4, 3) := by decide +kernel
theorem dY_isBelow_14 : decode cY_isBelow 14 = .ok (.iconst 0, 1) := by decide +kernel
theorem dY_isBelow_15 : decode cY_isBelow 15 = .ok (.ireturn, 1) := by decide +kernel
theorem dY_take_0 : decode cY_take 0 = .ok (.aload_n 0, 1) := by decide +kernel
theorem dY_take_1 : decode cY_take 1 = .ok (.lload_n 2, 1) := by decide +kernel
theorem dY_take_2 : decode cY_take 2 = .ok (.invokestatic 25, 3) := by decide +kernel
theorem dY_take_5 : decode cY_take 5 = .ok (.putfield 29, 3) := by decide +kernel
theorem dY_take_8 : decode cY_take 8 = .ok (.aload_n 0, 1) := by decide +kernel
theorem dY_take_9 : decode cY_take 9 = .ok (.lload_n 2, 1) := by decide +kernel
theorem dY_take_10 : decode cY_take 10 = .ok (.bipush 7, 2) := by decide +kernel
theorem dY_take_12 : decode cY_take 12 = .ok (.lshr, 1) := by decide +kernel
theorem dY_take_13 : decode cY_take 13 = .ok (.ldc2_w 32, 3) := by decide +kernel
theorem dY_take_16 : decode cY_take 16 = .ok (.land, 1) := by decide +kernel
theorem dY_take_17 : decode cY_take 17 = .ok (.l2i, 1) := by decide +kernel
theorem dY_take_18 : decode cY_take 18 = .ok (.putfield 34, 3) := by decide +kernel
theorem dY_take_21 : decode cY_take 21 = .ok (.lload_n 2, 1) := by decide +kernel
theorem dY_take_22 : decode cY_take 22 = .ok (.ldc2_w 38, 3) := by decide +kernel
theorem dY_take_25 : decode cY_take 25 = .ok (.land, 1) := by decide +kernel
theorem dY_take_26 : decode cY_take 26 = .ok (.bipush 48, 2) := by decide +kernel
theorem dY_take_28 : decode cY_take 28 = .ok (.lshl, 1) := by decide +kernel
theorem dY_take_29 : decode cY_take 29 = .ok (.lload_n 2, 1) := by decide +kernel
theorem dY_take_30 : decode cY_take 30 = .ok (.bipush 16, 2) := by decide +kernel
theorem dY_take_32 : decode cY_take 32 = .ok (.lshr, 1) := by decide +kernel
theorem dY_take_33 : decode cY_take 33 = .ok (.ldc2_w 40, 3) := by decide +kernel
theorem dY_take_36 : decode cY_take 36 = .ok (.land, 1) := by decide +kernel
theorem dY_take_37 : decode cY_take 37 = .ok (.bipush 32, 2) := by decide +kernel
theorem dY_take_39 : decode cY_take 39 = .ok (.lshl, 1) := by decide +kernel
theorem dY_take_40 : decode cY_take 40 = .ok (.lor, 1) := by decide +kernel
theorem dY_take_41 : decode cY_take 41 = .ok (.lstore 4, 2) := by decide +kernel
theorem dY_take_43 : decode cY_take 43 = .ok (.iload_n 1, 1) := by decide +kernel
theorem dY_take_44 : decode cY_take 44 = .ok (.bipush 8, 2) := by decide +kernel
theorem dY_take_46 : decode cY_take 46 = .ok (.if_icmp .ne 28, 3) := by decide +kernel
theorem dY_take_49 : decode cY_take 49 = .ok (.lload 4, 2) := by decide +kernel
theorem dY_take_51 : decode cY_take 51 = .ok (.lload_n 2, 1) := by decide +kernel
theorem dY_take_52 : decode cY_take 52 = .ok (.bipush 32, 2) := by decide +kernel
theorem dY_take_54 : decode cY_take 54 = .ok (.lshr, 1) := by decide +kernel
theorem dY_take_55 : decode cY_take 55 = .ok (.ldc2_w 40, 3) := by decide +kernel
theorem dY_take_58 : decode cY_take 58 = .ok (.land, 1) := by decide +kernel
theorem dY_take_59 : decode cY_take 59 = .ok (.bipush 16, 2) := by decide +kernel
theorem dY_take_61 : decode cY_take 61 = .ok (.lshl, 1) := by decide +kernel
theorem dY_take_62 : decode cY_take 62 = .ok (.lor, 1) := by decide +kernel
theorem dY_take_63 : decode cY_take 63 = .ok (.lload_n 2, 1) := by decide +kernel
theorem dY_take_64 : decode cY_take 64 = .ok (.bipush 48, 2) := by decide +kernel
theorem dY_take_66 : decode cY_take 66 = .ok (.lshr, 1) := by decide +kernel
theorem dY_take_67 : decode cY_take 67 = .ok (.ldc2_w 40, 3) := by decide +kernel
theorem dY_take_70 : decode cY_take 70 = .ok (.land, 1) := by decide +kernel
theorem dY_take_71 : decode cY_take 71 = .ok (.lor, 1) := by decide +kernel
theorem dY_take_72 : decode cY_take 72 = .ok (.lstore 4, 2) := by decide +kernel
theorem dY_take_74 : decode cY_take 74 = .ok (.aload_n 0, 1) := by decide +kernel
theorem dY_take_75 : decode cY_take 75 = .ok (.aload_n 0, 1) := by decide +kernel
theorem dY_take_76 : decode cY_take 76 = .ok (.getfield 34, 3) := by decide +kernel
theorem dY_take_79 : decode cY_take 79 = .ok (.ifCond .ne 7, 3) := by decide +kernel
theorem dY_take_82 : decode cY_take 82 = .ok (.lconst 0, 1) := by decide +kernel
theorem dY_take_83 : decode cY_take 83 = .ok (.goto 9, 3) := by decide +kernel
theorem dY_take_86 : decode cY_take 86 = .ok (.ldc2_w 42, 3) := by decide +kernel
theorem dY_take_89 : decode cY_take 89 = .ok (.lload 4, 2) := by decide +kernel
theorem dY_take_91 : decode cY_take 91 = .ok (.lor, 1) := by decide +kernel
theorem dY_take_92 : decode cY_take 92 = .ok (.putfield 44, 3) := by decide +kernel
theorem dY_take_95 : decode cY_take 95 = .ok (.return_, 1) := by decide +kernel
theorem dY_rounds_0 : decode cY_rounds 0 = .ok (.aload_n 0, 1) := by decide +kernel
theorem dY_rounds_1 : decode cY_rounds 1 = .ok (.iconst 0, 1) := by decide +kernel
theorem dY_rounds_2 : decode cY_rounds 2 = .ok (.putfield 48, 3) := by decide +kernel
theorem dY_rounds_5 : decode cY_rounds 5 = .ok (.aload_n 0, 1) := by decide +kernel
theorem dY_rounds_6 : decode cY_rounds 6 = .ok (.iconst 0, 1) := by decide +kernel
theorem dY_rounds_7 : decode cY_rounds 7 = .ok (.putfield 51, 3) := by decide +kernel
theorem dY_rounds_10 : decode cY_rounds 10 = .ok (.lload_n 3, 1) := by decide +kernel
theorem dY_rounds_11 : decode cY_rounds 11 = .ok (.lconst 0, 1) := by decide +kernel
theorem dY_rounds_12 : decode cY_rounds 12 = .ok (.lcmp, 1) := by decide +kernel
theorem dY_rounds_13 : decode cY_rounds 13 = .ok (.ifCond .ne 5, 3) := by decide +kernel
theorem dY_rounds_16 : decode cY_rounds 16 = .ok (.lconst 0, 1) := by decide +kernel
theorem dY_rounds_17 : decode cY_rounds 17 = .ok (.lreturn, 1) := by decide +kernel
theorem dY_rounds_18 : decode cY_rounds 18 = .ok (.iload_n 1, 1) := by decide +kernel
theorem dY_rounds_19 : decode cY_rounds 19 = .ok (.invokestatic 54, 3) := by decide +kernel
theorem dY_rounds_22 : decode cY_rounds 22 = .ok (.istore 7, 2) := by decide +kernel
theorem dY_rounds_24 : decode cY_rounds 24 = .ok (.iconst 0, 1) := by decide +kernel
theorem dY_rounds_25 : decode cY_rounds 25 = .ok (.istore 8, 2) := by decide +kernel
theorem dY_rounds_27 : decode cY_rounds 27 = .ok (.iload 8, 2) := by decide +kernel
theorem dY_rounds_29 : decode cY_rounds 29 = .ok (.bipush 63, 2) := by decide +kernel
theorem dY_rounds_31 : decode cY_rounds 31 = .ok (.if_icmp .ge 18, 3) := by decide +kernel
theorem dY_rounds_34 : decode cY_rounds 34 = .ok (.lload_n 3, 1) := by decide +kernel
theorem dY_rounds_35 : decode cY_rounds 35 = .ok (.iload 8, 2) := by decide +kernel
theorem dY_rounds_37 : decode cY_rounds 37 = .ok (.lshr, 1) := by decide +kernel
theorem dY_rounds_38 : decode cY_rounds 38 = .ok (.lconst 0, 1) := by decide +kernel
theorem dY_rounds_39 : decode cY_rounds 39 = .ok (.lcmp, 1) := by decide +kernel
theorem dY_rounds_40 : decode cY_rounds 40 = .ok (.ifCond .eq 9, 3) := by decide +kernel
theorem dY_rounds_43 : decode cY_rounds 43 = .ok (.iinc 8 1, 3) := by decide +kernel
theorem dY_rounds_46 : decode cY_rounds 46 = .ok (.goto (-19), 3) := by decide +kernel
theorem dY_rounds_49 : decode cY_rounds 49 = .ok (.iload 8, 2) := by decide +kernel
theorem dY_rounds_51 : decode cY_rounds 51 = .ok (.iload 7, 2) := by decide +kernel
theorem dY_rounds_53 : decode cY_rounds 53 = .ok (.isub, 1) := by decide +kernel
theorem dY_rounds_54 : decode cY_rounds 54 = .ok (.istore 9, 2) := by decide +kernel
theorem dY_rounds_56 : decode cY_rounds 56 = .ok (.iload 9, 2) := by decide +kernel
theorem dY_rounds_58 : decode cY_rounds 58 = .ok (.ifCond .le 48, 3) := by decide +kernel
theorem dY_rounds_61 : decode cY_rounds 61 = .ok (.lload_n 3, 1) := by decide +kernel
theorem dY_rounds_62 : decode cY_rounds 62 = .ok (.iload 9, 2) := by decide +kernel
theorem dY_rounds_64 : decode cY_rounds 64 = .ok (.lshr, 1) := by decide +kernel
theorem dY_rounds_65 : decode cY_rounds 65 = .ok (.lload_n 3, 1) := by decide +kernel
theorem dY_rounds_66 : decode cY_rounds 66 = .ok (.iload 9, 2) := by decide +kernel
theorem dY_rounds_68 : decode cY_rounds 68 = .ok (.iconst 1, 1) := by decide +kernel
theorem dY_rounds_69 : decode cY_rounds 69 = .ok (.isub, 1) := by decide +kernel
theorem dY_rounds_70 : decode cY_rounds 70 = .ok (.lshr, 1) := by decide +kernel
theorem dY_rounds_71 : decode cY_rounds 71 = .ok (.lconst 1, 1) := by decide +kernel
theorem dY_rounds_72 : decode cY_rounds 72 = .ok (.land, 1) := by decide +kernel
theorem dY_rounds_73 : decode cY_rounds 73 = .ok (.ladd, 1) := by decide +kernel
theorem dY_rounds_74 : decode cY_rounds 74 = .ok (.lstore 10, 2) := by decide +kernel
theorem dY_rounds_76 : decode cY_rounds 76 = .ok (.aload_n 0, 1) := by decide +kernel
theorem dY_rounds_77 : decode cY_rounds 77 = .ok (.iload 6, 2) := by decide +kernel
theorem dY_rounds_79 : decode cY_rounds 79 = .ok (.ifCond .ne 16, 3) := by decide +kernel
theorem dY_rounds_82 : decode cY_rounds 82 = .ok (.lload_n 3, 1) := by decide +kernel
theorem dY_rounds_83 : decode cY_rounds 83 = .ok (.lconst 1, 1) := by decide +kernel
theorem dY_rounds_84 : decode cY_rounds 84 = .ok (.iload 9, 2) := by decide +kernel
theorem dY_rounds_86 : decode cY_rounds 86 = .ok (.lshl, 1) := by decide +kernel
theorem dY_rounds_87 : decode cY_rounds 87 = .ok (.lconst 1, 1) := by decide +kernel
theorem dY_rounds_88 : decode cY_rounds 88 = .ok (.lsub, 1) := by decide +kernel
theorem dY_rounds_89 : decode cY_rounds 89 = .ok (.land, 1) := by decide +kernel
theorem dY_rounds_90 : decode cY_rounds 90 = .ok (.lconst 0, 1) := by decide +kernel
theorem dY_rounds_91 : decode cY_rounds 91 = .ok (.lcmp, 1) := by decide +kernel
theorem dY_rounds_92 : decode cY_rounds 92 = .ok (.ifCond .eq 7, 3) := by decide +kernel
theorem dY_rounds_95 : decode cY_rounds 95 = .ok (.iconst 1, 1) := by decide +kernel
theorem dY_rounds_96 : decode cY_rounds 96 = .ok (.goto 4, 3) := by decide +kernel
theorem dY_rounds_99 : decode cY_rounds 99 = .ok (.iconst 0, 1) := by decide +kernel
theorem dY_rounds_100 : decode cY_rounds 100 = .ok (.putfield 51, 3) := by decide +kernel
theorem dY_rounds_103 : decode cY_rounds 103 = .ok (.goto 16, 3) := by decide +kernel
theorem dY_rounds_106 : decode cY_rounds 106 = .ok (.lload_n 3, 1) := by decide +kernel
theorem dY_rounds_107 : decode cY_rounds 107 = .ok (.iload 9, 2) := by decide +kernel
theorem dY_rounds_109 : decode cY_rounds 109 = .ok (.ineg, 1) := by decide +kernel
theorem dY_rounds_110 : decode cY_rounds 110 = .ok (.lshl, 1) := by decide +kernel
theorem dY_rounds_111 : decode cY_rounds 111 = .ok (.lstore 10, 2) := by decide +kernel
theorem dY_rounds_113 : decode cY_rounds 113 = .ok (.aload_n 0, 1) := by decide +kernel
theorem dY_rounds_114 : decode cY_rounds 114 = .ok (.iload 6, 2) := by decide +kernel
theorem dY_rounds_116 : decode cY_rounds 116 = .ok (.putfield 51, 3) := by decide +kernel
theorem dY_rounds_119 : decode cY_rounds 119 = .ok (.lload 10, 2) := by decide +kernel
theorem dY_rounds_121 : decode cY_rounds 121 = .ok (.iload 7, 2) := by decide +kernel
theorem dY_rounds_123 : decode cY_rounds 123 = .ok (.lshr, 1) := by decide +kernel
theorem dY_rounds_124 : decode cY_rounds 124 = .ok (.lconst 0, 1) := by decide +kernel
theorem dY_rounds_125 : decode cY_rounds 125 = .ok (.lcmp, 1) := by decide +kernel
theorem dY_rounds_126 : decode cY_rounds 126 = .ok (.ifCond .eq 12, 3) := by decide +kernel
theorem dY_rounds_129 : decode cY_rounds 129 = .ok (.lload 10, 2) := by decide +kernel
theorem dY_rounds_131 : decode cY_rounds 131 = .ok (.iconst 1, 1) := by decide +kernel
theorem dY_rounds_132 : decode cY_rounds 132 = .ok (.lshr, 1) := by decide +kernel
theorem dY_rounds_133 : decode cY_rounds 133 = .ok (.lstore 10, 2) := by decide +kernel
theorem dY_rounds_135 : decode cY_rounds 135 = .ok (.iinc 9 1, 3) := by decide +kernel
theorem dY_rounds_138 : decode cY_rounds 138 = .ok (.iload 5, 2) := by decide +kernel
theorem dY_rounds_140 : decode cY_rounds 140 = .ok (.iload 9, 2) := by decide +kernel
theorem dY_rounds_142 : decode cY_rounds 142 = .ok (.iadd, 1) := by decide +kernel
theorem dY_rounds_143 : decode cY_rounds 143 = .ok (.iload 7, 2) := by decide +kernel
theorem dY_rounds_145 : decode cY_rounds 145 = .ok (.iadd, 1) := by decide +kernel
theorem dY_rounds_146 : decode cY_rounds 146 = .ok (.sipush 128, 3) := by decide +kernel
theorem dY_rounds_149 : decode cY_rounds 149 = .ok (.iadd, 1) := by decide +kernel
theorem dY_rounds_150 : decode cY_rounds 150 = .ok (.istore 12, 2) := by decide +kernel
theorem dY_rounds_152 : decode cY_rounds 152 = .ok (.iload 12, 2) := by decide +kernel
theorem dY_rounds_154 : decode cY_rounds 154 = .ok (.sipush 255, 3) := by decide +kernel
theorem dY_rounds_157 : decode cY_rounds 157 = .ok (.if_icmp .le 11, 3) := by decide +kernel
theorem dY_rounds_160 : decode cY_rounds 160 = .ok (.aload_n 0, 1) := by decide +kernel
theorem dY_rounds_161 : decode cY_rounds 161 = .ok (.bipush (-2), 2) := by decide +kernel
theorem dY_rounds_163 : decode cY_rounds 163 = .ok (.putfield 48, 3) := by decide +kernel
theorem dY_rounds_166 : decode cY_rounds 166 = .ok (.lconst 0, 1) := by decide +kernel
theorem dY_rounds_167 : decode cY_rounds 167 = .ok (.lreturn, 1) := by decide +kernel
theorem dY_rounds_168 : decode cY_rounds 168 = .ok (.iload 12, 2) := by decide +kernel
theorem dY_rounds_170 : decode cY_rounds 170 = .ok (.iconst 1, 1) := by decide +kernel
theorem dY_rounds_171 : decode cY_rounds 171 = .ok (.if_icmp .ge 23, 3) := by decide +kernel
theorem dY_rounds_174 : decode cY_rounds 174 = .ok (.aload_n 0, 1) := by decide +kernel
theorem dY_rounds_175 : decode cY_rounds 175 = .ok (.getfield 13, 3) := by decide +kernel
theorem dY_rounds_178 : decode cY_rounds 178 = .ok (.ifCond .eq 9, 3) := by decide +kernel
theorem dY_rounds_181 : decode cY_rounds 181 = .ok (.aload_n 0, 1) := by decide +kernel
theorem dY_rounds_182 : decode cY_rounds 182 = .ok (.bipush (-3), 2) := by decide +kernel
theorem dY_rounds_184 : decode cY_rounds 184 = .ok (.putfield 48, 3) := by decide +kernel
theorem dY_rounds_187 : decode cY_rounds 187 = .ok (.aload_n 0, 1) := by decide +kernel
theorem dY_rounds_188 : decode cY_rounds 188 = .ok (.iconst 1, 1) := by decide +kernel
theorem dY_rounds_189 : decode cY_rounds 189 = .ok (.putfield 51, 3) := by decide +kernel
theorem dY_rounds_192 : decode cY_rounds 192 = .ok (.lconst 0, 1) := by decide +kernel
theorem dY_rounds_193 : decode cY_rounds 193 = .ok (.lreturn, 1) := by decide +kernel
theorem dY_rounds_194 : decode cY_rounds 194 = .ok (.iload_n 1, 1) := by decide +kernel
theorem dY_rounds_195 : decode cY_rounds 195 = .ok (.bipush 8, 2) := by decide +kernel
theorem dY_rounds_197 : decode cY_rounds 197 = .ok (.if_icmp .ne 8, 3) := by decide +kernel
theorem dY_rounds_200 : decode cY_rounds 200 = .ok (.lload 10, 2) := by decide +kernel
theorem dY_rounds_202 : decode cY_rounds 202 = .ok (.goto 8, 3) := by decide +kernel
theorem dY_rounds_205 : decode cY_rounds 205 = .ok (.lload 10, 2) := by decide +kernel
theorem dY_rounds_207 : decode cY_rounds 207 = .ok (.bipush 32, 2) := by decide +kernel
theorem dY_rounds_209 : decode cY_rounds 209 = .ok (.lshl, 1) := by decide +kernel
theorem dY_rounds_210 : decode cY_rounds 210 = .ok (.ldc2_w 58, 3) := by decide +kernel
theorem dY_rounds_213 : decode cY_rounds 213 = .ok (.land, 1) := by decide +kernel
theorem dY_rounds_214 : decode cY_rounds 214 = .ok (.lstore 13, 2) := by decide +kernel
theorem dY_rounds_216 : decode cY_rounds 216 = .ok (.iload_n 2, 1) := by decide +kernel
theorem dY_rounds_217 : decode cY_rounds 217 = .ok (.ifCond .eq 9, 3) := by decide +kernel
theorem dY_rounds_220 : decode cY_rounds 220 = .ok (.ldc2_w 21, 3) := by decide +kernel
theorem dY_rounds_223 : decode cY_rounds 223 = .ok (.goto 4, 3) := by decide +kernel
theorem dY_rounds_226 : decode cY_rounds 226 = .ok (.lconst 0, 1) := by decide +kernel
theorem dY_rounds_227 : decode cY_rounds 227 = .ok (.iload 12, 2) := by decide +kernel
theorem dY_rounds_229 : decode cY_rounds 229 = .ok (.i2l, 1) := by decide +kernel
theorem dY_rounds_230 : decode cY_rounds 230 = .ok (.bipush 7, 2) := by decide +kernel
theorem dY_rounds_232 : decode cY_rounds 232 = .ok (.lshl, 1) := by decide +kernel
theorem dY_rounds_233 : decode cY_rounds 233 = .ok (.lor, 1) := by decide +kernel
theorem dY_rounds_234 : decode cY_rounds 234 = .ok (.lload 13, 2) := by decide +kernel
theorem dY_rounds_236 : decode cY_rounds 236 = .ok (.bipush 48, 2) := by decide +kernel
theorem dY_rounds_238 : decode cY_rounds 238 = .ok (.lshr, 1) := by decide +kernel
theorem dY_rounds_239 : decode cY_rounds 239 = .ok (.lor, 1) := by decide +kernel
theorem dY_rounds_240 : decode cY_rounds 240 = .ok (.lload 13, 2) := by decide +kernel
theorem dY_rounds_242 : decode cY_rounds 242 = .ok (.bipush 32, 2) := by decide +kernel
theorem dY_rounds_244 : decode cY_rounds 244 = .ok (.lshr, 1) := by decide +kernel
theorem dY_rounds_245 : decode cY_rounds 245 = .ok (.ldc2_w 40, 3) := by decide +kernel
theorem dY_rounds_248 : decode cY_rounds 248 = .ok (.land, 1) := by decide +kernel
theorem dY_rounds_249 : decode cY_rounds 249 = .ok (.bipush 16, 2) := by decide +kernel
theorem dY_rounds_251 : decode cY_rounds 251 = .ok (.lshl, 1) := by decide +kernel
theorem dY_rounds_252 : decode cY_rounds 252 = .ok (.lor, 1) := by decide +kernel
theorem dY_rounds_253 : decode cY_rounds 253 = .ok (.lstore 15, 2) := by decide +kernel
theorem dY_rounds_255 : decode cY_rounds 255 = .ok (.iload_n 1, 1) := by decide +kernel
theorem dY_rounds_256 : decode cY_rounds 256 = .ok (.bipush 8, 2) := by decide +kernel
theorem dY_rounds_258 : decode cY_rounds 258 = .ok (.if_icmp .ne 31, 3) := by decide +kernel
theorem dY_rounds_261 : decode cY_rounds 261 = .ok (.lload 15, 2) := by decide +kernel
theorem dY_rounds_263 : decode cY_rounds 263 = .ok (.lload 13, 2) := by decide +kernel
theorem dY_rounds_265 : decode cY_rounds 265 = .ok (.bipush 16, 2) := by decide +kernel
theorem dY_rounds_267 : decode cY_rounds 267 = .ok (.lshr, 1) := by decide +kernel
theorem dY_rounds_268 : decode cY_rounds 268 = .ok (.ldc2_w 40, 3) := by decide +kernel
theorem dY_rounds_271 : decode cY_rounds 271 = .ok (.land, 1) := by decide +kernel
theorem dY_rounds_272 : decode cY_rounds 272 = .ok (.bipush 32, 2) := by decide +kernel
theorem dY_rounds_274 : decode cY_rounds 274 = .ok (.lshl, 1) := by decide +kernel
theorem dY_rounds_275 : decode cY_rounds 275 = .ok (.lor, 1) := by decide +kernel
theorem dY_rounds_276 : decode cY_rounds 276 = .ok (.lload 13, 2) := by decide +kernel
theorem dY_rounds_278 : decode cY_rounds 278 = .ok (.ldc2_w 40, 3) := by decide +kernel
theorem dY_rounds_281 : decode cY_rounds 281 = .ok (.land, 1) := by decide +kernel
theorem dY_rounds_282 : decode cY_rounds 282 = .ok (.bipush 48, 2) := by decide +kernel
theorem dY_rounds_284 : decode cY_rounds 284 = .ok (.lshl, 1) := by decide +kernel
theorem dY_rounds_285 : decode cY_rounds 285 = .ok (.lor, 1) := by decide +kernel
theorem dY_rounds_286 : decode cY_rounds 286 = .ok (.goto 5, 3) := by decide +kernel
theorem dY_rounds_289 : decode cY_rounds 289 = .ok (.lload 15, 2) := by decide +kernel
theorem dY_rounds_291 : decode cY_rounds 291 = .ok (.lreturn, 1) := by decide +kernel
theorem dY_flags_0 : decode cY_flags 0 = .ok (.lload_n 0, 1) := by decide +kernel
theorem dY_flags_1 : decode cY_flags 1 = .ok (.invokestatic 60, 3) := by decide +kernel
theorem dY_flags_4 : decode cY_flags 4 = .ok (.ifCond .eq 7, 3) := by decide +kernel
theorem dY_flags_7 : decode cY_flags 7 = .ok (.iconst 4, 1) := by decide +kernel
theorem dY_flags_8 : decode cY_flags 8 = .ok (.goto 16, 3) := by decide +kernel
theorem dY_flags_11 : decode cY_flags 11 = .ok (.lload_n 0, 1) := by decide +kernel
theorem dY_flags_12 : decode cY_flags 12 = .ok (.invokestatic 25, 3) := by decide +kernel
theorem dY_flags_15 : decode cY_flags 15 = .ok (.ifCond .eq 8, 3) := by decide +kernel
theorem dY_flags_18 : decode cY_flags 18 = .ok (.bipush 8, 2) := by decide +kernel
theorem dY_flags_20 : decode cY_flags 20 = .ok (.goto 4, 3) := by decide +kernel
theorem dY_flags_23 : decode cY_flags 23 = .ok (.iconst 0, 1) := by decide +kernel
theorem dY_flags_24 : decode cY_flags 24 = .ok (.ireturn, 1) := by decide +kernel
theorem dY_gives_0 : decode cY_gives 0 = .ok (.aload_n 0, 1) := by decide +kernel
theorem dY_gives_1 : decode cY_gives 1 = .ok (.getfield 48, 3) := by decide +kernel
theorem dY_gives_4 : decode cY_gives 4 = .ok (.ifCond .eq 8, 3) := by decide +kernel
theorem dY_gives_7 : decode cY_gives 7 = .ok (.aload_n 0, 1) := by decide +kernel
theorem dY_gives_8 : decode cY_gives 8 = .ok (.getfield 48, 3) := by decide +kernel
theorem dY_gives_11 : decode cY_gives 11 = .ok (.ireturn, 1) := by decide +kernel
theorem dY_gives_12 : decode cY_gives 12 = .ok (.aload_n 0, 1) := by decide +kernel
theorem dY_gives_13 : decode cY_gives 13 = .ok (.getfield 7, 3) := by decide +kernel
theorem dY_gives_16 : decode cY_gives 16 = .ok (.iload_n 3, 1) := by decide +kernel
theorem dY_gives_17 : decode cY_gives 17 = .ok (.lload_n 1, 1) := by decide +kernel
theorem dY_gives_18 : decode cY_gives 18 = .ok (.lastore, 1) := by decide +kernel
theorem dY_gives_19 : decode cY_gives 19 = .ok (.aload_n 0, 1) := by decide +kernel
theorem dY_gives_20 : decode cY_gives 20 = .ok (.aload_n 0, 1) := by decide +kernel
theorem dY_gives_21 : decode cY_gives 21 = .ok (.getfield 51, 3) := by decide +kernel
theorem dY_gives_24 : decode cY_gives 24 = .ok (.putfield 63, 3) := by decide +kernel
theorem dY_gives_27 : decode cY_gives 27 = .ok (.lload_n 1, 1) := by decide +kernel
theorem dY_gives_28 : decode cY_gives 28 = .ok (.invokestatic 66, 3) := by decide +kernel
theorem dY_gives_31 : decode cY_gives 31 = .ok (.ireturn, 1) := by decide +kernel
theorem dY_other_0 : decode cY_other 0 = .ok (.lload_n 0, 1) := by decide +kernel
theorem dY_other_1 : decode cY_other 1 = .ok (.invokestatic 60, 3) := by decide +kernel
theorem dY_other_4 : decode cY_other 4 = .ok (.ifCond .eq 7, 3) := by decide +kernel
theorem dY_other_7 : decode cY_other 7 = .ok (.lconst 0, 1) := by decide +kernel
theorem dY_other_8 : decode cY_other 8 = .ok (.goto 8, 3) := by decide +kernel
theorem dY_other_11 : decode cY_other 11 = .ok (.lload_n 0, 1) := by decide +kernel
theorem dY_other_12 : decode cY_other 12 = .ok (.ldc2_w 21, 3) := by decide +kernel
theorem dY_other_15 : decode cY_other 15 = .ok (.lxor, 1) := by decide +kernel
theorem dY_other_16 : decode cY_other 16 = .ok (.lreturn, 1) := by decide +kernel
theorem dY_added_0 : decode cY_added 0 = .ok (.aload_n 0, 1) := by decide +kernel
theorem dY_added_1 : decode cY_added 1 = .ok (.iconst 0, 1) := by decide +kernel
theorem dY_added_2 : decode cY_added 2 = .ok (.putfield 48, 3) := by decide +kernel
theorem dY_added_5 : decode cY_added 5 = .ok (.aload_n 0, 1) := by decide +kernel
theorem dY_added_6 : decode cY_added 6 = .ok (.iconst 0, 1) := by decide +kernel
theorem dY_added_7 : decode cY_added 7 = .ok (.putfield 51, 3) := by decide +kernel
theorem dY_added_10 : decode cY_added 10 = .ok (.lload_n 2, 1) := by decide +kernel
theorem dY_added_11 : decode cY_added 11 = .ok (.invokestatic 60, 3) := by decide +kernel
theorem dY_added_14 : decode cY_added 14 = .ok (.ifCond .eq 18, 3) := by decide +kernel
theorem dY_added_17 : decode cY_added 17 = .ok (.lload 4, 2) := by decide +kernel
theorem dY_added_19 : decode cY_added 19 = .ok (.invokestatic 60, 3) := by decide +kernel
theorem dY_added_22 : decode cY_added 22 = .ok (.ifCond .eq 7, 3) := by decide +kernel
theorem dY_added_25 : decode cY_added 25 = .ok (.lconst 0, 1) := by decide +kernel
theorem dY_added_26 : decode cY_added 26 = .ok (.goto 5, 3) := by decide +kernel
theorem dY_added_29 : decode cY_added 29 = .ok (.lload 4, 2) := by decide +kernel
theorem dY_added_31 : decode cY_added 31 = .ok (.lreturn, 1) := by decide +kernel
theorem dY_added_32 : decode cY_added 32 = .ok (.lload 4, 2) := by decide +kernel
theorem dY_added_34 : decode cY_added 34 = .ok (.invokestatic 60, 3) := by decide +kernel
theorem dY_added_37 : decode cY_added 37 = .ok (.ifCond .eq 5, 3) := by decide +kernel
theorem dY_added_40 : decode cY_added 40 = .ok (.lload_n 2, 1) := by decide +kernel
theorem dY_added_41 : decode cY_added 41 = .ok (.lreturn, 1) := by decide +kernel
theorem dY_added_42 : decode cY_added 42 = .ok (.iload_n 1, 1) := by decide +kernel
theorem dY_added_43 : decode cY_added 43 = .ok (.invokestatic 54, 3) := by decide +kernel
theorem dY_added_46 : decode cY_added 46 = .ok (.istore 6, 2) := by decide +kernel
theorem dY_added_48 : decode cY_added 48 = .ok (.aload_n 0, 1) := by decide +kernel
theorem dY_added_49 : decode cY_added 49 = .ok (.iload_n 1, 1) := by decide +kernel
theorem dY_added_50 : decode cY_added 50 = .ok (.lload_n 2, 1) := by decide +kernel
theorem dY_added_51 : decode cY_added 51 = .ok (.invokevirtual 70, 3) := by decide +kernel
theorem dY_added_54 : decode cY_added 54 = .ok (.aload_n 0, 1) := by decide +kernel
theorem dY_added_55 : decode cY_added 55 = .ok (.getfield 29, 3) := by decide +kernel
theorem dY_added_58 : decode cY_added 58 = .ok (.istore 7, 2) := by decide +kernel
theorem dY_added_60 : decode cY_added 60 = .ok (.aload_n 0, 1) := by decide +kernel
theorem dY_added_61 : decode cY_added 61 = .ok (.getfield 34, 3) := by decide +kernel
theorem dY_added_64 : decode cY_added 64 = .ok (.istore 8, 2) := by decide +kernel
theorem dY_added_66 : decode cY_added 66 = .ok (.aload_n 0, 1) := by decide +kernel
theorem dY_added_67 : decode cY_added 67 = .ok (.getfield 44, 3) := by decide +kernel
theorem dY_added_70 : decode cY_added 70 = .ok (.bipush 56, 2) := by decide +kernel
theorem dY_added_72 : decode cY_added 72 = .ok (.iload 6, 2) := by decide +kernel
theorem dY_added_74 : decode cY_added 74 = .ok (.isub, 1) := by decide +kernel
theorem dY_added_75 : decode cY_added 75 = .ok (.lshr, 1) := by decide +kernel
theorem dY_added_76 : decode cY_added 76 = .ok (.lstore 9, 2) := by decide +kernel
theorem dY_added_78 : decode cY_added 78 = .ok (.aload_n 0, 1) := by decide +kernel
theorem dY_added_79 : decode cY_added 79 = .ok (.iload_n 1, 1) := by decide +kernel
theorem dY_added_80 : decode cY_added 80 = .ok (.lload 4, 2) := by decide +kernel
theorem dY_added_82 : decode cY_added 82 = .ok (.invokevirtual 70, 3) := by decide +kernel
theorem dY_added_85 : decode cY_added 85 = .ok (.aload_n 0, 1) := by decide +kernel
theorem dY_added_86 : decode cY_added 86 = .ok (.getfield 29, 3) := by decide +kernel
theorem dY_added_89 : decode cY_added 89 = .ok (.istore 11, 2) := by decide +kernel
theorem dY_added_91 : decode cY_added 91 = .ok (.aload_n 0, 1) := by decide +kernel
theorem dY_added_92 : decode cY_added 92 = .ok (.getfield 34, 3) := by decide +kernel
theorem dY_added_95 : decode cY_added 95 = .ok (.istore 12, 2) := by decide +kernel
theorem dY_added_97 : decode cY_added 97 = .ok (.aload_n 0, 1) := by decide +kernel
theorem dY_added_98 : decode cY_added 98 = .ok (.getfield 44, 3) := by decide +kernel
theorem dY_added_101 : decode cY_added 101 = .ok (.bipush 56, 2) := by decide +kernel
theorem dY_added_103 : decode cY_added 103 = .ok (.iload 6, 2) := by decide +kernel
theorem dY_added_105 : decode cY_added 105 = .ok (.isub, 1) := by decide +kernel
theorem dY_added_106 : decode cY_added 106 = .ok (.lshr, 1) := by decide +kernel
end
section
theorem dY_added_107 : decode cY_added 107 = .ok (.lstore 13, 2) := by decide +kernel
theorem dY_added_109 : decode cY_added 109 = .ok (.iload 12, 2) := by decide +kernel
theorem dY_added_111 : decode cY_added 111 = .ok (.iload 8, 2) := by decide +kernel
theorem dY_added_113 : decode cY_added 113 = .ok (.if_icmp .gt 18, 3) := by decide +kernel
theorem dY_added_116 : decode cY_added 116 = .ok (.iload 12, 2) := by decide +kernel
theorem dY_added_118 : decode cY_added 118 = .ok (.iload 8, 2) := by decide +kernel
theorem dY_added_120 : decode cY_added 120 = .ok (.if_icmp .ne 15, 3) := by decide +kernel
theorem dY_added_123 : decode cY_added 123 = .ok (.lload 13, 2) := by decide +kernel
theorem dY_added_125 : decode cY_added 125 = .ok (.lload 9, 2) := by decide +kernel
theorem dY_added_127 : decode cY_added 127 = .ok (.lcmp, 1) := by decide +kernel
theorem dY_added_128 : decode cY_added 128 = .ok (.ifCond .le 7, 3) := by decide +kernel
theorem dY_added_131 : decode cY_added 131 = .ok (.iconst 1, 1) := by decide +kernel
theorem dY_added_132 : decode cY_added 132 = .ok (.goto 4, 3) := by decide +kernel
theorem dY_added_135 : decode cY_added 135 = .ok (.iconst 0, 1) := by decide +kernel
theorem dY_added_136 : decode cY_added 136 = .ok (.istore 15, 2) := by decide +kernel
theorem dY_added_138 : decode cY_added 138 = .ok (.iload 15, 2) := by decide +kernel
theorem dY_added_140 : decode cY_added 140 = .ok (.ifCond .eq 8, 3) := by decide +kernel
theorem dY_added_143 : decode cY_added 143 = .ok (.lload 13, 2) := by decide +kernel
theorem dY_added_145 : decode cY_added 145 = .ok (.goto 5, 3) := by decide +kernel
theorem dY_added_148 : decode cY_added 148 = .ok (.lload 9, 2) := by decide +kernel
theorem dY_added_150 : decode cY_added 150 = .ok (.bipush 6, 2) := by decide +kernel
theorem dY_added_152 : decode cY_added 152 = .ok (.lshl, 1) := by decide +kernel
theorem dY_added_153 : decode cY_added 153 = .ok (.lstore 16, 2) := by decide +kernel
theorem dY_added_155 : decode cY_added 155 = .ok (.iload 15, 2) := by decide +kernel
theorem dY_added_157 : decode cY_added 157 = .ok (.ifCond .eq 8, 3) := by decide +kernel
theorem dY_added_160 : decode cY_added 160 = .ok (.lload 9, 2) := by decide +kernel
theorem dY_added_162 : decode cY_added 162 = .ok (.goto 5, 3) := by decide +kernel
theorem dY_added_165 : decode cY_added 165 = .ok (.lload 13, 2) := by decide +kernel
theorem dY_added_167 : decode cY_added 167 = .ok (.bipush 6, 2) := by decide +kernel
theorem dY_added_169 : decode cY_added 169 = .ok (.lshl, 1) := by decide +kernel
theorem dY_added_170 : decode cY_added 170 = .ok (.lstore 18, 2) := by decide +kernel
theorem dY_added_172 : decode cY_added 172 = .ok (.iload 15, 2) := by decide +kernel
theorem dY_added_174 : decode cY_added 174 = .ok (.ifCond .eq 11, 3) := by decide +kernel
theorem dY_added_177 : decode cY_added 177 = .ok (.iload 12, 2) := by decide +kernel
theorem dY_added_179 : decode cY_added 179 = .ok (.iload 8, 2) := by decide +kernel
theorem dY_added_181 : decode cY_added 181 = .ok (.isub, 1) := by decide +kernel
theorem dY_added_182 : decode cY_added 182 = .ok (.goto 8, 3) := by decide +kernel
theorem dY_added_185 : decode cY_added 185 = .ok (.iload 8, 2) := by decide +kernel
theorem dY_added_187 : decode cY_added 187 = .ok (.iload 12, 2) := by decide +kernel
theorem dY_added_189 : decode cY_added 189 = .ok (.isub, 1) := by decide +kernel
theorem dY_added_190 : decode cY_added 190 = .ok (.istore 20, 2) := by decide +kernel
theorem dY_added_192 : decode cY_added 192 = .ok (.iload 20, 2) := by decide +kernel
theorem dY_added_194 : decode cY_added 194 = .ok (.bipush 62, 2) := by decide +kernel
theorem dY_added_196 : decode cY_added 196 = .ok (.if_icmp .le 7, 3) := by decide +kernel
theorem dY_added_199 : decode cY_added 199 = .ok (.lconst 0, 1) := by decide +kernel
theorem dY_added_200 : decode cY_added 200 = .ok (.goto 8, 3) := by decide +kernel
theorem dY_added_203 : decode cY_added 203 = .ok (.lload 18, 2) := by decide +kernel
theorem dY_added_205 : decode cY_added 205 = .ok (.iload 20, 2) := by decide +kernel
theorem dY_added_207 : decode cY_added 207 = .ok (.lshr, 1) := by decide +kernel
theorem dY_added_208 : decode cY_added 208 = .ok (.lstore 21, 2) := by decide +kernel
theorem dY_added_210 : decode cY_added 210 = .ok (.iload 20, 2) := by decide +kernel
theorem dY_added_212 : decode cY_added 212 = .ok (.bipush 62, 2) := by decide +kernel
theorem dY_added_214 : decode cY_added 214 = .ok (.if_icmp .gt 14, 3) := by decide +kernel
theorem dY_added_217 : decode cY_added 217 = .ok (.lload 21, 2) := by decide +kernel
theorem dY_added_219 : decode cY_added 219 = .ok (.iload 20, 2) := by decide +kernel
theorem dY_added_221 : decode cY_added 221 = .ok (.lshl, 1) := by decide +kernel
theorem dY_added_222 : decode cY_added 222 = .ok (.lload 18, 2) := by decide +kernel
theorem dY_added_224 : decode cY_added 224 = .ok (.lcmp, 1) := by decide +kernel
theorem dY_added_225 : decode cY_added 225 = .ok (.ifCond .eq 7, 3) := by decide +kernel
theorem dY_added_228 : decode cY_added 228 = .ok (.iconst 1, 1) := by decide +kernel
theorem dY_added_229 : decode cY_added 229 = .ok (.goto 4, 3) := by decide +kernel
theorem dY_added_232 : decode cY_added 232 = .ok (.iconst 0, 1) := by decide +kernel
theorem dY_added_233 : decode cY_added 233 = .ok (.istore 23, 2) := by decide +kernel
theorem dY_added_235 : decode cY_added 235 = .ok (.iload 7, 2) := by decide +kernel
theorem dY_added_237 : decode cY_added 237 = .ok (.iload 11, 2) := by decide +kernel
theorem dY_added_239 : decode cY_added 239 = .ok (.if_icmp .ne 11, 3) := by decide +kernel
theorem dY_added_242 : decode cY_added 242 = .ok (.lload 16, 2) := by decide +kernel
theorem dY_added_244 : decode cY_added 244 = .ok (.lload 21, 2) := by decide +kernel
theorem dY_added_246 : decode cY_added 246 = .ok (.ladd, 1) := by decide +kernel
theorem dY_added_247 : decode cY_added 247 = .ok (.goto 19, 3) := by decide +kernel
theorem dY_added_250 : decode cY_added 250 = .ok (.lload 16, 2) := by decide +kernel
theorem dY_added_252 : decode cY_added 252 = .ok (.lload 21, 2) := by decide +kernel
theorem dY_added_254 : decode cY_added 254 = .ok (.lsub, 1) := by decide +kernel
theorem dY_added_255 : decode cY_added 255 = .ok (.iload 23, 2) := by decide +kernel
theorem dY_added_257 : decode cY_added 257 = .ok (.ifCond .eq 7, 3) := by decide +kernel
theorem dY_added_260 : decode cY_added 260 = .ok (.lconst 1, 1) := by decide +kernel
theorem dY_added_261 : decode cY_added 261 = .ok (.goto 4, 3) := by decide +kernel
theorem dY_added_264 : decode cY_added 264 = .ok (.lconst 0, 1) := by decide +kernel
theorem dY_added_265 : decode cY_added 265 = .ok (.lsub, 1) := by decide +kernel
theorem dY_added_266 : decode cY_added 266 = .ok (.lstore 24, 2) := by decide +kernel
theorem dY_added_268 : decode cY_added 268 = .ok (.aload_n 0, 1) := by decide +kernel
theorem dY_added_269 : decode cY_added 269 = .ok (.iload_n 1, 1) := by decide +kernel
theorem dY_added_270 : decode cY_added 270 = .ok (.iload 15, 2) := by decide +kernel
theorem dY_added_272 : decode cY_added 272 = .ok (.ifCond .eq 8, 3) := by decide +kernel
theorem dY_added_275 : decode cY_added 275 = .ok (.iload 11, 2) := by decide +kernel
theorem dY_added_277 : decode cY_added 277 = .ok (.goto 5, 3) := by decide +kernel
theorem dY_added_280 : decode cY_added 280 = .ok (.iload 7, 2) := by decide +kernel
theorem dY_added_282 : decode cY_added 282 = .ok (.lload 24, 2) := by decide +kernel
theorem dY_added_284 : decode cY_added 284 = .ok (.iload 15, 2) := by decide +kernel
theorem dY_added_286 : decode cY_added 286 = .ok (.ifCond .eq 8, 3) := by decide +kernel
theorem dY_added_289 : decode cY_added 289 = .ok (.iload 12, 2) := by decide +kernel
theorem dY_added_291 : decode cY_added 291 = .ok (.goto 5, 3) := by decide +kernel
theorem dY_added_294 : decode cY_added 294 = .ok (.iload 8, 2) := by decide +kernel
theorem dY_added_296 : decode cY_added 296 = .ok (.sipush 128, 3) := by decide +kernel
theorem dY_added_299 : decode cY_added 299 = .ok (.isub, 1) := by decide +kernel
theorem dY_added_300 : decode cY_added 300 = .ok (.iload 6, 2) := by decide +kernel
theorem dY_added_302 : decode cY_added 302 = .ok (.isub, 1) := by decide +kernel
theorem dY_added_303 : decode cY_added 303 = .ok (.bipush 6, 2) := by decide +kernel
theorem dY_added_305 : decode cY_added 305 = .ok (.isub, 1) := by decide +kernel
theorem dY_added_306 : decode cY_added 306 = .ok (.iload 23, 2) := by decide +kernel
theorem dY_added_308 : decode cY_added 308 = .ok (.invokevirtual 74, 3) := by decide +kernel
theorem dY_added_311 : decode cY_added 311 = .ok (.lreturn, 1) := by decide +kernel
theorem dY_two_0 : decode cY_two 0 = .ok (.iload_n 1, 1) := by decide +kernel
theorem dY_two_1 : decode cY_two 1 = .ok (.invokestatic 78, 3) := by decide +kernel
theorem dY_two_4 : decode cY_two 4 = .ok (.ifCond .eq 25, 3) := by decide +kernel
theorem dY_two_7 : decode cY_two 7 = .ok (.iload_n 2, 1) := by decide +kernel
theorem dY_two_8 : decode cY_two 8 = .ok (.invokestatic 82, 3) := by decide +kernel
theorem dY_two_11 : decode cY_two 11 = .ok (.ifCond .eq 18, 3) := by decide +kernel
theorem dY_two_14 : decode cY_two 14 = .ok (.iload_n 3, 1) := by decide +kernel
theorem dY_two_15 : decode cY_two 15 = .ok (.invokestatic 82, 3) := by decide +kernel
theorem dY_two_18 : decode cY_two 18 = .ok (.ifCond .eq 11, 3) := by decide +kernel
theorem dY_two_21 : decode cY_two 21 = .ok (.iload 4, 2) := by decide +kernel
theorem dY_two_23 : decode cY_two 23 = .ok (.invokestatic 82, 3) := by decide +kernel
theorem dY_two_26 : decode cY_two 26 = .ok (.ifCond .ne 6, 3) := by decide +kernel
theorem dY_two_29 : decode cY_two 29 = .ok (.bipush (-5), 2) := by decide +kernel
theorem dY_two_31 : decode cY_two 31 = .ok (.ireturn, 1) := by decide +kernel
theorem dY_two_32 : decode cY_two 32 = .ok (.aload_n 0, 1) := by decide +kernel
theorem dY_two_33 : decode cY_two 33 = .ok (.iload_n 1, 1) := by decide +kernel
theorem dY_two_34 : decode cY_two 34 = .ok (.iload_n 2, 1) := by decide +kernel
theorem dY_two_35 : decode cY_two 35 = .ok (.invokevirtual 85, 3) := by decide +kernel
theorem dY_two_38 : decode cY_two 38 = .ok (.invokestatic 89, 3) := by decide +kernel
theorem dY_two_41 : decode cY_two 41 = .ok (.ifCond .ne 15, 3) := by decide +kernel
theorem dY_two_44 : decode cY_two 44 = .ok (.aload_n 0, 1) := by decide +kernel
theorem dY_two_45 : decode cY_two 45 = .ok (.iload_n 1, 1) := by decide +kernel
theorem dY_two_46 : decode cY_two 46 = .ok (.iload_n 3, 1) := by decide +kernel
theorem dY_two_47 : decode cY_two 47 = .ok (.invokevirtual 85, 3) := by decide +kernel
theorem dY_two_50 : decode cY_two 50 = .ok (.invokestatic 89, 3) := by decide +kernel
theorem dY_two_53 : decode cY_two 53 = .ok (.ifCond .eq 7, 3) := by decide +kernel
theorem dY_two_56 : decode cY_two 56 = .ok (.iconst (-1), 1) := by decide +kernel
theorem dY_two_57 : decode cY_two 57 = .ok (.goto 4, 3) := by decide +kernel
theorem dY_two_60 : decode cY_two 60 = .ok (.iconst 0, 1) := by decide +kernel
theorem dY_two_61 : decode cY_two 61 = .ok (.ireturn, 1) := by decide +kernel
theorem dY_sum_0 : decode cY_sum 0 = .ok (.aload_n 0, 1) := by decide +kernel
theorem dY_sum_1 : decode cY_sum 1 = .ok (.iload_n 1, 1) := by decide +kernel
theorem dY_sum_2 : decode cY_sum 2 = .ok (.iload_n 2, 1) := by decide +kernel
theorem dY_sum_3 : decode cY_sum 3 = .ok (.iload_n 3, 1) := by decide +kernel
theorem dY_sum_4 : decode cY_sum 4 = .ok (.iload 4, 2) := by decide +kernel
theorem dY_sum_6 : decode cY_sum 6 = .ok (.invokevirtual 92, 3) := by decide +kernel
theorem dY_sum_9 : decode cY_sum 9 = .ok (.istore 5, 2) := by decide +kernel
theorem dY_sum_11 : decode cY_sum 11 = .ok (.iload 5, 2) := by decide +kernel
theorem dY_sum_13 : decode cY_sum 13 = .ok (.ifCond .ge 8, 3) := by decide +kernel
theorem dY_sum_16 : decode cY_sum 16 = .ok (.iload 5, 2) := by decide +kernel
theorem dY_sum_18 : decode cY_sum 18 = .ok (.goto 26, 3) := by decide +kernel
theorem dY_sum_21 : decode cY_sum 21 = .ok (.aload_n 0, 1) := by decide +kernel
theorem dY_sum_22 : decode cY_sum 22 = .ok (.aload_n 0, 1) := by decide +kernel
theorem dY_sum_23 : decode cY_sum 23 = .ok (.iload_n 1, 1) := by decide +kernel
theorem dY_sum_24 : decode cY_sum 24 = .ok (.aload_n 0, 1) := by decide +kernel
theorem dY_sum_25 : decode cY_sum 25 = .ok (.iload_n 1, 1) := by decide +kernel
theorem dY_sum_26 : decode cY_sum 26 = .ok (.iload_n 3, 1) := by decide +kernel
theorem dY_sum_27 : decode cY_sum 27 = .ok (.invokevirtual 85, 3) := by decide +kernel
theorem dY_sum_30 : decode cY_sum 30 = .ok (.aload_n 0, 1) := by decide +kernel
theorem dY_sum_31 : decode cY_sum 31 = .ok (.iload_n 1, 1) := by decide +kernel
theorem dY_sum_32 : decode cY_sum 32 = .ok (.iload_n 2, 1) := by decide +kernel
theorem dY_sum_33 : decode cY_sum 33 = .ok (.invokevirtual 85, 3) := by decide +kernel
theorem dY_sum_36 : decode cY_sum 36 = .ok (.invokevirtual 96, 3) := by decide +kernel
theorem dY_sum_39 : decode cY_sum 39 = .ok (.iload 4, 2) := by decide +kernel
theorem dY_sum_41 : decode cY_sum 41 = .ok (.invokevirtual 100, 3) := by decide +kernel
theorem dY_sum_44 : decode cY_sum 44 = .ok (.ireturn, 1) := by decide +kernel
theorem dY_less_0 : decode cY_less 0 = .ok (.aload_n 0, 1) := by decide +kernel
theorem dY_less_1 : decode cY_less 1 = .ok (.iload_n 1, 1) := by decide +kernel
theorem dY_less_2 : decode cY_less 2 = .ok (.iload_n 2, 1) := by decide +kernel
theorem dY_less_3 : decode cY_less 3 = .ok (.iload_n 3, 1) := by decide +kernel
theorem dY_less_4 : decode cY_less 4 = .ok (.iload 4, 2) := by decide +kernel
theorem dY_less_6 : decode cY_less 6 = .ok (.invokevirtual 92, 3) := by decide +kernel
theorem dY_less_9 : decode cY_less 9 = .ok (.istore 5, 2) := by decide +kernel
theorem dY_less_11 : decode cY_less 11 = .ok (.iload 5, 2) := by decide +kernel
theorem dY_less_13 : decode cY_less 13 = .ok (.ifCond .ge 8, 3) := by decide +kernel
theorem dY_less_16 : decode cY_less 16 = .ok (.iload 5, 2) := by decide +kernel
theorem dY_less_18 : decode cY_less 18 = .ok (.goto 29, 3) := by decide +kernel
theorem dY_less_21 : decode cY_less 21 = .ok (.aload_n 0, 1) := by decide +kernel
theorem dY_less_22 : decode cY_less 22 = .ok (.aload_n 0, 1) := by decide +kernel
theorem dY_less_23 : decode cY_less 23 = .ok (.iload_n 1, 1) := by decide +kernel
theorem dY_less_24 : decode cY_less 24 = .ok (.aload_n 0, 1) := by decide +kernel
theorem dY_less_25 : decode cY_less 25 = .ok (.iload_n 1, 1) := by decide +kernel
theorem dY_less_26 : decode cY_less 26 = .ok (.iload_n 3, 1) := by decide +kernel
theorem dY_less_27 : decode cY_less 27 = .ok (.invokevirtual 85, 3) := by decide +kernel
theorem dY_less_30 : decode cY_less 30 = .ok (.aload_n 0, 1) := by decide +kernel
theorem dY_less_31 : decode cY_less 31 = .ok (.iload_n 1, 1) := by decide +kernel
theorem dY_less_32 : decode cY_less 32 = .ok (.iload_n 2, 1) := by decide +kernel
theorem dY_less_33 : decode cY_less 33 = .ok (.invokevirtual 85, 3) := by decide +kernel
theorem dY_less_36 : decode cY_less 36 = .ok (.invokestatic 104, 3) := by decide +kernel
theorem dY_less_39 : decode cY_less 39 = .ok (.invokevirtual 96, 3) := by decide +kernel
theorem dY_less_42 : decode cY_less 42 = .ok (.iload 4, 2) := by decide +kernel
theorem dY_less_44 : decode cY_less 44 = .ok (.invokevirtual 100, 3) := by decide +kernel
theorem dY_less_47 : decode cY_less 47 = .ok (.ireturn, 1) := by decide +kernel
theorem dY_product_0 : decode cY_product 0 = .ok (.aload_n 0, 1) := by decide +kernel
theorem dY_product_1 : decode cY_product 1 = .ok (.iload_n 1, 1) := by decide +kernel
theorem dY_product_2 : decode cY_product 2 = .ok (.iload_n 2, 1) := by decide +kernel
theorem dY_product_3 : decode cY_product 3 = .ok (.iload_n 3, 1) := by decide +kernel
theorem dY_product_4 : decode cY_product 4 = .ok (.iload 4, 2) := by decide +kernel
theorem dY_product_6 : decode cY_product 6 = .ok (.invokevirtual 92, 3) := by decide +kernel
theorem dY_product_9 : decode cY_product 9 = .ok (.istore 5, 2) := by decide +kernel
theorem dY_product_11 : decode cY_product 11 = .ok (.iload 5, 2) := by decide +kernel
theorem dY_product_13 : decode cY_product 13 = .ok (.ifCond .ge 6, 3) := by decide +kernel
theorem dY_product_16 : decode cY_product 16 = .ok (.iload 5, 2) := by decide +kernel
theorem dY_product_18 : decode cY_product 18 = .ok (.ireturn, 1) := by decide +kernel
theorem dY_product_19 : decode cY_product 19 = .ok (.aload_n 0, 1) := by decide +kernel
theorem dY_product_20 : decode cY_product 20 = .ok (.iload_n 1, 1) := by decide +kernel
theorem dY_product_21 : decode cY_product 21 = .ok (.aload_n 0, 1) := by decide +kernel
theorem dY_product_22 : decode cY_product 22 = .ok (.iload_n 1, 1) := by decide +kernel
theorem dY_product_23 : decode cY_product 23 = .ok (.iload_n 2, 1) := by decide +kernel
theorem dY_product_24 : decode cY_product 24 = .ok (.invokevirtual 85, 3) := by decide +kernel
theorem dY_product_27 : decode cY_product 27 = .ok (.invokevirtual 70, 3) := by decide +kernel
theorem dY_product_30 : decode cY_product 30 = .ok (.aload_n 0, 1) := by decide +kernel
theorem dY_product_31 : decode cY_product 31 = .ok (.getfield 44, 3) := by decide +kernel
theorem dY_product_34 : decode cY_product 34 = .ok (.lstore 6, 2) := by decide +kernel
theorem dY_product_36 : decode cY_product 36 = .ok (.aload_n 0, 1) := by decide +kernel
theorem dY_product_37 : decode cY_product 37 = .ok (.getfield 34, 3) := by decide +kernel
theorem dY_product_40 : decode cY_product 40 = .ok (.istore 8, 2) := by decide +kernel
theorem dY_product_42 : decode cY_product 42 = .ok (.aload_n 0, 1) := by decide +kernel
theorem dY_product_43 : decode cY_product 43 = .ok (.getfield 29, 3) := by decide +kernel
theorem dY_product_46 : decode cY_product 46 = .ok (.istore 9, 2) := by decide +kernel
theorem dY_product_48 : decode cY_product 48 = .ok (.aload_n 0, 1) := by decide +kernel
theorem dY_product_49 : decode cY_product 49 = .ok (.iload_n 1, 1) := by decide +kernel
theorem dY_product_50 : decode cY_product 50 = .ok (.aload_n 0, 1) := by decide +kernel
theorem dY_product_51 : decode cY_product 51 = .ok (.iload_n 1, 1) := by decide +kernel
theorem dY_product_52 : decode cY_product 52 = .ok (.iload_n 3, 1) := by decide +kernel
theorem dY_product_53 : decode cY_product 53 = .ok (.invokevirtual 85, 3) := by decide +kernel
theorem dY_product_56 : decode cY_product 56 = .ok (.invokevirtual 70, 3) := by decide +kernel
theorem dY_product_59 : decode cY_product 59 = .ok (.aload_n 0, 1) := by decide +kernel
theorem dY_product_60 : decode cY_product 60 = .ok (.iconst 0, 1) := by decide +kernel
theorem dY_product_61 : decode cY_product 61 = .ok (.putfield 48, 3) := by decide +kernel
theorem dY_product_64 : decode cY_product 64 = .ok (.aload_n 0, 1) := by decide +kernel
theorem dY_product_65 : decode cY_product 65 = .ok (.iconst 0, 1) := by decide +kernel
theorem dY_product_66 : decode cY_product 66 = .ok (.putfield 51, 3) := by decide +kernel
theorem dY_product_69 : decode cY_product 69 = .ok (.lload 6, 2) := by decide +kernel
theorem dY_product_71 : decode cY_product 71 = .ok (.lconst 0, 1) := by decide +kernel
theorem dY_product_72 : decode cY_product 72 = .ok (.lcmp, 1) := by decide +kernel
theorem dY_product_73 : decode cY_product 73 = .ok (.ifCond .eq 12, 3) := by decide +kernel
theorem dY_product_76 : decode cY_product 76 = .ok (.aload_n 0, 1) := by decide +kernel
theorem dY_product_77 : decode cY_product 77 = .ok (.getfield 44, 3) := by decide +kernel
theorem dY_product_80 : decode cY_product 80 = .ok (.lconst 0, 1) := by decide +kernel
theorem dY_product_81 : decode cY_product 81 = .ok (.lcmp, 1) := by decide +kernel
theorem dY_product_82 : decode cY_product 82 = .ok (.ifCond .ne 11, 3) := by decide +kernel
theorem dY_product_85 : decode cY_product 85 = .ok (.aload_n 0, 1) := by decide +kernel
theorem dY_product_86 : decode cY_product 86 = .ok (.lconst 0, 1) := by decide +kernel
theorem dY_product_87 : decode cY_product 87 = .ok (.iload 4, 2) := by decide +kernel
theorem dY_product_89 : decode cY_product 89 = .ok (.invokevirtual 100, 3) := by decide +kernel
theorem dY_product_92 : decode cY_product 92 = .ok (.ireturn, 1) := by decide +kernel
theorem dY_product_93 : decode cY_product 93 = .ok (.iload 9, 2) := by decide +kernel
theorem dY_product_95 : decode cY_product 95 = .ok (.aload_n 0, 1) := by decide +kernel
theorem dY_product_96 : decode cY_product 96 = .ok (.getfield 29, 3) := by decide +kernel
theorem dY_product_99 : decode cY_product 99 = .ok (.if_icmp .eq 7, 3) := by decide +kernel
theorem dY_product_102 : decode cY_product 102 = .ok (.iconst 1, 1) := by decide +kernel
theorem dY_product_103 : decode cY_product 103 = .ok (.goto 4, 3) := by decide +kernel
theorem dY_product_106 : decode cY_product 106 = .ok (.iconst 0, 1) := by decide +kernel
theorem dY_product_107 : decode cY_product 107 = .ok (.istore 10, 2) := by decide +kernel
theorem dY_product_109 : decode cY_product 109 = .ok (.iload 8, 2) := by decide +kernel
theorem dY_product_111 : decode cY_product 111 = .ok (.aload_n 0, 1) := by decide +kernel
theorem dY_product_112 : decode cY_product 112 = .ok (.getfield 34, 3) := by decide +kernel
theorem dY_product_115 : decode cY_product 115 = .ok (.iadd, 1) := by decide +kernel
theorem dY_product_116 : decode cY_product 116 = .ok (.sipush 256, 3) := by decide +kernel
theorem dY_product_119 : decode cY_product 119 = .ok (.isub, 1) := by decide +kernel
theorem dY_product_120 : decode cY_product 120 = .ok (.istore 8, 2) := by decide +kernel
theorem dY_product_122 : decode cY_product 122 = .ok (.iload_n 1, 1) := by decide +kernel
theorem dY_product_123 : decode cY_product 123 = .ok (.iconst 4, 1) := by decide +kernel
theorem dY_product_124 : decode cY_product 124 = .ok (.if_icmp .ne 36, 3) := by decide +kernel
theorem dY_product_127 : decode cY_product 127 = .ok (.aload_n 0, 1) := by decide +kernel
theorem dY_product_128 : decode cY_product 128 = .ok (.aload_n 0, 1) := by decide +kernel
theorem dY_product_129 : decode cY_product 129 = .ok (.iconst 4, 1) := by decide +kernel
theorem dY_product_130 : decode cY_product 130 = .ok (.iload 10, 2) := by decide +kernel
theorem dY_product_132 : decode cY_product 132 = .ok (.lload 6, 2) := by decide +kernel
theorem dY_product_134 : decode cY_product 134 = .ok (.bipush 32, 2) := by decide +kernel
theorem dY_product_136 : decode cY_product 136 = .ok (.lshr, 1) := by decide +kernel
theorem dY_product_137 : decode cY_product 137 = .ok (.aload_n 0, 1) := by decide +kernel
theorem dY_product_138 : decode cY_product 138 = .ok (.getfield 44, 3) := by decide +kernel
theorem dY_product_141 : decode cY_product 141 = .ok (.bipush 32, 2) := by decide +kernel
theorem dY_product_143 : decode cY_product 143 = .ok (.lshr, 1) := by decide +kernel
theorem dY_product_144 : decode cY_product 144 = .ok (.lmul, 1) := by decide +kernel
theorem dY_product_145 : decode cY_product 145 = .ok (.iload 8, 2) := by decide +kernel
theorem dY_product_147 : decode cY_product 147 = .ok (.bipush 48, 2) := by decide +kernel
theorem dY_product_149 : decode cY_product 149 = .ok (.isub, 1) := by decide +kernel
theorem dY_product_150 : decode cY_product 150 = .ok (.iconst 0, 1) := by decide +kernel
theorem dY_product_151 : decode cY_product 151 = .ok (.invokevirtual 74, 3) := by decide +kernel
theorem dY_product_154 : decode cY_product 154 = .ok (.iload 4, 2) := by decide +kernel
theorem dY_product_156 : decode cY_product 156 = .ok (.invokevirtual 100, 3) := by decide +kernel
theorem dY_product_159 : decode cY_product 159 = .ok (.ireturn, 1) := by decide +kernel
theorem dY_product_160 : decode cY_product 160 = .ok (.ldc2_w 108, 3) := by decide +kernel
theorem dY_product_163 : decode cY_product 163 = .ok (.lstore 11, 2) := by decide +kernel
theorem dY_product_165 : decode cY_product 165 = .ok (.lload 6, 2) := by decide +kernel
theorem dY_product_167 : decode cY_product 167 = .ok (.lload 11, 2) := by decide +kernel
theorem dY_product_169 : decode cY_product 169 = .ok (.land, 1) := by decide +kernel
theorem dY_product_170 : decode cY_product 170 = .ok (.aload_n 0, 1) := by decide +kernel
theorem dY_product_171 : decode cY_product 171 = .ok (.getfield 44, 3) := by decide +kernel
theorem dY_product_174 : decode cY_product 174 = .ok (.lload 11, 2) := by decide +kernel
theorem dY_product_176 : decode cY_product 176 = .ok (.land, 1) := by decide +kernel
theorem dY_product_177 : decode cY_product 177 = .ok (.lmul, 1) := by decide +kernel
theorem dY_product_178 : decode cY_product 178 = .ok (.lstore 13, 2) := by decide +kernel
theorem dY_product_180 : decode cY_product 180 = .ok (.lload 6, 2) := by decide +kernel
theorem dY_product_182 : decode cY_product 182 = .ok (.bipush 28, 2) := by decide +kernel
theorem dY_product_184 : decode cY_product 184 = .ok (.lshr, 1) := by decide +kernel
theorem dY_product_185 : decode cY_product 185 = .ok (.aload_n 0, 1) := by decide +kernel
theorem dY_product_186 : decode cY_product 186 = .ok (.getfield 44, 3) := by decide +kernel
theorem dY_product_189 : decode cY_product 189 = .ok (.lload 11, 2) := by decide +kernel
theorem dY_product_191 : decode cY_product 191 = .ok (.land, 1) := by decide +kernel
theorem dY_product_192 : decode cY_product 192 = .ok (.lmul, 1) := by decide +kernel
theorem dY_product_193 : decode cY_product 193 = .ok (.lload 6, 2) := by decide +kernel
theorem dY_product_195 : decode cY_product 195 = .ok (.lload 11, 2) := by decide +kernel
theorem dY_product_197 : decode cY_product 197 = .ok (.land, 1) := by decide +kernel
theorem dY_product_198 : decode cY_product 198 = .ok (.aload_n 0, 1) := by decide +kernel
theorem dY_product_199 : decode cY_product 199 = .ok (.getfield 44, 3) := by decide +kernel
theorem dY_product_202 : decode cY_product 202 = .ok (.bipush 28, 2) := by decide +kernel
theorem dY_product_204 : decode cY_product 204 = .ok (.lshr, 1) := by decide +kernel
theorem dY_product_205 : decode cY_product 205 = .ok (.lmul, 1) := by decide +kernel
theorem dY_product_206 : decode cY_product 206 = .ok (.ladd, 1) := by decide +kernel
theorem dY_product_207 : decode cY_product 207 = .ok (.lload 13, 2) := by decide +kernel
theorem dY_product_209 : decode cY_product 209 = .ok (.bipush 28, 2) := by decide +kernel
theorem dY_product_211 : decode cY_product 211 = .ok (.lshr, 1) := by decide +kernel
theorem dY_product_212 : decode cY_product 212 = .ok (.ladd, 1) := by decide +kernel
theorem dY_product_213 : decode cY_product 213 = .ok (.lstore 15, 2) := by decide +kernel
theorem dY_product_215 : decode cY_product 215 = .ok (.lload 6, 2) := by decide +kernel
theorem dY_product_217 : decode cY_product 217 = .ok (.bipush 28, 2) := by decide +kernel
theorem dY_product_219 : decode cY_product 219 = .ok (.lshr, 1) := by decide +kernel
theorem dY_product_220 : decode cY_product 220 = .ok (.aload_n 0, 1) := by decide +kernel
theorem dY_product_221 : decode cY_product 221 = .ok (.getfield 44, 3) := by decide +kernel
theorem dY_product_224 : decode cY_product 224 = .ok (.bipush 28, 2) := by decide +kernel
theorem dY_product_226 : decode cY_product 226 = .ok (.lshr, 1) := by decide +kernel
theorem dY_product_227 : decode cY_product 227 = .ok (.lmul, 1) := by decide +kernel
theorem dY_product_228 : decode cY_product 228 = .ok (.lstore 17, 2) := by decide +kernel
theorem dY_product_230 : decode cY_product 230 = .ok (.lload 13, 2) := by decide +kernel
theorem dY_product_232 : decode cY_product 232 = .ok (.lload 11, 2) := by decide +kernel
theorem dY_product_234 : decode cY_product 234 = .ok (.land, 1) := by decide +kernel
theorem dY_product_235 : decode cY_product 235 = .ok (.lconst 0, 1) := by decide +kernel
theorem dY_product_236 : decode cY_product 236 = .ok (.lcmp, 1) := by decide +kernel
theorem dY_product_237 : decode cY_product 237 = .ok (.ifCond .ne 14, 3) := by decide +kernel
theorem dY_product_240 : decode cY_product 240 = .ok (.lload 15, 2) := by decide +kernel
theorem dY_product_242 : decode cY_product 242 = .ok (.ldc2_w 110, 3) := by decide +kernel
theorem dY_product_245 : decode cY_product 245 = .ok (.land, 1) := by decide +kernel
theorem dY_product_246 : decode cY_product 246 = .ok (.lconst 0, 1) := by decide +kernel
theorem dY_product_247 : decode cY_product 247 = .ok (.lcmp, 1) := by decide +kernel
theorem dY_product_248 : decode cY_product 248 = .ok (.ifCond .eq 7, 3) := by decide +kernel
theorem dY_product_251 : decode cY_product 251 = .ok (.iconst 1, 1) := by decide +kernel
theorem dY_product_252 : decode cY_product 252 = .ok (.goto 4, 3) := by decide +kernel
theorem dY_product_255 : decode cY_product 255 = .ok (.iconst 0, 1) := by decide +kernel
theorem dY_product_256 : decode cY_product 256 = .ok (.istore 19, 2) := by decide +kernel
theorem dY_product_258 : decode cY_product 258 = .ok (.aload_n 0, 1) := by decide +kernel
theorem dY_product_259 : decode cY_product 259 = .ok (.aload_n 0, 1) := by decide +kernel
theorem dY_product_260 : decode cY_product 260 = .ok (.bipush 8, 2) := by decide +kernel
theorem dY_product_262 : decode cY_product 262 = .ok (.iload 10, 2) := by decide +kernel
theorem dY_product_264 : decode cY_product 264 = .ok (.lload 17, 2) := by decide +kernel
theorem dY_product_266 : decode cY_product 266 = .ok (.bipush 6, 2) := by decide +kernel
theorem dY_product_268 : decode cY_product 268 = .ok (.lshl, 1) := by decide +kernel
theorem dY_product_269 : decode cY_product 269 = .ok (.lload 15, 2) := by decide +kernel
theorem dY_product_271 : decode cY_product 271 = .ok (.bipush 22, 2) := by decide +kernel
theorem dY_product_273 : decode cY_product 273 = .ok (.lshr, 1) := by decide +kernel
theorem dY_product_274 : decode cY_product 274 = .ok (.ladd, 1) := by decide +kernel
theorem dY_product_275 : decode cY_product 275 = .ok (.iload 8, 2) := by decide +kernel
theorem dY_product_277 : decode cY_product 277 = .ok (.bipush 112, 2) := by decide +kernel
theorem dY_product_279 : decode cY_product 279 = .ok (.isub, 1) := by decide +kernel
theorem dY_product_280 : decode cY_product 280 = .ok (.bipush 50, 2) := by decide +kernel
theorem dY_product_282 : decode cY_product 282 = .ok (.iadd, 1) := by decide +kernel
theorem dY_product_283 : decode cY_product 283 = .ok (.iload 19, 2) := by decide +kernel
theorem dY_product_285 : decode cY_product 285 = .ok (.invokevirtual 74, 3) := by decide +kernel
theorem dY_product_288 : decode cY_product 288 = .ok (.iload 4, 2) := by decide +kernel
theorem dY_product_290 : decode cY_product 290 = .ok (.invokevirtual 100, 3) := by decide +kernel
theorem dY_product_293 : decode cY_product 293 = .ok (.ireturn, 1) := by decide +kernel
theorem dY_quotient_0 : decode cY_quotient 0 = .ok (.aload_n 0, 1) := by decide +kernel
theorem dY_quotient_1 : decode cY_quotient 1 = .ok (.iload_n 1, 1) := by decide +kernel
theorem dY_quotient_2 : decode cY_quotient 2 = .ok (.iload_n 2, 1) := by decide +kernel
theorem dY_quotient_3 : decode cY_quotient 3 = .ok (.iload_n 3, 1) := by decide +kernel
theorem dY_quotient_4 : decode cY_quotient 4 = .ok (.iload 4, 2) := by decide +kernel
theorem dY_quotient_6 : decode cY_quotient 6 = .ok (.invokevirtual 92, 3) := by decide +kernel
theorem dY_quotient_9 : decode cY_quotient 9 = .ok (.istore 5, 2) := by decide +kernel
theorem dY_quotient_11 : decode cY_quotient 11 = .ok (.iload 5, 2) := by decide +kernel
theorem dY_quotient_13 : decode cY_quotient 13 = .ok (.ifCond .ge 6, 3) := by decide +kernel
theorem dY_quotient_16 : decode cY_quotient 16 = .ok (.iload 5, 2) := by decide +kernel
theorem dY_quotient_18 : decode cY_quotient 18 = .ok (.ireturn, 1) := by decide +kernel
theorem dY_quotient_19 : decode cY_quotient 19 = .ok (.aload_n 0, 1) := by decide +kernel
theorem dY_quotient_20 : decode cY_quotient 20 = .ok (.iload_n 1, 1) := by decide +kernel
theorem dY_quotient_21 : decode cY_quotient 21 = .ok (.iload_n 2, 1) := by decide +kernel
theorem dY_quotient_22 : decode cY_quotient 22 = .ok (.invokevirtual 85, 3) := by decide +kernel
theorem dY_quotient_25 : decode cY_quotient 25 = .ok (.invokestatic 60, 3) := by decide +kernel
theorem dY_quotient_28 : decode cY_quotient 28 = .ok (.ifCond .eq 6, 3) := by decide +kernel
theorem dY_quotient_31 : decode cY_quotient 31 = .ok (.bipush (-4), 2) := by decide +kernel
theorem dY_quotient_33 : decode cY_quotient 33 = .ok (.ireturn, 1) := by decide +kernel
theorem dY_quotient_34 : decode cY_quotient 34 = .ok (.aload_n 0, 1) := by decide +kernel
theorem dY_quotient_35 : decode cY_quotient 35 = .ok (.iload_n 1, 1) := by decide +kernel
theorem dY_quotient_36 : decode cY_quotient 36 = .ok (.aload_n 0, 1) := by decide +kernel
theorem dY_quotient_37 : decode cY_quotient 37 = .ok (.iload_n 1, 1) := by decide +kernel
theorem dY_quotient_38 : decode cY_quotient 38 = .ok (.iload_n 3, 1) := by decide +kernel
theorem dY_quotient_39 : decode cY_quotient 39 = .ok (.invokevirtual 85, 3) := by decide +kernel
theorem dY_quotient_42 : decode cY_quotient 42 = .ok (.invokevirtual 70, 3) := by decide +kernel
theorem dY_quotient_45 : decode cY_quotient 45 = .ok (.aload_n 0, 1) := by decide +kernel
theorem dY_quotient_46 : decode cY_quotient 46 = .ok (.getfield 44, 3) := by decide +kernel
theorem dY_quotient_49 : decode cY_quotient 49 = .ok (.lstore 6, 2) := by decide +kernel
theorem dY_quotient_51 : decode cY_quotient 51 = .ok (.aload_n 0, 1) := by decide +kernel
theorem dY_quotient_52 : decode cY_quotient 52 = .ok (.getfield 34, 3) := by decide +kernel
theorem dY_quotient_55 : decode cY_quotient 55 = .ok (.istore 8, 2) := by decide +kernel
theorem dY_quotient_57 : decode cY_quotient 57 = .ok (.aload_n 0, 1) := by decide +kernel
theorem dY_quotient_58 : decode cY_quotient 58 = .ok (.getfield 29, 3) := by decide +kernel
theorem dY_quotient_61 : decode cY_quotient 61 = .ok (.istore 9, 2) := by decide +kernel
theorem dY_quotient_63 : decode cY_quotient 63 = .ok (.aload_n 0, 1) := by decide +kernel
theorem dY_quotient_64 : decode cY_quotient 64 = .ok (.iload_n 1, 1) := by decide +kernel
theorem dY_quotient_65 : decode cY_quotient 65 = .ok (.aload_n 0, 1) := by decide +kernel
theorem dY_quotient_66 : decode cY_quotient 66 = .ok (.iload_n 1, 1) := by decide +kernel
theorem dY_quotient_67 : decode cY_quotient 67 = .ok (.iload_n 2, 1) := by decide +kernel
theorem dY_quotient_68 : decode cY_quotient 68 = .ok (.invokevirtual 85, 3) := by decide +kernel
theorem dY_quotient_71 : decode cY_quotient 71 = .ok (.invokevirtual 70, 3) := by decide +kernel
theorem dY_quotient_74 : decode cY_quotient 74 = .ok (.aload_n 0, 1) := by decide +kernel
theorem dY_quotient_75 : decode cY_quotient 75 = .ok (.iconst 0, 1) := by decide +kernel
theorem dY_quotient_76 : decode cY_quotient 76 = .ok (.putfield 48, 3) := by decide +kernel
theorem dY_quotient_79 : decode cY_quotient 79 = .ok (.aload_n 0, 1) := by decide +kernel
theorem dY_quotient_80 : decode cY_quotient 80 = .ok (.iconst 0, 1) := by decide +kernel
theorem dY_quotient_81 : decode cY_quotient 81 = .ok (.putfield 51, 3) := by decide +kernel
theorem dY_quotient_84 : decode cY_quotient 84 = .ok (.lload 6, 2) := by decide +kernel
theorem dY_quotient_86 : decode cY_quotient 86 = .ok (.lconst 0, 1) := by decide +kernel
theorem dY_quotient_87 : decode cY_quotient 87 = .ok (.lcmp, 1) := by decide +kernel
theorem dY_quotient_88 : decode cY_quotient 88 = .ok (.ifCond .ne 11, 3) := by decide +kernel
theorem dY_quotient_91 : decode cY_quotient 91 = .ok (.aload_n 0, 1) := by decide +kernel
theorem dY_quotient_92 : decode cY_quotient 92 = .ok (.lconst 0, 1) := by decide +kernel
theorem dY_quotient_93 : decode cY_quotient 93 = .ok (.iload 4, 2) := by decide +kernel
theorem dY_quotient_95 : decode cY_quotient 95 = .ok (.invokevirtual 100, 3) := by decide +kernel
theorem dY_quotient_98 : decode cY_quotient 98 = .ok (.ireturn, 1) := by decide +kernel
theorem dY_quotient_99 : decode cY_quotient 99 = .ok (.iload_n 1, 1) := by decide +kernel
theorem dY_quotient_100 : decode cY_quotient 100 = .ok (.invokestatic 54, 3) := by decide +kernel
theorem dY_quotient_103 : decode cY_quotient 103 = .ok (.istore 10, 2) := by decide +kernel
theorem dY_quotient_105 : decode cY_quotient 105 = .ok (.lload 6, 2) := by decide +kernel
theorem dY_quotient_107 : decode cY_quotient 107 = .ok (.aload_n 0, 1) := by decide +kernel
theorem dY_quotient_108 : decode cY_quotient 108 = .ok (.getfield 44, 3) := by decide +kernel
theorem dY_quotient_111 : decode cY_quotient 111 = .ok (.ldiv, 1) := by decide +kernel
theorem dY_quotient_112 : decode cY_quotient 112 = .ok (.lstore 11, 2) := by decide +kernel
theorem dY_quotient_114 : decode cY_quotient 114 = .ok (.lload 6, 2) := by decide +kernel
theorem dY_quotient_116 : decode cY_quotient 116 = .ok (.aload_n 0, 1) := by decide +kernel
theorem dY_quotient_117 : decode cY_quotient 117 = .ok (.getfield 44, 3) := by decide +kernel
theorem dY_quotient_120 : decode cY_quotient 120 = .ok (.lrem, 1) := by decide +kernel
theorem dY_quotient_121 : decode cY_quotient 121 = .ok (.lstore 13, 2) := by decide +kernel
theorem dY_quotient_123 : decode cY_quotient 123 = .ok (.iconst 0, 1) := by decide +kernel
theorem dY_quotient_124 : decode cY_quotient 124 = .ok (.istore 15, 2) := by decide +kernel
end
section
theorem dY_quotient_126 : decode cY_quotient 126 = .ok (.iload 15, 2) := by decide +kernel
theorem dY_quotient_128 : decode cY_quotient 128 = .ok (.iload 10, 2) := by decide +kernel
theorem dY_quotient_130 : decode cY_quotient 130 = .ok (.iconst 2, 1) := by decide +kernel
theorem dY_quotient_131 : decode cY_quotient 131 = .ok (.iadd, 1) := by decide +kernel
theorem dY_quotient_132 : decode cY_quotient 132 = .ok (.if_icmp .ge 46, 3) := by decide +kernel
theorem dY_quotient_135 : decode cY_quotient 135 = .ok (.lload 13, 2) := by decide +kernel
theorem dY_quotient_137 : decode cY_quotient 137 = .ok (.iconst 1, 1) := by decide +kernel
theorem dY_quotient_138 : decode cY_quotient 138 = .ok (.lshl, 1) := by decide +kernel
theorem dY_quotient_139 : decode cY_quotient 139 = .ok (.lstore 13, 2) := by decide +kernel
theorem dY_quotient_141 : decode cY_quotient 141 = .ok (.lload 11, 2) := by decide +kernel
theorem dY_quotient_143 : decode cY_quotient 143 = .ok (.iconst 1, 1) := by decide +kernel
theorem dY_quotient_144 : decode cY_quotient 144 = .ok (.lshl, 1) := by decide +kernel
theorem dY_quotient_145 : decode cY_quotient 145 = .ok (.lstore 11, 2) := by decide +kernel
theorem dY_quotient_147 : decode cY_quotient 147 = .ok (.lload 13, 2) := by decide +kernel
theorem dY_quotient_149 : decode cY_quotient 149 = .ok (.aload_n 0, 1) := by decide +kernel
theorem dY_quotient_150 : decode cY_quotient 150 = .ok (.getfield 44, 3) := by decide +kernel
theorem dY_quotient_153 : decode cY_quotient 153 = .ok (.lcmp, 1) := by decide +kernel
theorem dY_quotient_154 : decode cY_quotient 154 = .ok (.ifCond .lt 18, 3) := by decide +kernel
theorem dY_quotient_157 : decode cY_quotient 157 = .ok (.lload 13, 2) := by decide +kernel
theorem dY_quotient_159 : decode cY_quotient 159 = .ok (.aload_n 0, 1) := by decide +kernel
theorem dY_quotient_160 : decode cY_quotient 160 = .ok (.getfield 44, 3) := by decide +kernel
theorem dY_quotient_163 : decode cY_quotient 163 = .ok (.lsub, 1) := by decide +kernel
theorem dY_quotient_164 : decode cY_quotient 164 = .ok (.lstore 13, 2) := by decide +kernel
theorem dY_quotient_166 : decode cY_quotient 166 = .ok (.lload 11, 2) := by decide +kernel
theorem dY_quotient_168 : decode cY_quotient 168 = .ok (.lconst 1, 1) := by decide +kernel
theorem dY_quotient_169 : decode cY_quotient 169 = .ok (.ladd, 1) := by decide +kernel
theorem dY_quotient_170 : decode cY_quotient 170 = .ok (.lstore 11, 2) := by decide +kernel
theorem dY_quotient_172 : decode cY_quotient 172 = .ok (.iinc 15 1, 3) := by decide +kernel
theorem dY_quotient_175 : decode cY_quotient 175 = .ok (.goto (-49), 3) := by decide +kernel
theorem dY_quotient_178 : decode cY_quotient 178 = .ok (.aload_n 0, 1) := by decide +kernel
theorem dY_quotient_179 : decode cY_quotient 179 = .ok (.aload_n 0, 1) := by decide +kernel
theorem dY_quotient_180 : decode cY_quotient 180 = .ok (.iload_n 1, 1) := by decide +kernel
theorem dY_quotient_181 : decode cY_quotient 181 = .ok (.iload 9, 2) := by decide +kernel
theorem dY_quotient_183 : decode cY_quotient 183 = .ok (.aload_n 0, 1) := by decide +kernel
theorem dY_quotient_184 : decode cY_quotient 184 = .ok (.getfield 29, 3) := by decide +kernel
theorem dY_quotient_187 : decode cY_quotient 187 = .ok (.if_icmp .eq 7, 3) := by decide +kernel
theorem dY_quotient_190 : decode cY_quotient 190 = .ok (.iconst 1, 1) := by decide +kernel
theorem dY_quotient_191 : decode cY_quotient 191 = .ok (.goto 4, 3) := by decide +kernel
theorem dY_quotient_194 : decode cY_quotient 194 = .ok (.iconst 0, 1) := by decide +kernel
theorem dY_quotient_195 : decode cY_quotient 195 = .ok (.lload 11, 2) := by decide +kernel
theorem dY_quotient_197 : decode cY_quotient 197 = .ok (.iload 8, 2) := by decide +kernel
theorem dY_quotient_199 : decode cY_quotient 199 = .ok (.aload_n 0, 1) := by decide +kernel
theorem dY_quotient_200 : decode cY_quotient 200 = .ok (.getfield 34, 3) := by decide +kernel
theorem dY_quotient_203 : decode cY_quotient 203 = .ok (.isub, 1) := by decide +kernel
theorem dY_quotient_204 : decode cY_quotient 204 = .ok (.iload 10, 2) := by decide +kernel
theorem dY_quotient_206 : decode cY_quotient 206 = .ok (.isub, 1) := by decide +kernel
theorem dY_quotient_207 : decode cY_quotient 207 = .ok (.iconst 2, 1) := by decide +kernel
theorem dY_quotient_208 : decode cY_quotient 208 = .ok (.isub, 1) := by decide +kernel
theorem dY_quotient_209 : decode cY_quotient 209 = .ok (.lload 13, 2) := by decide +kernel
theorem dY_quotient_211 : decode cY_quotient 211 = .ok (.lconst 0, 1) := by decide +kernel
theorem dY_quotient_212 : decode cY_quotient 212 = .ok (.lcmp, 1) := by decide +kernel
theorem dY_quotient_213 : decode cY_quotient 213 = .ok (.ifCond .eq 7, 3) := by decide +kernel
theorem dY_quotient_216 : decode cY_quotient 216 = .ok (.iconst 1, 1) := by decide +kernel
theorem dY_quotient_217 : decode cY_quotient 217 = .ok (.goto 4, 3) := by decide +kernel
theorem dY_quotient_220 : decode cY_quotient 220 = .ok (.iconst 0, 1) := by decide +kernel
theorem dY_quotient_221 : decode cY_quotient 221 = .ok (.invokevirtual 74, 3) := by decide +kernel
theorem dY_quotient_224 : decode cY_quotient 224 = .ok (.iload 4, 2) := by decide +kernel
theorem dY_quotient_226 : decode cY_quotient 226 = .ok (.invokevirtual 100, 3) := by decide +kernel
theorem dY_quotient_229 : decode cY_quotient 229 = .ok (.ireturn, 1) := by decide +kernel
theorem dY_one_0 : decode cY_one 0 = .ok (.iload_n 1, 1) := by decide +kernel
theorem dY_one_1 : decode cY_one 1 = .ok (.invokestatic 78, 3) := by decide +kernel
theorem dY_one_4 : decode cY_one 4 = .ok (.ifCond .eq 17, 3) := by decide +kernel
theorem dY_one_7 : decode cY_one 7 = .ok (.iload_n 2, 1) := by decide +kernel
theorem dY_one_8 : decode cY_one 8 = .ok (.invokestatic 82, 3) := by decide +kernel
theorem dY_one_11 : decode cY_one 11 = .ok (.ifCond .eq 10, 3) := by decide +kernel
theorem dY_one_14 : decode cY_one 14 = .ok (.iload_n 3, 1) := by decide +kernel
theorem dY_one_15 : decode cY_one 15 = .ok (.invokestatic 82, 3) := by decide +kernel
theorem dY_one_18 : decode cY_one 18 = .ok (.ifCond .ne 6, 3) := by decide +kernel
theorem dY_one_21 : decode cY_one 21 = .ok (.bipush (-5), 2) := by decide +kernel
theorem dY_one_23 : decode cY_one 23 = .ok (.ireturn, 1) := by decide +kernel
theorem dY_one_24 : decode cY_one 24 = .ok (.aload_n 0, 1) := by decide +kernel
theorem dY_one_25 : decode cY_one 25 = .ok (.iload_n 1, 1) := by decide +kernel
theorem dY_one_26 : decode cY_one 26 = .ok (.iload_n 2, 1) := by decide +kernel
theorem dY_one_27 : decode cY_one 27 = .ok (.invokevirtual 85, 3) := by decide +kernel
theorem dY_one_30 : decode cY_one 30 = .ok (.invokestatic 89, 3) := by decide +kernel
theorem dY_one_33 : decode cY_one 33 = .ok (.ifCond .eq 7, 3) := by decide +kernel
theorem dY_one_36 : decode cY_one 36 = .ok (.iconst (-1), 1) := by decide +kernel
theorem dY_one_37 : decode cY_one 37 = .ok (.goto 4, 3) := by decide +kernel
theorem dY_one_40 : decode cY_one 40 = .ok (.iconst 0, 1) := by decide +kernel
theorem dY_one_41 : decode cY_one 41 = .ok (.ireturn, 1) := by decide +kernel
theorem dY_negative_0 : decode cY_negative 0 = .ok (.aload_n 0, 1) := by decide +kernel
theorem dY_negative_1 : decode cY_negative 1 = .ok (.iload_n 1, 1) := by decide +kernel
theorem dY_negative_2 : decode cY_negative 2 = .ok (.iload_n 2, 1) := by decide +kernel
theorem dY_negative_3 : decode cY_negative 3 = .ok (.iload_n 3, 1) := by decide +kernel
theorem dY_negative_4 : decode cY_negative 4 = .ok (.invokevirtual 112, 3) := by decide +kernel
theorem dY_negative_7 : decode cY_negative 7 = .ok (.istore 4, 2) := by decide +kernel
theorem dY_negative_9 : decode cY_negative 9 = .ok (.iload 4, 2) := by decide +kernel
theorem dY_negative_11 : decode cY_negative 11 = .ok (.ifCond .ge 6, 3) := by decide +kernel
theorem dY_negative_14 : decode cY_negative 14 = .ok (.iload 4, 2) := by decide +kernel
theorem dY_negative_16 : decode cY_negative 16 = .ok (.ireturn, 1) := by decide +kernel
theorem dY_negative_17 : decode cY_negative 17 = .ok (.aload_n 0, 1) := by decide +kernel
theorem dY_negative_18 : decode cY_negative 18 = .ok (.iconst 0, 1) := by decide +kernel
theorem dY_negative_19 : decode cY_negative 19 = .ok (.putfield 48, 3) := by decide +kernel
theorem dY_negative_22 : decode cY_negative 22 = .ok (.aload_n 0, 1) := by decide +kernel
theorem dY_negative_23 : decode cY_negative 23 = .ok (.iconst 0, 1) := by decide +kernel
theorem dY_negative_24 : decode cY_negative 24 = .ok (.putfield 51, 3) := by decide +kernel
theorem dY_negative_27 : decode cY_negative 27 = .ok (.aload_n 0, 1) := by decide +kernel
theorem dY_negative_28 : decode cY_negative 28 = .ok (.aload_n 0, 1) := by decide +kernel
theorem dY_negative_29 : decode cY_negative 29 = .ok (.iload_n 1, 1) := by decide +kernel
theorem dY_negative_30 : decode cY_negative 30 = .ok (.iload_n 2, 1) := by decide +kernel
theorem dY_negative_31 : decode cY_negative 31 = .ok (.invokevirtual 85, 3) := by decide +kernel
theorem dY_negative_34 : decode cY_negative 34 = .ok (.invokestatic 104, 3) := by decide +kernel
theorem dY_negative_37 : decode cY_negative 37 = .ok (.iload_n 3, 1) := by decide +kernel
theorem dY_negative_38 : decode cY_negative 38 = .ok (.invokevirtual 100, 3) := by decide +kernel
theorem dY_negative_41 : decode cY_negative 41 = .ok (.ireturn, 1) := by decide +kernel
theorem dY_compare_0 : decode cY_compare 0 = .ok (.aload_n 0, 1) := by decide +kernel
theorem dY_compare_1 : decode cY_compare 1 = .ok (.iload_n 1, 1) := by decide +kernel
theorem dY_compare_2 : decode cY_compare 2 = .ok (.iload_n 2, 1) := by decide +kernel
theorem dY_compare_3 : decode cY_compare 3 = .ok (.iload_n 3, 1) := by decide +kernel
theorem dY_compare_4 : decode cY_compare 4 = .ok (.iconst 0, 1) := by decide +kernel
theorem dY_compare_5 : decode cY_compare 5 = .ok (.invokevirtual 92, 3) := by decide +kernel
theorem dY_compare_8 : decode cY_compare 8 = .ok (.istore 4, 2) := by decide +kernel
theorem dY_compare_10 : decode cY_compare 10 = .ok (.iload 4, 2) := by decide +kernel
theorem dY_compare_12 : decode cY_compare 12 = .ok (.ifCond .ge 6, 3) := by decide +kernel
theorem dY_compare_15 : decode cY_compare 15 = .ok (.iload 4, 2) := by decide +kernel
theorem dY_compare_17 : decode cY_compare 17 = .ok (.ireturn, 1) := by decide +kernel
theorem dY_compare_18 : decode cY_compare 18 = .ok (.aload_n 0, 1) := by decide +kernel
theorem dY_compare_19 : decode cY_compare 19 = .ok (.iload_n 1, 1) := by decide +kernel
theorem dY_compare_20 : decode cY_compare 20 = .ok (.iload_n 2, 1) := by decide +kernel
theorem dY_compare_21 : decode cY_compare 21 = .ok (.invokevirtual 85, 3) := by decide +kernel
theorem dY_compare_24 : decode cY_compare 24 = .ok (.lstore 5, 2) := by decide +kernel
theorem dY_compare_26 : decode cY_compare 26 = .ok (.aload_n 0, 1) := by decide +kernel
theorem dY_compare_27 : decode cY_compare 27 = .ok (.iload_n 1, 1) := by decide +kernel
theorem dY_compare_28 : decode cY_compare 28 = .ok (.iload_n 3, 1) := by decide +kernel
theorem dY_compare_29 : decode cY_compare 29 = .ok (.invokevirtual 85, 3) := by decide +kernel
theorem dY_compare_32 : decode cY_compare 32 = .ok (.lstore 7, 2) := by decide +kernel
theorem dY_compare_34 : decode cY_compare 34 = .ok (.lload 5, 2) := by decide +kernel
theorem dY_compare_36 : decode cY_compare 36 = .ok (.invokestatic 60, 3) := by decide +kernel
theorem dY_compare_39 : decode cY_compare 39 = .ok (.ifCond .eq 7, 3) := by decide +kernel
theorem dY_compare_42 : decode cY_compare 42 = .ok (.iconst 0, 1) := by decide +kernel
theorem dY_compare_43 : decode cY_compare 43 = .ok (.goto 16, 3) := by decide +kernel
theorem dY_compare_46 : decode cY_compare 46 = .ok (.lload 5, 2) := by decide +kernel
theorem dY_compare_48 : decode cY_compare 48 = .ok (.invokestatic 25, 3) := by decide +kernel
theorem dY_compare_51 : decode cY_compare 51 = .ok (.ifCond .eq 7, 3) := by decide +kernel
theorem dY_compare_54 : decode cY_compare 54 = .ok (.iconst (-1), 1) := by decide +kernel
theorem dY_compare_55 : decode cY_compare 55 = .ok (.goto 4, 3) := by decide +kernel
theorem dY_compare_58 : decode cY_compare 58 = .ok (.iconst 1, 1) := by decide +kernel
theorem dY_compare_59 : decode cY_compare 59 = .ok (.istore 9, 2) := by decide +kernel
theorem dY_compare_61 : decode cY_compare 61 = .ok (.lload 7, 2) := by decide +kernel
theorem dY_compare_63 : decode cY_compare 63 = .ok (.invokestatic 60, 3) := by decide +kernel
theorem dY_compare_66 : decode cY_compare 66 = .ok (.ifCond .eq 7, 3) := by decide +kernel
theorem dY_compare_69 : decode cY_compare 69 = .ok (.iconst 0, 1) := by decide +kernel
theorem dY_compare_70 : decode cY_compare 70 = .ok (.goto 16, 3) := by decide +kernel
theorem dY_compare_73 : decode cY_compare 73 = .ok (.lload 7, 2) := by decide +kernel
theorem dY_compare_75 : decode cY_compare 75 = .ok (.invokestatic 25, 3) := by decide +kernel
theorem dY_compare_78 : decode cY_compare 78 = .ok (.ifCond .eq 7, 3) := by decide +kernel
theorem dY_compare_81 : decode cY_compare 81 = .ok (.iconst (-1), 1) := by decide +kernel
theorem dY_compare_82 : decode cY_compare 82 = .ok (.goto 4, 3) := by decide +kernel
theorem dY_compare_85 : decode cY_compare 85 = .ok (.iconst 1, 1) := by decide +kernel
theorem dY_compare_86 : decode cY_compare 86 = .ok (.istore 10, 2) := by decide +kernel
theorem dY_compare_88 : decode cY_compare 88 = .ok (.iload 9, 2) := by decide +kernel
theorem dY_compare_90 : decode cY_compare 90 = .ok (.iload 10, 2) := by decide +kernel
theorem dY_compare_92 : decode cY_compare 92 = .ok (.if_icmp .eq 17, 3) := by decide +kernel
theorem dY_compare_95 : decode cY_compare 95 = .ok (.iload 9, 2) := by decide +kernel
theorem dY_compare_97 : decode cY_compare 97 = .ok (.iload 10, 2) := by decide +kernel
theorem dY_compare_99 : decode cY_compare 99 = .ok (.if_icmp .ge 8, 3) := by decide +kernel
theorem dY_compare_102 : decode cY_compare 102 = .ok (.bipush 8, 2) := by decide +kernel
theorem dY_compare_104 : decode cY_compare 104 = .ok (.goto 4, 3) := by decide +kernel
theorem dY_compare_107 : decode cY_compare 107 = .ok (.iconst 0, 1) := by decide +kernel
theorem dY_compare_108 : decode cY_compare 108 = .ok (.ireturn, 1) := by decide +kernel
theorem dY_compare_109 : decode cY_compare 109 = .ok (.iload 9, 2) := by decide +kernel
theorem dY_compare_111 : decode cY_compare 111 = .ok (.ifCond .ne 5, 3) := by decide +kernel
theorem dY_compare_114 : decode cY_compare 114 = .ok (.iconst 4, 1) := by decide +kernel
theorem dY_compare_115 : decode cY_compare 115 = .ok (.ireturn, 1) := by decide +kernel
theorem dY_compare_116 : decode cY_compare 116 = .ok (.aload_n 0, 1) := by decide +kernel
theorem dY_compare_117 : decode cY_compare 117 = .ok (.iload_n 1, 1) := by decide +kernel
theorem dY_compare_118 : decode cY_compare 118 = .ok (.lload 5, 2) := by decide +kernel
theorem dY_compare_120 : decode cY_compare 120 = .ok (.invokevirtual 70, 3) := by decide +kernel
theorem dY_compare_123 : decode cY_compare 123 = .ok (.aload_n 0, 1) := by decide +kernel
theorem dY_compare_124 : decode cY_compare 124 = .ok (.getfield 34, 3) := by decide +kernel
theorem dY_compare_127 : decode cY_compare 127 = .ok (.istore 11, 2) := by decide +kernel
theorem dY_compare_129 : decode cY_compare 129 = .ok (.aload_n 0, 1) := by decide +kernel
theorem dY_compare_130 : decode cY_compare 130 = .ok (.getfield 44, 3) := by decide +kernel
theorem dY_compare_133 : decode cY_compare 133 = .ok (.lstore 12, 2) := by decide +kernel
theorem dY_compare_135 : decode cY_compare 135 = .ok (.aload_n 0, 1) := by decide +kernel
theorem dY_compare_136 : decode cY_compare 136 = .ok (.iload_n 1, 1) := by decide +kernel
theorem dY_compare_137 : decode cY_compare 137 = .ok (.lload 7, 2) := by decide +kernel
theorem dY_compare_139 : decode cY_compare 139 = .ok (.invokevirtual 70, 3) := by decide +kernel
theorem dY_compare_142 : decode cY_compare 142 = .ok (.iload 11, 2) := by decide +kernel
theorem dY_compare_144 : decode cY_compare 144 = .ok (.aload_n 0, 1) := by decide +kernel
theorem dY_compare_145 : decode cY_compare 145 = .ok (.getfield 34, 3) := by decide +kernel
theorem dY_compare_148 : decode cY_compare 148 = .ok (.if_icmp .ne 15, 3) := by decide +kernel
theorem dY_compare_151 : decode cY_compare 151 = .ok (.lload 12, 2) := by decide +kernel
theorem dY_compare_153 : decode cY_compare 153 = .ok (.aload_n 0, 1) := by decide +kernel
theorem dY_compare_154 : decode cY_compare 154 = .ok (.getfield 44, 3) := by decide +kernel
theorem dY_compare_157 : decode cY_compare 157 = .ok (.lcmp, 1) := by decide +kernel
theorem dY_compare_158 : decode cY_compare 158 = .ok (.ifCond .ne 5, 3) := by decide +kernel
theorem dY_compare_161 : decode cY_compare 161 = .ok (.iconst 4, 1) := by decide +kernel
theorem dY_compare_162 : decode cY_compare 162 = .ok (.ireturn, 1) := by decide +kernel
theorem dY_compare_163 : decode cY_compare 163 = .ok (.iload 11, 2) := by decide +kernel
theorem dY_compare_165 : decode cY_compare 165 = .ok (.aload_n 0, 1) := by decide +kernel
theorem dY_compare_166 : decode cY_compare 166 = .ok (.getfield 34, 3) := by decide +kernel
theorem dY_compare_169 : decode cY_compare 169 = .ok (.if_icmp .lt 22, 3) := by decide +kernel
theorem dY_compare_172 : decode cY_compare 172 = .ok (.iload 11, 2) := by decide +kernel
theorem dY_compare_174 : decode cY_compare 174 = .ok (.aload_n 0, 1) := by decide +kernel
theorem dY_compare_175 : decode cY_compare 175 = .ok (.getfield 34, 3) := by decide +kernel
theorem dY_compare_178 : decode cY_compare 178 = .ok (.if_icmp .ne 17, 3) := by decide +kernel
theorem dY_compare_181 : decode cY_compare 181 = .ok (.lload 12, 2) := by decide +kernel
theorem dY_compare_183 : decode cY_compare 183 = .ok (.aload_n 0, 1) := by decide +kernel
theorem dY_compare_184 : decode cY_compare 184 = .ok (.getfield 44, 3) := by decide +kernel
theorem dY_compare_187 : decode cY_compare 187 = .ok (.lcmp, 1) := by decide +kernel
theorem dY_compare_188 : decode cY_compare 188 = .ok (.ifCond .ge 7, 3) := by decide +kernel
theorem dY_compare_191 : decode cY_compare 191 = .ok (.iconst 1, 1) := by decide +kernel
theorem dY_compare_192 : decode cY_compare 192 = .ok (.goto 4, 3) := by decide +kernel
theorem dY_compare_195 : decode cY_compare 195 = .ok (.iconst 0, 1) := by decide +kernel
theorem dY_compare_196 : decode cY_compare 196 = .ok (.istore 14, 2) := by decide +kernel
theorem dY_compare_198 : decode cY_compare 198 = .ok (.iload 14, 2) := by decide +kernel
theorem dY_compare_200 : decode cY_compare 200 = .ok (.iload 9, 2) := by decide +kernel
theorem dY_compare_202 : decode cY_compare 202 = .ok (.ifCond .le 7, 3) := by decide +kernel
theorem dY_compare_205 : decode cY_compare 205 = .ok (.iconst 1, 1) := by decide +kernel
theorem dY_compare_206 : decode cY_compare 206 = .ok (.goto 4, 3) := by decide +kernel
theorem dY_compare_209 : decode cY_compare 209 = .ok (.iconst 0, 1) := by decide +kernel
theorem dY_compare_210 : decode cY_compare 210 = .ok (.if_icmp .ne 8, 3) := by decide +kernel
theorem dY_compare_213 : decode cY_compare 213 = .ok (.bipush 8, 2) := by decide +kernel
theorem dY_compare_215 : decode cY_compare 215 = .ok (.goto 4, 3) := by decide +kernel
theorem dY_compare_218 : decode cY_compare 218 = .ok (.iconst 0, 1) := by decide +kernel
theorem dY_compare_219 : decode cY_compare 219 = .ok (.ireturn, 1) := by decide +kernel
theorem dY_change_0 : decode cY_change 0 = .ok (.aload_n 0, 1) := by decide +kernel
theorem dY_change_1 : decode cY_change 1 = .ok (.iload_n 1, 1) := by decide +kernel
theorem dY_change_2 : decode cY_change 2 = .ok (.iload_n 2, 1) := by decide +kernel
theorem dY_change_3 : decode cY_change 3 = .ok (.iload_n 3, 1) := by decide +kernel
theorem dY_change_4 : decode cY_change 4 = .ok (.invokevirtual 112, 3) := by decide +kernel
theorem dY_change_7 : decode cY_change 7 = .ok (.istore 4, 2) := by decide +kernel
theorem dY_change_9 : decode cY_change 9 = .ok (.iload 4, 2) := by decide +kernel
theorem dY_change_11 : decode cY_change 11 = .ok (.ifCond .ge 6, 3) := by decide +kernel
theorem dY_change_14 : decode cY_change 14 = .ok (.iload 4, 2) := by decide +kernel
theorem dY_change_16 : decode cY_change 16 = .ok (.ireturn, 1) := by decide +kernel
theorem dY_change_17 : decode cY_change 17 = .ok (.aload_n 0, 1) := by decide +kernel
theorem dY_change_18 : decode cY_change 18 = .ok (.iload_n 1, 1) := by decide +kernel
theorem dY_change_19 : decode cY_change 19 = .ok (.aload_n 0, 1) := by decide +kernel
theorem dY_change_20 : decode cY_change 20 = .ok (.iload_n 1, 1) := by decide +kernel
theorem dY_change_21 : decode cY_change 21 = .ok (.iload_n 2, 1) := by decide +kernel
theorem dY_change_22 : decode cY_change 22 = .ok (.invokevirtual 85, 3) := by decide +kernel
theorem dY_change_25 : decode cY_change 25 = .ok (.invokevirtual 70, 3) := by decide +kernel
theorem dY_change_28 : decode cY_change 28 = .ok (.aload_n 0, 1) := by decide +kernel
theorem dY_change_29 : decode cY_change 29 = .ok (.aload_n 0, 1) := by decide +kernel
theorem dY_change_30 : decode cY_change 30 = .ok (.bipush 12, 2) := by decide +kernel
theorem dY_change_32 : decode cY_change 32 = .ok (.iload_n 1, 1) := by decide +kernel
theorem dY_change_33 : decode cY_change 33 = .ok (.isub, 1) := by decide +kernel
theorem dY_change_34 : decode cY_change 34 = .ok (.aload_n 0, 1) := by decide +kernel
theorem dY_change_35 : decode cY_change 35 = .ok (.getfield 29, 3) := by decide +kernel
theorem dY_change_38 : decode cY_change 38 = .ok (.aload_n 0, 1) := by decide +kernel
theorem dY_change_39 : decode cY_change 39 = .ok (.getfield 44, 3) := by decide +kernel
theorem dY_change_42 : decode cY_change 42 = .ok (.aload_n 0, 1) := by decide +kernel
theorem dY_change_43 : decode cY_change 43 = .ok (.getfield 34, 3) := by decide +kernel
theorem dY_change_46 : decode cY_change 46 = .ok (.sipush 128, 3) := by decide +kernel
theorem dY_change_49 : decode cY_change 49 = .ok (.isub, 1) := by decide +kernel
theorem dY_change_50 : decode cY_change 50 = .ok (.bipush 56, 2) := by decide +kernel
theorem dY_change_52 : decode cY_change 52 = .ok (.isub, 1) := by decide +kernel
theorem dY_change_53 : decode cY_change 53 = .ok (.iconst 0, 1) := by decide +kernel
theorem dY_change_54 : decode cY_change 54 = .ok (.invokevirtual 74, 3) := by decide +kernel
theorem dY_change_57 : decode cY_change 57 = .ok (.iload_n 3, 1) := by decide +kernel
theorem dY_change_58 : decode cY_change 58 = .ok (.invokevirtual 100, 3) := by decide +kernel
theorem dY_change_61 : decode cY_change 61 = .ok (.ireturn, 1) := by decide +kernel
theorem dY_whole_0 : decode cY_whole 0 = .ok (.aload_n 0, 1) := by decide +kernel
theorem dY_whole_1 : decode cY_whole 1 = .ok (.iload_n 1, 1) := by decide +kernel
theorem dY_whole_2 : decode cY_whole 2 = .ok (.iload_n 2, 1) := by decide +kernel
theorem dY_whole_3 : decode cY_whole 3 = .ok (.iload 5, 2) := by decide +kernel
theorem dY_whole_5 : decode cY_whole 5 = .ok (.invokevirtual 112, 3) := by decide +kernel
theorem dY_whole_8 : decode cY_whole 8 = .ok (.istore 6, 2) := by decide +kernel
theorem dY_whole_10 : decode cY_whole 10 = .ok (.iload 6, 2) := by decide +kernel
theorem dY_whole_12 : decode cY_whole 12 = .ok (.bipush (-5), 2) := by decide +kernel
theorem dY_whole_14 : decode cY_whole 14 = .ok (.if_icmp .eq 18, 3) := by decide +kernel
theorem dY_whole_17 : decode cY_whole 17 = .ok (.iload_n 3, 1) := by decide +kernel
theorem dY_whole_18 : decode cY_whole 18 = .ok (.iconst 1, 1) := by decide +kernel
theorem dY_whole_19 : decode cY_whole 19 = .ok (.if_icmp .eq 16, 3) := by decide +kernel
theorem dY_whole_22 : decode cY_whole 22 = .ok (.iload_n 3, 1) := by decide +kernel
theorem dY_whole_23 : decode cY_whole 23 = .ok (.iconst 2, 1) := by decide +kernel
theorem dY_whole_24 : decode cY_whole 24 = .ok (.if_icmp .eq 11, 3) := by decide +kernel
theorem dY_whole_27 : decode cY_whole 27 = .ok (.iload_n 3, 1) := by decide +kernel
theorem dY_whole_28 : decode cY_whole 28 = .ok (.iconst 4, 1) := by decide +kernel
theorem dY_whole_29 : decode cY_whole 29 = .ok (.if_icmp .eq 6, 3) := by decide +kernel
theorem dY_whole_32 : decode cY_whole 32 = .ok (.bipush (-5), 2) := by decide +kernel
theorem dY_whole_34 : decode cY_whole 34 = .ok (.ireturn, 1) := by decide +kernel
theorem dY_whole_35 : decode cY_whole 35 = .ok (.iload 6, 2) := by decide +kernel
theorem dY_whole_37 : decode cY_whole 37 = .ok (.ifCond .ge 6, 3) := by decide +kernel
theorem dY_whole_40 : decode cY_whole 40 = .ok (.iload 6, 2) := by decide +kernel
theorem dY_whole_42 : decode cY_whole 42 = .ok (.ireturn, 1) := by decide +kernel
theorem dY_whole_43 : decode cY_whole 43 = .ok (.aload_n 0, 1) := by decide +kernel
theorem dY_whole_44 : decode cY_whole 44 = .ok (.iload_n 1, 1) := by decide +kernel
theorem dY_whole_45 : decode cY_whole 45 = .ok (.aload_n 0, 1) := by decide +kernel
theorem dY_whole_46 : decode cY_whole 46 = .ok (.iload_n 1, 1) := by decide +kernel
theorem dY_whole_47 : decode cY_whole 47 = .ok (.iload_n 2, 1) := by decide +kernel
theorem dY_whole_48 : decode cY_whole 48 = .ok (.invokevirtual 85, 3) := by decide +kernel
theorem dY_whole_51 : decode cY_whole 51 = .ok (.invokevirtual 70, 3) := by decide +kernel
theorem dY_whole_54 : decode cY_whole 54 = .ok (.aload_n 0, 1) := by decide +kernel
theorem dY_whole_55 : decode cY_whole 55 = .ok (.getfield 34, 3) := by decide +kernel
theorem dY_whole_58 : decode cY_whole 58 = .ok (.sipush 128, 3) := by decide +kernel
theorem dY_whole_61 : decode cY_whole 61 = .ok (.isub, 1) := by decide +kernel
theorem dY_whole_62 : decode cY_whole 62 = .ok (.bipush 56, 2) := by decide +kernel
theorem dY_whole_64 : decode cY_whole 64 = .ok (.isub, 1) := by decide +kernel
theorem dY_whole_65 : decode cY_whole 65 = .ok (.istore 7, 2) := by decide +kernel
theorem dY_whole_67 : decode cY_whole 67 = .ok (.lconst 0, 1) := by decide +kernel
theorem dY_whole_68 : decode cY_whole 68 = .ok (.lstore 8, 2) := by decide +kernel
theorem dY_whole_70 : decode cY_whole 70 = .ok (.iload 7, 2) := by decide +kernel
theorem dY_whole_72 : decode cY_whole 72 = .ok (.ifCond .le 16, 3) := by decide +kernel
theorem dY_whole_75 : decode cY_whole 75 = .ok (.aload_n 0, 1) := by decide +kernel
theorem dY_whole_76 : decode cY_whole 76 = .ok (.getfield 44, 3) := by decide +kernel
theorem dY_whole_79 : decode cY_whole 79 = .ok (.lconst 0, 1) := by decide +kernel
theorem dY_whole_80 : decode cY_whole 80 = .ok (.lcmp, 1) := by decide +kernel
theorem dY_whole_81 : decode cY_whole 81 = .ok (.ifCond .eq 7, 3) := by decide +kernel
theorem dY_whole_84 : decode cY_whole 84 = .ok (.iconst 1, 1) := by decide +kernel
theorem dY_whole_85 : decode cY_whole 85 = .ok (.goto 4, 3) := by decide +kernel
theorem dY_whole_88 : decode cY_whole 88 = .ok (.iconst 0, 1) := by decide +kernel
theorem dY_whole_89 : decode cY_whole 89 = .ok (.istore 10, 2) := by decide +kernel
theorem dY_whole_91 : decode cY_whole 91 = .ok (.iload 7, 2) := by decide +kernel
theorem dY_whole_93 : decode cY_whole 93 = .ok (.ifCond .lt 26, 3) := by decide +kernel
theorem dY_whole_96 : decode cY_whole 96 = .ok (.iload 7, 2) := by decide +kernel
theorem dY_whole_98 : decode cY_whole 98 = .ok (.bipush 63, 2) := by decide +kernel
theorem dY_whole_100 : decode cY_whole 100 = .ok (.if_icmp .le 7, 3) := by decide +kernel
theorem dY_whole_103 : decode cY_whole 103 = .ok (.lconst 0, 1) := by decide +kernel
theorem dY_whole_104 : decode cY_whole 104 = .ok (.goto 10, 3) := by decide +kernel
theorem dY_whole_107 : decode cY_whole 107 = .ok (.aload_n 0, 1) := by decide +kernel
theorem dY_whole_108 : decode cY_whole 108 = .ok (.getfield 44, 3) := by decide +kernel
theorem dY_whole_111 : decode cY_whole 111 = .ok (.iload 7, 2) := by decide +kernel
theorem dY_whole_113 : decode cY_whole 113 = .ok (.lshl, 1) := by decide +kernel
theorem dY_whole_114 : decode cY_whole 114 = .ok (.lstore 8, 2) := by decide +kernel
theorem dY_whole_116 : decode cY_whole 116 = .ok (.goto 42, 3) := by decide +kernel
theorem dY_whole_119 : decode cY_whole 119 = .ok (.iload 7, 2) := by decide +kernel
theorem dY_whole_121 : decode cY_whole 121 = .ok (.bipush (-56), 2) := by decide +kernel
theorem dY_whole_123 : decode cY_whole 123 = .ok (.if_icmp .lt 35, 3) := by decide +kernel
theorem dY_whole_126 : decode cY_whole 126 = .ok (.aload_n 0, 1) := by decide +kernel
theorem dY_whole_127 : decode cY_whole 127 = .ok (.getfield 44, 3) := by decide +kernel
theorem dY_whole_130 : decode cY_whole 130 = .ok (.iload 7, 2) := by decide +kernel
theorem dY_whole_132 : decode cY_whole 132 = .ok (.ineg, 1) := by decide +kernel
theorem dY_whole_133 : decode cY_whole 133 = .ok (.lshr, 1) := by decide +kernel
theorem dY_whole_134 : decode cY_whole 134 = .ok (.lstore 8, 2) := by decide +kernel
theorem dY_whole_136 : decode cY_whole 136 = .ok (.iload 4, 2) := by decide +kernel
theorem dY_whole_138 : decode cY_whole 138 = .ok (.ifCond .eq 20, 3) := by decide +kernel
theorem dY_whole_141 : decode cY_whole 141 = .ok (.lload 8, 2) := by decide +kernel
theorem dY_whole_143 : decode cY_whole 143 = .ok (.aload_n 0, 1) := by decide +kernel
theorem dY_whole_144 : decode cY_whole 144 = .ok (.getfield 44, 3) := by decide +kernel
theorem dY_whole_147 : decode cY_whole 147 = .ok (.iload 7, 2) := by decide +kernel
theorem dY_whole_149 : decode cY_whole 149 = .ok (.ineg, 1) := by decide +kernel
theorem dY_whole_150 : decode cY_whole 150 = .ok (.iconst 1, 1) := by decide +kernel
theorem dY_whole_151 : decode cY_whole 151 = .ok (.isub, 1) := by decide +kernel
theorem dY_whole_152 : decode cY_whole 152 = .ok (.lshr, 1) := by decide +kernel
theorem dY_whole_153 : decode cY_whole 153 = .ok (.lconst 1, 1) := by decide +kernel
theorem dY_whole_154 : decode cY_whole 154 = .ok (.land, 1) := by decide +kernel
theorem dY_whole_155 : decode cY_whole 155 = .ok (.ladd, 1) := by decide +kernel
theorem dY_whole_156 : decode cY_whole 156 = .ok (.lstore 8, 2) := by decide +kernel
theorem dY_whole_158 : decode cY_whole 158 = .ok (.aload_n 0, 1) := by decide +kernel
theorem dY_whole_159 : decode cY_whole 159 = .ok (.getfield 29, 3) := by decide +kernel
theorem dY_whole_162 : decode cY_whole 162 = .ok (.ifCond .eq 8, 3) := by decide +kernel
theorem dY_whole_165 : decode cY_whole 165 = .ok (.lload 8, 2) := by decide +kernel
theorem dY_whole_167 : decode cY_whole 167 = .ok (.lneg, 1) := by decide +kernel
theorem dY_whole_168 : decode cY_whole 168 = .ok (.lstore 8, 2) := by decide +kernel
theorem dY_whole_170 : decode cY_whole 170 = .ok (.lload 8, 2) := by decide +kernel
theorem dY_whole_172 : decode cY_whole 172 = .ok (.bipush 64, 2) := by decide +kernel
theorem dY_whole_174 : decode cY_whole 174 = .ok (.bipush 8, 2) := by decide +kernel
theorem dY_whole_176 : decode cY_whole 176 = .ok (.iload_n 3, 1) := by decide +kernel
theorem dY_whole_177 : decode cY_whole 177 = .ok (.imul, 1) := by decide +kernel
theorem dY_whole_178 : decode cY_whole 178 = .ok (.isub, 1) := by decide +kernel
theorem dY_whole_179 : decode cY_whole 179 = .ok (.lshl, 1) := by decide +kernel
theorem dY_whole_180 : decode cY_whole 180 = .ok (.bipush 64, 2) := by decide +kernel
theorem dY_whole_182 : decode cY_whole 182 = .ok (.bipush 8, 2) := by decide +kernel
theorem dY_whole_184 : decode cY_whole 184 = .ok (.iload_n 3, 1) := by decide +kernel
theorem dY_whole_185 : decode cY_whole 185 = .ok (.imul, 1) := by decide +kernel
theorem dY_whole_186 : decode cY_whole 186 = .ok (.isub, 1) := by decide +kernel
theorem dY_whole_187 : decode cY_whole 187 = .ok (.lshr, 1) := by decide +kernel
theorem dY_whole_188 : decode cY_whole 188 = .ok (.lstore 11, 2) := by decide +kernel
theorem dY_whole_190 : decode cY_whole 190 = .ok (.aload_n 0, 1) := by decide +kernel
theorem dY_whole_191 : decode cY_whole 191 = .ok (.getfield 7, 3) := by decide +kernel
theorem dY_whole_194 : decode cY_whole 194 = .ok (.iload 5, 2) := by decide +kernel
theorem dY_whole_196 : decode cY_whole 196 = .ok (.lload 11, 2) := by decide +kernel
theorem dY_whole_198 : decode cY_whole 198 = .ok (.lastore, 1) := by decide +kernel
theorem dY_whole_199 : decode cY_whole 199 = .ok (.lload 11, 2) := by decide +kernel
theorem dY_whole_201 : decode cY_whole 201 = .ok (.lconst 0, 1) := by decide +kernel
theorem dY_whole_202 : decode cY_whole 202 = .ok (.lcmp, 1) := by decide +kernel
theorem dY_whole_203 : decode cY_whole 203 = .ok (.ifCond .ge 8, 3) := by decide +kernel
theorem dY_whole_206 : decode cY_whole 206 = .ok (.bipush 8, 2) := by decide +kernel
theorem dY_whole_208 : decode cY_whole 208 = .ok (.goto 4, 3) := by decide +kernel
theorem dY_whole_211 : decode cY_whole 211 = .ok (.iconst 0, 1) := by decide +kernel
theorem dY_whole_212 : decode cY_whole 212 = .ok (.lload 11, 2) := by decide +kernel
theorem dY_whole_214 : decode cY_whole 214 = .ok (.lconst 0, 1) := by decide +kernel
theorem dY_whole_215 : decode cY_whole 215 = .ok (.lcmp, 1) := by decide +kernel
theorem dY_whole_216 : decode cY_whole 216 = .ok (.ifCond .ne 7, 3) := by decide +kernel
theorem dY_whole_219 : decode cY_whole 219 = .ok (.iconst 4, 1) := by decide +kernel
theorem dY_whole_220 : decode cY_whole 220 = .ok (.goto 4, 3) := by decide +kernel
theorem dY_whole_223 : decode cY_whole 223 = .ok (.iconst 0, 1) := by decide +kernel
theorem dY_whole_224 : decode cY_whole 224 = .ok (.ior, 1) := by decide +kernel
theorem dY_whole_225 : decode cY_whole 225 = .ok (.iload 10, 2) := by decide +kernel
theorem dY_whole_227 : decode cY_whole 227 = .ok (.ifCond .ne 11, 3) := by decide +kernel
theorem dY_whole_230 : decode cY_whole 230 = .ok (.lload 11, 2) := by decide +kernel
theorem dY_whole_232 : decode cY_whole 232 = .ok (.lload 8, 2) := by decide +kernel
theorem dY_whole_234 : decode cY_whole 234 = .ok (.lcmp, 1) := by decide +kernel
theorem dY_whole_235 : decode cY_whole 235 = .ok (.ifCond .eq 7, 3) := by decide +kernel
theorem dY_whole_238 : decode cY_whole 238 = .ok (.iconst 2, 1) := by decide +kernel
theorem dY_whole_239 : decode cY_whole 239 = .ok (.goto 4, 3) := by decide +kernel
theorem dY_whole_242 : decode cY_whole 242 = .ok (.iconst 0, 1) := by decide +kernel
theorem dY_whole_243 : decode cY_whole 243 = .ok (.ior, 1) := by decide +kernel
theorem dY_whole_244 : decode cY_whole 244 = .ok (.ireturn, 1) := by decide +kernel
theorem dY_number_0 : decode cY_number 0 = .ok (.iload_n 1, 1) := by decide +kernel
theorem dY_number_1 : decode cY_number 1 = .ok (.invokestatic 78, 3) := by decide +kernel
theorem dY_number_4 : decode cY_number 4 = .ok (.ifCond .eq 10, 3) := by decide +kernel
theorem dY_number_7 : decode cY_number 7 = .ok (.iload_n 3, 1) := by decide +kernel
theorem dY_number_8 : decode cY_number 8 = .ok (.invokestatic 82, 3) := by decide +kernel
theorem dY_number_11 : decode cY_number 11 = .ok (.ifCond .ne 6, 3) := by decide +kernel
theorem dY_number_14 : decode cY_number 14 = .ok (.bipush (-5), 2) := by decide +kernel
theorem dY_number_16 : decode cY_number 16 = .ok (.ireturn, 1) := by decide +kernel
theorem dY_number_17 : decode cY_number 17 = .ok (.iload_n 2, 1) := by decide +kernel
theorem dY_number_18 : decode cY_number 18 = .ok (.ifCond .ge 9, 3) := by decide +kernel
theorem dY_number_21 : decode cY_number 21 = .ok (.iload_n 2, 1) := by decide +kernel
theorem dY_number_22 : decode cY_number 22 = .ok (.i2l, 1) := by decide +kernel
theorem dY_number_23 : decode cY_number 23 = .ok (.lneg, 1) := by decide +kernel
theorem dY_number_24 : decode cY_number 24 = .ok (.goto 5, 3) := by decide +kernel
theorem dY_number_27 : decode cY_number 27 = .ok (.iload_n 2, 1) := by decide +kernel
theorem dY_number_28 : decode cY_number 28 = .ok (.i2l, 1) := by decide +kernel
theorem dY_number_29 : decode cY_number 29 = .ok (.lstore 4, 2) := by decide +kernel
theorem dY_number_31 : decode cY_number 31 = .ok (.aload_n 0, 1) := by decide +kernel
theorem dY_number_32 : decode cY_number 32 = .ok (.aload_n 0, 1) := by decide +kernel
theorem dY_number_33 : decode cY_number 33 = .ok (.iload_n 1, 1) := by decide +kernel
theorem dY_number_34 : decode cY_number 34 = .ok (.iload_n 2, 1) := by decide +kernel
theorem dY_number_35 : decode cY_number 35 = .ok (.ifCond .ge 7, 3) := by decide +kernel
theorem dY_number_38 : decode cY_number 38 = .ok (.iconst 1, 1) := by decide +kernel
theorem dY_number_39 : decode cY_number 39 = .ok (.goto 4, 3) := by decide +kernel
theorem dY_number_42 : decode cY_number 42 = .ok (.iconst 0, 1) := by decide +kernel
theorem dY_number_43 : decode cY_number 43 = .ok (.lload 4, 2) := by decide +kernel
theorem dY_number_45 : decode cY_number 45 = .ok (.iconst 0, 1) := by decide +kernel
theorem dY_number_46 : decode cY_number 46 = .ok (.iconst 0, 1) := by decide +kernel
theorem dY_number_47 : decode cY_number 47 = .ok (.invokevirtual 74, 3) := by decide +kernel
theorem dY_number_50 : decode cY_number 50 = .ok (.iload_n 3, 1) := by decide +kernel
theorem dY_number_51 : decode cY_number 51 = .ok (.invokevirtual 100, 3) := by decide +kernel
theorem dY_number_54 : decode cY_number 54 = .ok (.ireturn, 1) := by decide +kernel
theorem dY_lost_0 : decode cY_lost 0 = .ok (.aload_n 0, 1) := by decide +kernel
theorem dY_lost_1 : decode cY_lost 1 = .ok (.getfield 63, 3) := by decide +kernel
theorem dY_lost_4 : decode cY_lost 4 = .ok (.ireturn, 1) := by decide +kernel
end
section
abbrev mw_Y (k0 k_g : Nat) (cB_g : ClassId) (st : (Nat → Int64) × Int32 × Int32 × Int32 × Int32 × Int64 × Int32 × Int32) : va_W := [(k0, .inr (1, [.ref k_g, .int st.2.1, .int st.2.2.1, .int st.2.2.2.1, .int st.2.2.2.2.1, .long st.2.2.2.2.2.1, .int st.2.2.2.2.2.2.1, .int st.2.2.2.2.2.2.2])), (k_g, .inl (cB_g, 8, .inr (.inl st.1)))]
def mf_Y_isSize (p1 : Int32) : Int32 := (if p1 = (4 : Int32) then (1 : Int32) else (if p1 = (8 : Int32) then (1 : Int32) else (0 : Int32)))
set_option maxHeartbeats 4000000 in
set_option maxRecDepth 100000 in
theorem mc_Y_isSize (l : Launch) (p1 : Int32) : xj_Pi l yY_isSize wsY_isSize ({ frames := 0, cells := 0, slots := 0, locals := 0 }) [.int p1] (mf_Y_isSize p1) := by
  intro sz
  refine Met.ofW (cc := cY_isSize) (maxL := 1) (ret := (some .boolean)) (by decide) rfl ?_
  intro p e s m args below meth c s₁ B hml hv
  obtain ⟨rfl, hsz⟩ := hv
  have hx := B.exec
  have hb := B.bytes
  have hr := B.returns
  have hts := atoms_spec (ws := wsY_isSize) B.pre
  have hown : s.vm.findClass RX1 = some m.cls := findClass_of_methodNamed B.named
  have hlocks := B.notSynchronized
  subst hsz
  generalize hAe : va_A [] s.heap.size = A
  have hA : ∀ q : Nat, s.heap.size ≤ q → A q := fun q h => by rw [← hAe]; exact Or.inr h
  have hS : va_S A s.heap s.heap [] := va_S.rf
  generalize hT : mf_Y_isSize p1 = T
  have hF := hT.symm
  unfold mf_Y_isSize at hF
  have hl := lv_entry ([.int p1]) (n := 1) (Nat.le_of_ble_eq_true rfl)
  rw [lg_entry_eq]
  generalize (lg_sl ([.int p1]) ++ List.replicate (1 - (lg_sl ([.int p1])).length) Slot.unset).toArray = ls at hl ⊢
  have hl : lv_has ls 1 [(0, .int p1)] := hl
  refine lv_iload_n hx hb dY_isSize_0 rfl (lv_at hl 0 rfl) ?_
  refine lv_iconst (v := (4 : Int32)) hx hb dY_isSize_1 (by decide) ?_
  refine lv_icmp_eq (tgt := 11) hx hb dY_isSize_2 (by decide) (fun c1 => ?_) (fun c1 => ?_)
  · replace hF := xj_t hF c1
    refine lv_iconst (v := (1 : Int32)) hx hb dY_isSize_11 (by decide) ?_
    refine lv_goto (tgt := 16) hx hb dY_isSize_12 (by decide) ?_
    exact W.zret (v := (1 : Int32)) hx hb hr rfl (fun t ht hW => ⟨⟨_, (), rfl, hF.symm, trivial⟩, hS.F ht⟩) hS.2.2 dY_isSize_16
  · replace hF := xj_f hF c1
    refine lv_iload_n hx hb dY_isSize_5 rfl (lv_at hl 0 rfl) ?_
    refine lv_bipush (v := (8 : Int32)) hx hb dY_isSize_6 (by decide) ?_
    refine lv_icmp_ne (tgt := 15) hx hb dY_isSize_8 (by decide) (fun c2 => ?_) (fun c2 => ?_)
    · replace hF := xj_f hF c2
      refine lv_iconst (v := (0 : Int32)) hx hb dY_isSize_15 (by decide) ?_
      exact W.zret (v := (0 : Int32)) hx hb hr rfl (fun t ht hW => ⟨⟨_, (), rfl, hF.symm, trivial⟩, hS.F ht⟩) hS.2.2 dY_isSize_16
    · replace hF := xj_t hF c2
      refine lv_iconst (v := (1 : Int32)) hx hb dY_isSize_11 (by decide) ?_
      refine lv_goto (tgt := 16) hx hb dY_isSize_12 (by decide) ?_
      exact W.zret (v := (1 : Int32)) hx hb hr rfl (fun t ht hW => ⟨⟨_, (), rfl, hF.symm, trivial⟩, hS.F ht⟩) hS.2.2 dY_isSize_16
def mf_Y_isRegister (p1 : Int32) : Int32 := (if p1 < 0 then (0 : Int32) else (if (7 : Int32) < p1 then (0 : Int32) else (1 : Int32)))
set_option maxHeartbeats 4000000 in
set_option maxRecDepth 100000 in
theorem mc_Y_isRegister (l : Launch) (p1 : Int32) : xj_Pi l yY_isRegister wsY_isRegister ({ frames := 0, cells := 0, slots := 0, locals := 0 }) [.int p1] (mf_Y_isRegister p1) := by
  intro sz
  refine Met.ofW (cc := cY_isRegister) (maxL := 1) (ret := (some .boolean)) (by decide) rfl ?_
  intro p e s m args below meth c s₁ B hml hv
  obtain ⟨rfl, hsz⟩ := hv
  have hx := B.exec
  have hb := B.bytes
  have hr := B.returns
  have hts := atoms_spec (ws := wsY_isRegister) B.pre
  have hown : s.vm.findClass RX1 = some m.cls := findClass_of_methodNamed B.named
  have hlocks := B.notSynchronized
  subst hsz
  generalize hAe : va_A [] s.heap.size = A
  have hA : ∀ q : Nat, s.heap.size ≤ q → A q := fun q h => by rw [← hAe]; exact Or.inr h
  have hS : va_S A s.heap s.heap [] := va_S.rf
  generalize hT : mf_Y_isRegister p1 = T
  have hF := hT.symm
  unfold mf_Y_isRegister at hF
  have hl := lv_entry ([.int p1]) (n := 1) (Nat.le_of_ble_eq_true rfl)
  rw [lg_entry_eq]
  generalize (lg_sl ([.int p1]) ++ List.replicate (1 - (lg_sl ([.int p1])).length) Slot.unset).toArray = ls at hl ⊢
  have hl : lv_has ls 1 [(0, .int p1)] := hl
  refine lv_iload_n hx hb dY_isRegister_0 rfl (lv_at hl 0 rfl) ?_
  refine lv_if_lt (tgt := 14) hx hb dY_isRegister_1 (by decide) (fun c1 => ?_) (fun c1 => ?_)
  · replace hF := xj_t hF c1
    refine lv_iconst (v := (0 : Int32)) hx hb dY_isRegister_14 (by decide) ?_
    exact W.zret (v := (0 : Int32)) hx hb hr rfl (fun t ht hW => ⟨⟨_, (), rfl, hF.symm, trivial⟩, hS.F ht⟩) hS.2.2 dY_isRegister_15
  · replace hF := xj_f hF c1
    refine lv_iload_n hx hb dY_isRegister_4 rfl (lv_at hl 0 rfl) ?_
    refine lv_bipush (v := (7 : Int32)) hx hb dY_isRegister_5 (by decide) ?_
    refine lv_icmp_gt (tgt := 14) hx hb dY_isRegister_7 (by decide) (fun c2 => ?_) (fun c2 => ?_)
    · replace hF := xj_t hF c2
      refine lv_iconst (v := (0 : Int32)) hx hb dY_isRegister_14 (by decide) ?_
      exact W.zret (v := (0 : Int32)) hx hb hr rfl (fun t ht hW => ⟨⟨_, (), rfl, hF.symm, trivial⟩, hS.F ht⟩) hS.2.2 dY_isRegister_15
    · replace hF := xj_f hF c2
      refine lv_iconst (v := (1 : Int32)) hx hb dY_isRegister_10 (by decide) ?_
      refine lv_goto (tgt := 15) hx hb dY_isRegister_11 (by decide) ?_
      exact W.zret (v := (1 : Int32)) hx hb hr rfl (fun t ht hW => ⟨⟨_, (), rfl, hF.symm, trivial⟩, hS.F ht⟩) hS.2.2 dY_isRegister_15
theorem ms_reg {r : Int32} (h : ¬ mf_Y_isRegister r = 0) : vp_in r 8 := by
  unfold mf_Y_isRegister at h
  rw [vp_in_iff]
  have e7 : (7 : Int32).toInt = 7 := by decide
  have e0 : (0 : Int32).toInt = 0 := by decide
  by_cases h1 : r < 0
  · rw [if_pos h1] at h; exact absurd rfl h
  · rw [if_neg h1] at h
    by_cases h2 : (7 : Int32) < r
    · rw [if_pos h2] at h; exact absurd rfl h
    · rw [Int32.lt_iff_toInt_lt] at h1 h2
      omega
theorem ms_in7 {r : Int32} (h1 : ¬ r < 0) (h2 : r ≤ (7 : Int32)) : vp_in r 8 := by
  rw [vp_in_iff]
  have e7 : (7 : Int32).toInt = 7 := by decide
  have e0 : (0 : Int32).toInt = 0 := by decide
  rw [Int32.lt_iff_toInt_lt] at h1
  rw [Int32.le_iff_toInt_le] at h2
  omega

def mf_Y_many (p1 : Int32) : Int32 := (if p1 = (8 : Int32) then (56 : Int32) else (24 : Int32))
set_option maxHeartbeats 4000000 in
set_option maxRecDepth 100000 in
theorem mc_Y_many (l : Launch) (p1 : Int32) : xj_Pi l yY_many wsY_many ({ frames := 0, cells := 0, slots := 0, locals := 0 }) [.int p1] (mf_Y_many p1) := by
  intro sz
  refine Met.ofW (cc := cY_many) (maxL := 1) (ret := (some .int)) (by decide) rfl ?_
  intro p e s m args below meth c s₁ B hml hv
  obtain ⟨rfl, hsz⟩ := hv
  have hx := B.exec
  have hb := B.bytes
  have hr := B.returns
  have hts := atoms_spec (ws := wsY_many) B.pre
  have hown : s.vm.findClass RX1 = some m.cls := findClass_of_methodNamed B.named
  have hlocks := B.notSynchronized
  subst hsz
  generalize hAe : va_A [] s.heap.size = A
  have hA : ∀ q : Nat, s.heap.size ≤ q → A q := fun q h => by rw [← hAe]; exact Or.inr h
  have hS : va_S A s.heap s.heap [] := va_S.rf
  generalize hT : mf_Y_many p1 = T
  have hF := hT.symm
  unfold mf_Y_many at hF
  have hl := lv_entry ([.int p1]) (n := 1) (Nat.le_of_ble_eq_true rfl)
  rw [lg_entry_eq]
  generalize (lg_sl ([.int p1]) ++ List.replicate (1 - (lg_sl ([.int p1])).length) Slot.unset).toArray = ls at hl ⊢
  have hl : lv_has ls 1 [(0, .int p1)] := hl
  refine lv_iload_n hx hb dY_many_0 rfl (lv_at hl 0 rfl) ?_
  refine lv_bipush (v := (8 : Int32)) hx hb dY_many_1 (by decide) ?_
  refine lv_icmp_ne (tgt := 11) hx hb dY_many_3 (by decide) (fun c1 => ?_) (fun c1 => ?_)
  · replace hF := xj_f hF c1
    refine lv_bipush (v := (24 : Int32)) hx hb dY_many_11 (by decide) ?_
    exact W.iret (v := (24 : Int32)) hx hb hr (fun t ht hW => ⟨⟨_, (), rfl, hF.symm, trivial⟩, hS.F ht⟩) hS.2.2 dY_many_13
  · replace hF := xj_t hF c1
    refine lv_bipush (v := (56 : Int32)) hx hb dY_many_6 (by decide) ?_
    refine lv_goto (tgt := 13) hx hb dY_many_8 (by decide) ?_
    exact W.iret (v := (56 : Int32)) hx hb hr (fun t ht hW => ⟨⟨_, (), rfl, hF.symm, trivial⟩, hS.F ht⟩) hS.2.2 dY_many_13
def mf_Y_in (g : Nat → Int64) (ak : Int32) (il : Int32) (mi : Int32) (xe : Int32) (bi : Int64) (fa : Int32) (cu : Int32) (p1 : Int32) (p2 : Int32) : Int64 := (if p1 = (8 : Int32) then (g (Int32.toNatClampNeg p2)) else ((g (Int32.toNatClampNeg p2)) &&& (4294967295 : Int64)))
set_option maxHeartbeats 4000000 in
set_option maxRecDepth 100000 in
theorem mc_Y_in (l : Launch) (dC : Nat → ClassId) (dI : Nat → Nat → Nat) (k0 k_g : Nat) (cB_g : ClassId) (g : Nat → Int64) (ak : Int32) (il : Int32) (mi : Int32) (xe : Int32) (bi : Int64) (fa : Int32) (cu : Int32) (p1 : Int32) (p2 : Int32) (hin2 : vp_in p2 8) : xj_Ol l (dC, dI) vwCl [(cB_g, .long)] (mw_Y k0 k_g cB_g) yY_in wsY_in ({ frames := 0, cells := 0, slots := 0, locals := 0 }) [.ref k0, .int p1, .int p2] (g, ak, il, mi, xe, bi, fa, cu) (mf_Y_in g ak il mi xe bi fa cu p1 p2, (g, ak, il, mi, xe, bi, fa, cu)) := by
  intro sz
  refine Met.ofW (cc := cY_in) (maxL := 3) (ret := (some .long)) (by decide) rfl ?_
  intro p e s m args below meth c s₁ B hml hv
  obtain ⟨rfl, hsz, hP, hK, hD0⟩ := hv
  have hx := B.exec
  have hb := B.bytes
  have hr := B.returns
  have hts := atoms_spec (ws := wsY_in) B.pre
  have hown : s.vm.findClass RX1 = some m.cls := findClass_of_methodNamed B.named
  have hlocks := B.notSynchronized
  subst hsz
  have hD := hD0.self (sz := s.heap.size)
  generalize hAe : va_A (mw_Y k0 k_g cB_g (g, ak, il, mi, xe, bi, fa, cu)) s.heap.size = A at hD ⊢
  have hA : ∀ q : Nat, s.heap.size ≤ q → A q := fun q h => by rw [← hAe]; exact Or.inr h
  have hS : va_S A s.heap s.heap [] := va_S.rf
  have hP : va_P (dC, dI) vwCl [(k0, .inr (1, [.ref k_g, .int ak, .int il, .int mi, .int xe, .long bi, .int fa, .int cu])), (k_g, .inl (cB_g, 8, .inr (.inl g)))] s.heap := hP
  have hD : va_D A [(k0, .inr (1, [.ref k_g, .int ak, .int il, .int mi, .int xe, .long bi, .int fa, .int cu])), (k_g, .inl (cB_g, 8, .inr (.inl g)))] := hD
  generalize hT : mf_Y_in g ak il mi xe bi fa cu p1 p2 = T
  have hF := hT.symm
  unfold mf_Y_in at hF
  have hl := lv_entry ([.ref k0, .int p1, .int p2]) (n := 3) (Nat.le_of_ble_eq_true rfl)
  rw [lg_entry_eq]
  generalize (lg_sl ([.ref k0, .int p1, .int p2]) ++ List.replicate (3 - (lg_sl ([.ref k0, .int p1, .int p2])).length) Slot.unset).toArray = ls at hl ⊢
  have hl : lv_has ls 3 [(0, .ref k0), (1, .int p1), (2, .int p2)] := hl
  refine lv_iload_n hx hb dY_in_0 rfl (lv_at hl 1 rfl) ?_
  refine lv_bipush (v := (8 : Int32)) hx hb dY_in_1 (by decide) ?_
  refine lv_icmp_ne (tgt := 15) hx hb dY_in_3 (by decide) (fun c1 => ?_) (fun c1 => ?_)
  · replace hF := xj_f hF c1
    refine lv_aload_n hx hb dY_in_15 rfl (lv_at hl 0 rfl) ?_
    refine va_get (D := (dC, dI)) (ci := 1) (v := .ref k_g) (C := RX1) (T := TX1) (N := 8) hx hb hts (fun w9 h9 => List.mem_cons_of_mem _ (inY w9 h9)) hown hK hP 0 rfl rfl 0 (by decide) (hts (.fieldLink RX1 7 "ExactFloatsModel" "register" "[J") (List.mem_cons_of_mem _ mY_29)) (fun _ h9 => h9) rfl dY_in_16 ?_
    refine lv_iload_n hx hb dY_in_19 rfl (lv_at hl 2 rfl) ?_
    refine va_lald hx hb hK hP 1 0 rfl rfl (hin2) dY_in_20 ?_
    refine lv_ldc2 (own := RX1) (v := (4294967295 : Int64)) hx hb hown (hts (.constantLong RX1 17 (4294967295 : Int64)) (List.mem_cons_of_mem _ mY_31)) dY_in_21 ?_
    refine lv_land hx hb dY_in_24 ?_
    exact W.lret (v := ((g (Int32.toNatClampNeg p2)) &&& (4294967295 : Int64))) hx hb hr (fun t ht hW => ⟨⟨_, (g, ak, il, mi, xe, bi, fa, cu), rfl, by rw [hF], by rw [ht]; exact hP, hD⟩, hS.F ht⟩) hS.2.2 dY_in_25
  · replace hF := xj_t hF c1
    refine lv_aload_n hx hb dY_in_6 rfl (lv_at hl 0 rfl) ?_
    refine va_get (D := (dC, dI)) (ci := 1) (v := .ref k_g) (C := RX1) (T := TX1) (N := 8) hx hb hts (fun w9 h9 => List.mem_cons_of_mem _ (inY w9 h9)) hown hK hP 0 rfl rfl 0 (by decide) (hts (.fieldLink RX1 7 "ExactFloatsModel" "register" "[J") (List.mem_cons_of_mem _ mY_29)) (fun _ h9 => h9) rfl dY_in_7 ?_
    refine lv_iload_n hx hb dY_in_10 rfl (lv_at hl 2 rfl) ?_
    refine va_lald hx hb hK hP 1 0 rfl rfl (hin2) dY_in_11 ?_
    refine lv_goto (tgt := 25) hx hb dY_in_12 (by decide) ?_
    exact W.lret (v := (g (Int32.toNatClampNeg p2))) hx hb hr (fun t ht hW => ⟨⟨_, (g, ak, il, mi, xe, bi, fa, cu), rfl, by rw [hF], by rw [ht]; exact hP, hD⟩, hS.F ht⟩) hS.2.2 dY_in_25
def mf_Y_isReserved (p1 : Int64) : Int32 := (if (p1 &&& (65408 : Int64)) = (32768 : Int64) then (1 : Int32) else (0 : Int32))
set_option maxHeartbeats 4000000 in
set_option maxRecDepth 100000 in
theorem mc_Y_isReserved (l : Launch) (p1 : Int64) : xj_Pi l yY_isReserved wsY_isReserved ({ frames := 0, cells := 0, slots := 0, locals := 0 }) [.long p1] (mf_Y_isReserved p1) := by
  intro sz
  refine Met.ofW (cc := cY_isReserved) (maxL := 2) (ret := (some .boolean)) (by decide) rfl ?_
  intro p e s m args below meth c s₁ B hml hv
  obtain ⟨rfl, hsz⟩ := hv
  have hx := B.exec
  have hb := B.bytes
  have hr := B.returns
  have hts := atoms_spec (ws := wsY_isReserved) B.pre
  have hown : s.vm.findClass RX1 = some m.cls := findClass_of_methodNamed B.named
  have hlocks := B.notSynchronized
  subst hsz
  generalize hAe : va_A [] s.heap.size = A
  have hA : ∀ q : Nat, s.heap.size ≤ q → A q := fun q h => by rw [← hAe]; exact Or.inr h
  have hS : va_S A s.heap s.heap [] := va_S.rf
  generalize hT : mf_Y_isReserved p1 = T
  have hF := hT.symm
  unfold mf_Y_isReserved at hF
  have hl := lv_entry ([.long p1]) (n := 2) (Nat.le_of_ble_eq_true rfl)
  rw [lg_entry_eq]
  generalize (lg_sl ([.long p1]) ++ List.replicate (2 - (lg_sl ([.long p1])).length) Slot.unset).toArray = ls at hl ⊢
  have hl : lv_has ls 2 [(0, .long p1)] := hl
  refine lv_lload_n hx hb dY_isReserved_0 rfl (lv_at hl 0 rfl) ?_
  refine lv_ldc2 (own := RX1) (v := (65408 : Int64)) hx hb hown (hts (.constantLong RX1 19 (65408 : Int64)) (List.mem_cons_of_mem _ mY_32)) dY_isReserved_1 ?_
  refine lv_land hx hb dY_isReserved_4 ?_
  refine lv_ldc2 (own := RX1) (v := (32768 : Int64)) hx hb hown (hts (.constantLong RX1 21 (32768 : Int64)) (List.mem_cons_of_mem _ mY_33)) dY_isReserved_5 ?_
  refine xj_l_ne (tgt := 16) hx hb dY_isReserved_8 dY_isReserved_9 (by decide) (fun c1 => ?_) (fun c1 => ?_)
  · replace hF := xj_f hF c1
    refine lv_iconst (v := (0 : Int32)) hx hb dY_isReserved_16 (by decide) ?_
    exact W.zret (v := (0 : Int32)) hx hb hr rfl (fun t ht hW => ⟨⟨_, (), rfl, hF.symm, trivial⟩, hS.F ht⟩) hS.2.2 dY_isReserved_17
  · replace hF := xj_t hF c1
    refine lv_iconst (v := (1 : Int32)) hx hb dY_isReserved_12 (by decide) ?_
    refine lv_goto (tgt := 17) hx hb dY_isReserved_13 (by decide) ?_
    exact W.zret (v := (1 : Int32)) hx hb hr rfl (fun t ht hW => ⟨⟨_, (), rfl, hF.symm, trivial⟩, hS.F ht⟩) hS.2.2 dY_isReserved_17
def mf_Y_isZero (p1 : Int64) : Int32 := (if (p1 &&& (32640 : Int64)) = (0 : Int64) then (1 : Int32) else (0 : Int32))
set_option maxHeartbeats 4000000 in
set_option maxRecDepth 100000 in
theorem mc_Y_isZero (l : Launch) (p1 : Int64) : xj_Pi l yY_isZero wsY_isZero ({ frames := 0, cells := 0, slots := 0, locals := 0 }) [.long p1] (mf_Y_isZero p1) := by
  intro sz
  refine Met.ofW (cc := cY_isZero) (maxL := 2) (ret := (some .boolean)) (by decide) rfl ?_
  intro p e s m args below meth c s₁ B hml hv
  obtain ⟨rfl, hsz⟩ := hv
  have hx := B.exec
  have hb := B.bytes
  have hr := B.returns
  have hts := atoms_spec (ws := wsY_isZero) B.pre
  have hown : s.vm.findClass RX1 = some m.cls := findClass_of_methodNamed B.named
  have hlocks := B.notSynchronized
  subst hsz
  generalize hAe : va_A [] s.heap.size = A
  have hA : ∀ q : Nat, s.heap.size ≤ q → A q := fun q h => by rw [← hAe]; exact Or.inr h
  have hS : va_S A s.heap s.heap [] := va_S.rf
  generalize hT : mf_Y_isZero p1 = T
  have hF := hT.symm
  unfold mf_Y_isZero at hF
  have hl := lv_entry ([.long p1]) (n := 2) (Nat.le_of_ble_eq_true rfl)
  rw [lg_entry_eq]
  generalize (lg_sl ([.long p1]) ++ List.replicate (2 - (lg_sl ([.long p1])).length) Slot.unset).toArray = ls at hl ⊢
  have hl : lv_has ls 2 [(0, .long p1)] := hl
  refine lv_lload_n hx hb dY_isZero_0 rfl (lv_at hl 0 rfl) ?_
  refine lv_ldc2 (own := RX1) (v := (32640 : Int64)) hx hb hown (hts (.constantLong RX1 23 (32640 : Int64)) (List.mem_cons_of_mem _ mY_34)) dY_isZero_1 ?_
  refine lv_land hx hb dY_isZero_4 ?_
  refine lv_lconst (v := (0 : Int64)) hx hb dY_isZero_5 (by decide) ?_
  refine xj_l_ne (tgt := 14) hx hb dY_isZero_6 dY_isZero_7 (by decide) (fun c1 => ?_) (fun c1 => ?_)
  · replace hF := xj_f hF c1
    refine lv_iconst (v := (0 : Int32)) hx hb dY_isZero_14 (by decide) ?_
    exact W.zret (v := (0 : Int32)) hx hb hr rfl (fun t ht hW => ⟨⟨_, (), rfl, hF.symm, trivial⟩, hS.F ht⟩) hS.2.2 dY_isZero_15
  · replace hF := xj_t hF c1
    refine lv_iconst (v := (1 : Int32)) hx hb dY_isZero_10 (by decide) ?_
    refine lv_goto (tgt := 15) hx hb dY_isZero_11 (by decide) ?_
    exact W.zret (v := (1 : Int32)) hx hb hr rfl (fun t ht hW => ⟨⟨_, (), rfl, hF.symm, trivial⟩, hS.F ht⟩) hS.2.2 dY_isZero_15
def mf_Y_isBelow (p1 : Int64) : Int32 := (if (p1 &&& (32768 : Int64)) = (0 : Int64) then (0 : Int32) else (1 : Int32))
set_option maxHeartbeats 4000000 in
set_option maxRecDepth 100000 in
theorem mc_Y_isBelow (l : Launch) (p1 : Int64) : xj_Pi l yY_isBelow wsY_isBelow ({ frames := 0, cells := 0, slots := 0, locals := 0 }) [.long p1] (mf_Y_isBelow p1) := by
  intro sz
  refine Met.ofW (cc := cY_isBelow) (maxL := 2) (ret := (some .boolean)) (by decide) rfl ?_
  intro p e s m args below meth c s₁ B hml hv
  obtain ⟨rfl, hsz⟩ := hv
  have hx := B.exec
  have hb := B.bytes
  have hr := B.returns
  have hts := atoms_spec (ws := wsY_isBelow) B.pre
  have hown : s.vm.findClass RX1 = some m.cls := findClass_of_methodNamed B.named
  have hlocks := B.notSynchronized
  subst hsz
  generalize hAe : va_A [] s.heap.size = A
  have hA : ∀ q : Nat, s.heap.size ≤ q → A q := fun q h => by rw [← hAe]; exact Or.inr h
  have hS : va_S A s.heap s.heap [] := va_S.rf
  generalize hT : mf_Y_isBelow p1 = T
  have hF := hT.symm
  unfold mf_Y_isBelow at hF
  have hl := lv_entry ([.long p1]) (n := 2) (Nat.le_of_ble_eq_true rfl)
  rw [lg_entry_eq]
  generalize (lg_sl ([.long p1]) ++ List.replicate (2 - (lg_sl ([.long p1])).length) Slot.unset).toArray = ls at hl ⊢
  have hl : lv_has ls 2 [(0, .long p1)] := hl
  refine lv_lload_n hx hb dY_isBelow_0 rfl (lv_at hl 0 rfl) ?_
  refine lv_ldc2 (own := RX1) (v := (32768 : Int64)) hx hb hown (hts (.constantLong RX1 21 (32768 : Int64)) (List.mem_cons_of_mem _ mY_33)) dY_isBelow_1 ?_
  refine lv_land hx hb dY_isBelow_4 ?_
  refine lv_lconst (v := (0 : Int64)) hx hb dY_isBelow_5 (by decide) ?_
  refine xj_l_eq (tgt := 14) hx hb dY_isBelow_6 dY_isBelow_7 (by decide) (fun c1 => ?_) (fun c1 => ?_)
  · replace hF := xj_t hF c1
    refine lv_iconst (v := (0 : Int32)) hx hb dY_isBelow_14 (by decide) ?_
    exact W.zret (v := (0 : Int32)) hx hb hr rfl (fun t ht hW => ⟨⟨_, (), rfl, hF.symm, trivial⟩, hS.F ht⟩) hS.2.2 dY_isBelow_15
  · replace hF := xj_f hF c1
    refine lv_iconst (v := (1 : Int32)) hx hb dY_isBelow_10 (by decide) ?_
    refine lv_goto (tgt := 15) hx hb dY_isBelow_11 (by decide) ?_
    exact W.zret (v := (1 : Int32)) hx hb hr rfl (fun t ht hW => ⟨⟨_, (), rfl, hF.symm, trivial⟩, hS.F ht⟩) hS.2.2 dY_isBelow_15
theorem ms_b_isSize (x : Int32) : mf_Y_isSize x = 0 ∨ mf_Y_isSize x = 1 := by
  unfold mf_Y_isSize; (repeat' split) <;> simp
theorem ms_b_isRegister (x : Int32) : mf_Y_isRegister x = 0 ∨ mf_Y_isRegister x = 1 := by
  unfold mf_Y_isRegister; (repeat' split) <;> simp
theorem ms_b_isReserved (x : Int64) : mf_Y_isReserved x = 0 ∨ mf_Y_isReserved x = 1 := by
  unfold mf_Y_isReserved; (repeat' split) <;> simp
theorem ms_b_isZero (x : Int64) : mf_Y_isZero x = 0 ∨ mf_Y_isZero x = 1 := by
  unfold mf_Y_isZero; (repeat' split) <;> simp
theorem ms_b_isBelow (x : Int64) : mf_Y_isBelow x = 0 ∨ mf_Y_isBelow x = 1 := by
  unfold mf_Y_isBelow; (repeat' split) <;> simp

def mf_Y_take (g : Nat → Int64) (ak : Int32) (il : Int32) (mi : Int32) (xe : Int32) (bi : Int64) (fa : Int32) (cu : Int32) (p1 : Int32) (p2 : Int64) : (Nat → Int64) × Int32 × Int32 × Int32 × Int32 × Int64 × Int32 × Int32 := (xj_bnd (mf_Y_isBelow p2) (fun y1 => (xj_bnd (Int64.toInt32 ((xj_shr p2 (7 : Int32)) &&& (255 : Int64))) (fun y2 => (xj_bnd ((xj_shl (p2 &&& (127 : Int64)) (48 : Int32)) ||| (xj_shl ((xj_shr p2 (16 : Int32)) &&& (65535 : Int64)) (32 : Int32))) (fun y3 => (xj_bnd (if p1 = (8 : Int32) then (xj_bnd ((y3 ||| (xj_shl ((xj_shr p2 (32 : Int32)) &&& (65535 : Int64)) (16 : Int32))) ||| ((xj_shr p2 (48 : Int32)) &&& (65535 : Int64))) (fun y5 => y5)) else y3) (fun y5 => (xj_bnd (if y2 = 0 then (0 : Int64) else ((36028797018963968 : Int64) ||| y5)) (fun y7 => (g, ak, il, y1, y2, y7, fa, cu)))))))))))
set_option maxHeartbeats 4000000 in
set_option maxRecDepth 100000 in
theorem mc_Y_take (l : Launch) (dC : Nat → ClassId) (dI : Nat → Nat → Nat) (k0 k_g : Nat) (cB_g : ClassId) (g : Nat → Int64) (ak : Int32) (il : Int32) (mi : Int32) (xe : Int32) (bi : Int64) (fa : Int32) (cu : Int32) (p1 : Int32) (p2 : Int64) : xj_Ov l (dC, dI) vwCl [(cB_g, .long)] (mw_Y k0 k_g cB_g) yY_take wsY_take ({ frames := 1, cells := 0, slots := 0, locals := 21 }) [.ref k0, .int p1, .long p2] (g, ak, il, mi, xe, bi, fa, cu) (mf_Y_take g ak il mi xe bi fa cu p1 p2) := by
  intro sz
  refine Met.ofW (cc := cY_take) (maxL := 6) (ret := none) (by decide) rfl ?_
  intro p e s m args below meth c s₁ B hml hv
  obtain ⟨rfl, hsz, hP, hK, hD0⟩ := hv
  have hx := B.exec
  have hb := B.bytes
  have hr := B.returns
  have hts := atoms_spec (ws := wsY_take) B.pre
  have hown : s.vm.findClass RX1 = some m.cls := findClass_of_methodNamed B.named
  have hlocks := B.notSynchronized
  subst hsz
  have hD := hD0.self (sz := s.heap.size)
  generalize hAe : va_A (mw_Y k0 k_g cB_g (g, ak, il, mi, xe, bi, fa, cu)) s.heap.size = A at hD ⊢
  have hA : ∀ q : Nat, s.heap.size ≤ q → A q := fun q h => by rw [← hAe]; exact Or.inr h
  have hS : va_S A s.heap s.heap [] := va_S.rf
  have hP : va_P (dC, dI) vwCl [(k0, .inr (1, [.ref k_g, .int ak, .int il, .int mi, .int xe, .long bi, .int fa, .int cu])), (k_g, .inl (cB_g, 8, .inr (.inl g)))] s.heap := hP
  have hD : va_D A [(k0, .inr (1, [.ref k_g, .int ak, .int il, .int mi, .int xe, .long bi, .int fa, .int cu])), (k_g, .inl (cB_g, 8, .inr (.inl g)))] := hD
  generalize hT : mf_Y_take g ak il mi xe bi fa cu p1 p2 = T
  have hF := hT.symm
  unfold mf_Y_take at hF
  have hl := lv_entry ([.ref k0, .int p1, .long p2]) (n := 6) (Nat.le_of_ble_eq_true rfl)
  rw [lg_entry_eq]
  generalize (lg_sl ([.ref k0, .int p1, .long p2]) ++ List.replicate (6 - (lg_sl ([.ref k0, .int p1, .long p2])).length) Slot.unset).toArray = ls at hl ⊢
  have hl : lv_has ls 6 [(0, .ref k0), (1, .int p1), (2, .long p2)] := hl
  refine lv_aload_n hx hb dY_take_0 rfl (lv_at hl 0 rfl) ?_
  refine lv_lload_n hx hb dY_take_1 rfl (lv_at hl 2 rfl) ?_
  refine xj_si (As := [.long p2]) (rest := [.ref k0]) ⟨hx, hb, hml, hown, hts⟩ (mc_Y_isBelow l p2) (va_cwS 1 hts (gY_isBelow _) rfl rfl rfl (by decide +kernel) ⟨Nat.le_of_ble_eq_true rfl, Nat.le_of_ble_eq_true rfl⟩) hS hA rfl hl.1 rfl (Nat.le_of_ble_eq_true rfl) dY_take_2 ⟨Nat.zero_le _, Nat.zero_le _⟩ (fun H9 locs9 hk9 hS => ?_)
  have hP := xj_kept hP hk9
  refine lv_topi (fun y1 ey1 => ?_)
  replace hF := xj_bz hF ey1
  refine va_put (D := (dC, dI)) (ci := 1) (v := .int y1) (ty := .boolean) (C := RX1) (T := TX1) (N := 8) hx hb hts (fun w9 h9 => List.mem_cons_of_mem _ (inY w9 h9)) tyX1 tyX1_ok nmX1 hown hK hP hD hS 0 rfl rfl 3 (by decide) (hts (.fieldLink RX1 29 "ExactFloatsModel" "minus" "Z") (List.mem_cons_of_mem _ mY_37)) (fun _ h9 => h9) rfl (by decide +kernel) (xj_nb (by rw [ey1]; exact ms_b_isBelow _)) (xj_fb (by rw [ey1]; exact ms_b_isBelow _)) (Nat.le_of_ble_eq_true rfl) dY_take_5 (fun H9 locs9 hP hD hS => ?_)
  have hP : va_P (dC, dI) vwCl [(k0, .inr (1, [.ref k_g, .int ak, .int il, .int y1, .int xe, .long bi, .int fa, .int cu])), (k_g, .inl (cB_g, 8, .inr (.inl g)))] _ := hP
  have hD : va_D A [(k0, .inr (1, [.ref k_g, .int ak, .int il, .int y1, .int xe, .long bi, .int fa, .int cu])), (k_g, .inl (cB_g, 8, .inr (.inl g)))] := hD
  refine lv_aload_n hx hb dY_take_8 rfl (lv_at hl 0 rfl) ?_
  refine lv_lload_n hx hb dY_take_9 rfl (lv_at hl 2 rfl) ?_
  refine lv_bipush (v := (7 : Int32)) hx hb dY_take_10 (by decide) ?_
  refine lv_lshr (v := (xj_shr p2 (7 : Int32))) hx hb dY_take_12 rfl ?_
  refine lv_ldc2 (own := RX1) (v := (255 : Int64)) hx hb hown (hts (.constantLong RX1 32 (255 : Int64)) (List.mem_cons_of_mem _ mY_38)) dY_take_13 ?_
  refine lv_land hx hb dY_take_16 ?_
  refine lv_l2i (v := (Int64.toInt32 ((xj_shr p2 (7 : Int32)) &&& (255 : Int64)))) hx hb dY_take_17 rfl ?_
  refine lv_topi (fun y2 ey2 => ?_)
  replace hF := xj_bz hF ey2
  refine va_put (D := (dC, dI)) (ci := 1) (v := .int y2) (ty := .int) (C := RX1) (T := TX1) (N := 8) hx hb hts (fun w9 h9 => List.mem_cons_of_mem _ (inY w9 h9)) tyX1 tyX1_ok nmX1 hown hK hP hD hS 0 rfl rfl 4 (by decide) (hts (.fieldLink RX1 34 "ExactFloatsModel" "exponent" "I") (List.mem_cons_of_mem _ mY_39)) (fun _ h9 => h9) rfl (by decide +kernel) rfl rfl (Nat.le_of_ble_eq_true rfl) dY_take_18 (fun H9 locs9 hP hD hS => ?_)
  have hP : va_P (dC, dI) vwCl [(k0, .inr (1, [.ref k_g, .int ak, .int il, .int y1, .int y2, .long bi, .int fa, .int cu])), (k_g, .inl (cB_g, 8, .inr (.inl g)))] _ := hP
  have hD : va_D A [(k0, .inr (1, [.ref k_g, .int ak, .int il, .int y1, .int y2, .long bi, .int fa, .int cu])), (k_g, .inl (cB_g, 8, .inr (.inl g)))] := hD
  refine lv_lload_n hx hb dY_take_21 rfl (lv_at hl 2 rfl) ?_
  refine lv_ldc2 (own := RX1) (v := (127 : Int64)) hx hb hown (hts (.constantLong RX1 38 (127 : Int64)) (List.mem_cons_of_mem _ mY_40)) dY_take_22 ?_
  refine lv_land hx hb dY_take_25 ?_
  refine lv_bipush (v := (48 : Int32)) hx hb dY_take_26 (by decide) ?_
  refine lv_lshl (v := (xj_shl (p2 &&& (127 : Int64)) (48 : Int32))) hx hb dY_take_28 rfl ?_
  refine lv_lload_n hx hb dY_take_29 rfl (lv_at hl 2 rfl) ?_
  refine lv_bipush (v := (16 : Int32)) hx hb dY_take_30 (by decide) ?_
  refine lv_lshr (v := (xj_shr p2 (16 : Int32))) hx hb dY_take_32 rfl ?_
  refine lv_ldc2 (own := RX1) (v := (65535 : Int64)) hx hb hown (hts (.constantLong RX1 40 (65535 : Int64)) (List.mem_cons_of_mem _ mY_41)) dY_take_33 ?_
  refine lv_land hx hb dY_take_36 ?_
  refine lv_bipush (v := (32 : Int32)) hx hb dY_take_37 (by decide) ?_
  refine lv_lshl (v := (xj_shl ((xj_shr p2 (16 : Int32)) &&& (65535 : Int64)) (32 : Int32))) hx hb dY_take_39 rfl ?_
  refine lv_lor hx hb dY_take_40 ?_
  refine lv_topl (fun y3 ey3 => ?_)
  replace hF := xj_bz hF ey3
  refine lv_lstore (lv' := [(4, .long y3), (0, .ref k0), (1, .int p1), (2, .long p2)]) hx hb dY_take_41 hl (by decide) rfl (fun ls hl => ?_)
  refine lv_iload_n hx hb dY_take_43 rfl (lv_at hl 2 rfl) ?_
  refine lv_bipush (v := (8 : Int32)) hx hb dY_take_44 (by decide) ?_
  obtain ⟨y5, ey5⟩ : ∃ z : Int64, z = (if p1 = (8 : Int32) then (xj_bnd ((y3 ||| (xj_shl ((xj_shr p2 (32 : Int32)) &&& (65535 : Int64)) (16 : Int32))) ||| ((xj_shr p2 (48 : Int32)) &&& (65535 : Int64))) (fun y5 => y5)) else y3) := ⟨_, rfl⟩
  replace hF := xj_bz hF ey5
  refine xj_join 74 (fun ls' st' => lv_has ls' 6 [(4, .long y5), (0, .ref k0), (1, .int p1), (2, .long p2)] ∧ st' = []) ?_ (fun K74 => ?_)
  · rintro ls st ⟨hl, rfl⟩
    refine lv_aload_n hx hb dY_take_74 rfl (lv_at hl 1 rfl) ?_
    refine lv_aload_n hx hb dY_take_75 rfl (lv_at hl 1 rfl) ?_
    refine va_get (D := (dC, dI)) (ci := 1) (v := .int y2) (C := RX1) (T := TX1) (N := 8) hx hb hts (fun w9 h9 => List.mem_cons_of_mem _ (inY w9 h9)) hown hK hP 0 rfl rfl 4 (by decide) (hts (.fieldLink RX1 34 "ExactFloatsModel" "exponent" "I") (List.mem_cons_of_mem _ mY_39)) (fun _ h9 => h9) rfl dY_take_76 ?_
    obtain ⟨y7, ey7⟩ : ∃ z : Int64, z = (if y2 = 0 then (0 : Int64) else ((36028797018963968 : Int64) ||| y5)) := ⟨_, rfl⟩
    replace hF := xj_bz hF ey7
    refine xj_join 92 (fun ls' st' => lv_has ls' 6 [(4, .long y5), (0, .ref k0), (1, .int p1), (2, .long p2)] ∧ st' = [.long y7, .ref k0]) ?_ (fun K92 => ?_)
    · rintro ls st ⟨hl, rfl⟩
      refine va_put (D := (dC, dI)) (ci := 1) (v := .long y7) (ty := .long) (C := RX1) (T := TX1) (N := 8) hx hb hts (fun w9 h9 => List.mem_cons_of_mem _ (inY w9 h9)) tyX1 tyX1_ok nmX1 hown hK hP hD hS 0 rfl rfl 5 (by decide) (hts (.fieldLink RX1 44 "ExactFloatsModel" "bits" "J") (List.mem_cons_of_mem _ mY_43)) (fun _ h9 => h9) rfl (by decide +kernel) rfl rfl (Nat.le_of_ble_eq_true rfl) dY_take_92 (fun H9 locs9 hP hD hS => ?_)
      have hP : va_P (dC, dI) vwCl [(k0, .inr (1, [.ref k_g, .int ak, .int il, .int y1, .int y2, .long y7, .int fa, .int cu])), (k_g, .inl (cB_g, 8, .inr (.inl g)))] _ := hP
      have hD : va_D A [(k0, .inr (1, [.ref k_g, .int ak, .int il, .int y1, .int y2, .long y7, .int fa, .int cu])), (k_g, .inl (cB_g, 8, .inr (.inl g)))] := hD
      exact W.vret hx hb hr (fun t ht hW => ⟨⟨(g, ak, il, y1, y2, y7, fa, cu), rfl, hF.symm, by rw [ht]; exact hP, hD⟩, hS.F ht⟩) hS.2.2 dY_take_95
    · refine lv_if_ne (tgt := 86) hx hb dY_take_79 (by decide) (fun c6 => ?_) (fun c6 => ?_)
      · replace ey7 := xj_f ey7 c6
        refine lv_ldc2 (own := RX1) (v := (36028797018963968 : Int64)) hx hb hown (hts (.constantLong RX1 42 (36028797018963968 : Int64)) (List.mem_cons_of_mem _ mY_42)) dY_take_86 ?_
        refine lv_lload hx hb dY_take_89 (lv_at hl 0 rfl) ?_
        refine lv_lor hx hb dY_take_91 ?_
        subst ey7
        exact K92 _ _ ⟨lv_sub hl [0, 1, 2, 3] rfl, rfl⟩
      · replace ey7 := xj_t ey7 c6
        refine lv_lconst (v := (0 : Int64)) hx hb dY_take_82 (by decide) ?_
        refine lv_goto (tgt := 92) hx hb dY_take_83 (by decide) ?_
        subst ey7
        exact K92 _ _ ⟨lv_sub hl [0, 1, 2, 3] rfl, rfl⟩
  · refine lv_icmp_ne (tgt := 74) hx hb dY_take_46 (by decide) (fun c4 => ?_) (fun c4 => ?_)
    · replace ey5 := xj_f ey5 c4
      subst ey5
      exact K74 _ _ ⟨lv_sub hl [0, 1, 2, 3] rfl, rfl⟩
    · replace ey5 := xj_t ey5 c4
      refine lv_lload hx hb dY_take_49 (lv_at hl 0 rfl) ?_
      refine lv_lload_n hx hb dY_take_51 rfl (lv_at hl 3 rfl) ?_
      refine lv_bipush (v := (32 : Int32)) hx hb dY_take_52 (by decide) ?_
      refine lv_lshr (v := (xj_shr p2 (32 : Int32))) hx hb dY_take_54 rfl ?_
      refine lv_ldc2 (own := RX1) (v := (65535 : Int64)) hx hb hown (hts (.constantLong RX1 40 (65535 : Int64)) (List.mem_cons_of_mem _ mY_41)) dY_take_55 ?_
      refine lv_land hx hb dY_take_58 ?_
      refine lv_bipush (v := (16 : Int32)) hx hb dY_take_59 (by decide) ?_
      refine lv_lshl (v := (xj_shl ((xj_shr p2 (32 : Int32)) &&& (65535 : Int64)) (16 : Int32))) hx hb dY_take_61 rfl ?_
      refine lv_lor hx hb dY_take_62 ?_
      refine lv_lload_n hx hb dY_take_63 rfl (lv_at hl 3 rfl) ?_
      refine lv_bipush (v := (48 : Int32)) hx hb dY_take_64 (by decide) ?_
      refine lv_lshr (v := (xj_shr p2 (48 : Int32))) hx hb dY_take_66 rfl ?_
      refine lv_ldc2 (own := RX1) (v := (65535 : Int64)) hx hb hown (hts (.constantLong RX1 40 (65535 : Int64)) (List.mem_cons_of_mem _ mY_41)) dY_take_67 ?_
      refine lv_land hx hb dY_take_70 ?_
      refine lv_lor hx hb dY_take_71 ?_
      refine lv_topl (fun y8 ey8 => ?_)
      replace ey5 := xj_bz ey5 ey8
      refine lv_lstore (lv' := [(4, .long y8), (0, .ref k0), (1, .int p1), (2, .long p2)]) hx hb dY_take_72 hl (by decide) rfl (fun ls hl => ?_)
      subst ey5
      exact K74 _ _ ⟨lv_sub hl [0, 1, 2, 3] rfl, rfl⟩

set_option maxHeartbeats 4000000 in
set_option maxRecDepth 100000 in
theorem mc_Y_init (l : Launch) (dC : Nat → ClassId) (dI : Nat → Nat → Nat) (k0 sz : Nat) : Met l yY_init wsY_init ({ frames := 1, cells := 1, slots := 8, locals := 12 }) (va_Pc [.ref k0] (fun U => U.heap.size = sz ∧ va_P (dC, dI) vwCl [(k0, .inr (1, [.null, .int (0 : Int32), .int (0 : Int32), .int (0 : Int32), .int (0 : Int32), .long (0 : Int64), .int (0 : Int32), .int (0 : Int32)]))] U.heap ∧ va_K (dC, dI) vwCl [] U ∧ va_D (fun _ => True) [(k0, .inr (1, [.null, .int (0 : Int32), .int (0 : Int32), .int (0 : Int32), .int (0 : Int32), .long (0 : Int64), .int (0 : Int32), .int (0 : Int32)]))])) (va_Qv (fun (_ : Nat × ClassId) => True) (fun u t => va_P (dC, dI) vwCl (mw_Y k0 u.1 u.2 (fun _ => 0, 0, 0, 0, 0, 0, 0, 0)) t.heap ∧ va_K (dC, dI) vwCl [(u.2, .long)] t ∧ va_D (va_A [(k0, .inr (1, [.null, .int (0 : Int32), .int (0 : Int32), .int (0 : Int32), .int (0 : Int32), .long (0 : Int64), .int (0 : Int32), .int (0 : Int32)]))] sz) (mw_Y k0 u.1 u.2 (fun _ => 0, 0, 0, 0, 0, 0, 0, 0))) (va_A [(k0, .inr (1, [.null, .int (0 : Int32), .int (0 : Int32), .int (0 : Int32), .int (0 : Int32), .long (0 : Int64), .int (0 : Int32), .int (0 : Int32)]))] sz)) 1 8 (va_A [(k0, .inr (1, [.null, .int (0 : Int32), .int (0 : Int32), .int (0 : Int32), .int (0 : Int32), .long (0 : Int64), .int (0 : Int32), .int (0 : Int32)]))] sz) := by
  refine Met.ofW (cc := cY_init) (maxL := 1) (ret := none) (by decide) rfl ?_
  intro p e s m args below meth c s₁ B hml hv
  obtain ⟨rfl, hsz, hP, hK, hD0⟩ := hv
  have hx := B.exec
  have hb := B.bytes
  have hr := B.returns
  have hts := atoms_spec (ws := wsY_init) B.pre
  have hown : s.vm.findClass RX1 = some m.cls := findClass_of_methodNamed B.named
  have hin : meth.name = "<init>" := (name_of_methodNamed B.named B.method).1
  subst hsz
  have hD := hD0.self (sz := s.heap.size)
  generalize hAe : va_A [(k0, .inr (1, [.null, .int (0 : Int32), .int (0 : Int32), .int (0 : Int32), .int (0 : Int32), .long (0 : Int64), .int (0 : Int32), .int (0 : Int32)]))] s.heap.size = A at hD ⊢
  have hA : ∀ q : Nat, s.heap.size ≤ q → A q := fun q h => by rw [← hAe]; exact Or.inr h
  have hS : va_S A s.heap s.heap [] := va_S.rf
  have hP : va_P (dC, dI) vwCl [(k0, .inr (1, [.null, .int (0 : Int32), .int (0 : Int32), .int (0 : Int32), .int (0 : Int32), .long (0 : Int64), .int (0 : Int32), .int (0 : Int32)]))] s.heap := hP
  have hl := lv_entry ([.ref k0]) (n := 1) (Nat.le_of_ble_eq_true rfl)
  rw [lg_entry_eq]
  generalize (lg_sl ([.ref k0]) ++ List.replicate (1 - (lg_sl ([.ref k0])).length) Slot.unset).toArray = ls at hl ⊢
  have hl : lv_has ls 1 [(0, .ref k0)] := hl
  refine lv_aload_n hx hb dY_init_0 rfl (lv_at hl 0 rfl) ?_
  refine W.objInit hx hb hown (hts (.methodLink RX1 1 objectInit) (by decide +kernel)) (hts (.instanceMethod objectInit) (by decide +kernel)) (hts (.code objectInit ⟨#[0xb1]⟩ 1 none) (by decide +kernel)) rfl (by rw [hml]; exact hl.1) rfl dY_init_1 (Nat.le_of_ble_eq_true rfl) (Nat.le_of_ble_eq_true rfl) ?_
  refine W.eq (g2 := F0 m 4 ls []) rfl ?_
  refine lv_aload_n hx hb dY_init_4 rfl (lv_at hl 0 rfl) ?_
  refine lv_bipush (v := (8 : Int32)) hx hb dY_init_5 (by decide) ?_
  refine va_newa (atype := .long) (ty := .long) (N' := 8) (a0 := (8, .inr (.inl (fun _ => 0)))) hx hb (hts (.arrayClass .long) (by decide +kernel)) rfl hK hP hD hS hA (fun _ => rfl) (by decide +kernel) (by decide +kernel) (by decide +kernel) (Nat.le_of_ble_eq_true rfl) (Nat.le_of_ble_eq_true rfl) dY_init_7 (fun q1 cA1 H9 hK hP hD hS => ?_)
  have hK : va_K (dC, dI) vwCl [(cA1, .long)] s := hK
  have hP : va_P (dC, dI) vwCl [(k0, .inr (1, [.null, .int (0 : Int32), .int (0 : Int32), .int (0 : Int32), .int (0 : Int32), .long (0 : Int64), .int (0 : Int32), .int (0 : Int32)])), (q1, .inl (cA1, 8, .inr (.inl (fun _ => 0))))] _ := hP
  have hD : va_D A [(k0, .inr (1, [.null, .int (0 : Int32), .int (0 : Int32), .int (0 : Int32), .int (0 : Int32), .long (0 : Int64), .int (0 : Int32), .int (0 : Int32)])), (q1, .inl (cA1, 8, .inr (.inl (fun _ => 0))))] := hD
  refine W.widen (k := 1) (n := 8) (Nat.le_of_ble_eq_true rfl) (Nat.le_of_ble_eq_true rfl) ?_
  refine va_putF (D := (dC, dI)) (ci := 1) (v := .ref q1) (ty := .array .long) (C := RX1) (T := TX1) (N := 8) hx hb hts (by decide +kernel) tyX1 tyX1_ok nmX1 hown hK hP hD hS 0 rfl rfl 0 (by decide) (hts (.fieldLink RX1 7 "ExactFloatsModel" "register" "[J") (by decide +kernel)) (fun _ h9 => h9) rfl hin rfl (by decide +kernel) rfl rfl (Nat.le_of_ble_eq_true rfl) dY_init_9 (fun H9 locs9 hP hD hS => ?_)
  have hP : va_P (dC, dI) vwCl [(k0, .inr (1, [.ref q1, .int (0 : Int32), .int (0 : Int32), .int (0 : Int32), .int (0 : Int32), .long (0 : Int64), .int (0 : Int32), .int (0 : Int32)])), (q1, .inl (cA1, 8, .inr (.inl (fun _ => 0))))] _ := hP
  have hD : va_D A [(k0, .inr (1, [.ref q1, .int (0 : Int32), .int (0 : Int32), .int (0 : Int32), .int (0 : Int32), .long (0 : Int64), .int (0 : Int32), .int (0 : Int32)])), (q1, .inl (cA1, 8, .inr (.inl (fun _ => 0))))] := hD
  exact W.vret hx hb hr (fun t ht hW => ⟨⟨(q1, cA1), rfl, trivial, by rw [ht]; exact hP, va_K.moved hW.alike hK, hD⟩, hS.F ht⟩) hS.2.2 dY_init_12
def mf_Y_flags (p1 : Int64) : Int32 := (xj_bnd (mf_Y_isZero p1) (fun y1 => (if y1 = 0 then (xj_bnd (mf_Y_isBelow p1) (fun y3 => (if y3 = 0 then (0 : Int32) else (8 : Int32)))) else (4 : Int32))))
set_option maxHeartbeats 4000000 in
set_option maxRecDepth 100000 in
theorem mc_Y_flags (l : Launch) (p1 : Int64) : xj_Pi l yY_flags wsY_flags ({ frames := 1, cells := 0, slots := 0, locals := 21 }) [.long p1] (mf_Y_flags p1) := by
  intro sz
  refine Met.ofW (cc := cY_flags) (maxL := 2) (ret := (some .int)) (by decide) rfl ?_
  intro p e s m args below meth c s₁ B hml hv
  obtain ⟨rfl, hsz⟩ := hv
  have hx := B.exec
  have hb := B.bytes
  have hr := B.returns
  have hts := atoms_spec (ws := wsY_flags) B.pre
  have hown : s.vm.findClass RX1 = some m.cls := findClass_of_methodNamed B.named
  have hlocks := B.notSynchronized
  subst hsz
  generalize hAe : va_A [] s.heap.size = A
  have hA : ∀ q : Nat, s.heap.size ≤ q → A q := fun q h => by rw [← hAe]; exact Or.inr h
  have hS : va_S A s.heap s.heap [] := va_S.rf
  generalize hT : mf_Y_flags p1 = T
  have hF := hT.symm
  unfold mf_Y_flags at hF
  have hl := lv_entry ([.long p1]) (n := 2) (Nat.le_of_ble_eq_true rfl)
  rw [lg_entry_eq]
  generalize (lg_sl ([.long p1]) ++ List.replicate (2 - (lg_sl ([.long p1])).length) Slot.unset).toArray = ls at hl ⊢
  have hl : lv_has ls 2 [(0, .long p1)] := hl
  refine lv_lload_n hx hb dY_flags_0 rfl (lv_at hl 0 rfl) ?_
  refine xj_si (As := [.long p1]) (rest := []) ⟨hx, hb, hml, hown, hts⟩ (mc_Y_isZero l p1) (va_cwS 1 hts (gY_isZero _) rfl rfl rfl (by decide +kernel) ⟨Nat.le_of_ble_eq_true rfl, Nat.le_of_ble_eq_true rfl⟩) hS hA rfl hl.1 rfl (Nat.le_of_ble_eq_true rfl) dY_flags_1 ⟨Nat.zero_le _, Nat.zero_le _⟩ (fun H9 locs9 hk9 hS => ?_)
  refine lv_topi (fun y1 ey1 => ?_)
  replace hF := xj_bz hF ey1
  refine lv_if_eq (tgt := 11) hx hb dY_flags_4 (by decide) (fun c2 => ?_) (fun c2 => ?_)
  · replace hF := xj_t hF c2
    refine lv_lload_n hx hb dY_flags_11 rfl (lv_at hl 0 rfl) ?_
    refine xj_si (As := [.long p1]) (rest := []) ⟨hx, hb, hml, hown, hts⟩ (mc_Y_isBelow l p1) (va_cwS 1 hts (gY_isBelow _) rfl rfl rfl (by decide +kernel) ⟨Nat.le_of_ble_eq_true rfl, Nat.le_of_ble_eq_true rfl⟩) hS hA rfl hl.1 rfl (Nat.le_of_ble_eq_true rfl) dY_flags_12 ⟨Nat.zero_le _, Nat.zero_le _⟩ (fun H9 locs9 hk9 hS => ?_)
    refine lv_topi (fun y3 ey3 => ?_)
    replace hF := xj_bz hF ey3
    refine lv_if_eq (tgt := 23) hx hb dY_flags_15 (by decide) (fun c4 => ?_) (fun c4 => ?_)
    · replace hF := xj_t hF c4
      refine lv_iconst (v := (0 : Int32)) hx hb dY_flags_23 (by decide) ?_
      exact W.iret (v := (0 : Int32)) hx hb hr (fun t ht hW => ⟨⟨_, (), rfl, hF.symm, trivial⟩, hS.F ht⟩) hS.2.2 dY_flags_24
    · replace hF := xj_f hF c4
      refine lv_bipush (v := (8 : Int32)) hx hb dY_flags_18 (by decide) ?_
      refine lv_goto (tgt := 24) hx hb dY_flags_20 (by decide) ?_
      exact W.iret (v := (8 : Int32)) hx hb hr (fun t ht hW => ⟨⟨_, (), rfl, hF.symm, trivial⟩, hS.F ht⟩) hS.2.2 dY_flags_24
  · replace hF := xj_f hF c2
    refine lv_iconst (v := (4 : Int32)) hx hb dY_flags_7 (by decide) ?_
    refine lv_goto (tgt := 24) hx hb dY_flags_8 (by decide) ?_
    exact W.iret (v := (4 : Int32)) hx hb hr (fun t ht hW => ⟨⟨_, (), rfl, hF.symm, trivial⟩, hS.F ht⟩) hS.2.2 dY_flags_24
def mf_Y_gives (g : Nat → Int64) (ak : Int32) (il : Int32) (mi : Int32) (xe : Int32) (bi : Int64) (fa : Int32) (cu : Int32) (p1 : Int64) (p2 : Int32) : Int32 × (Nat → Int64) × Int32 × Int32 × Int32 × Int32 × Int64 × Int32 × Int32 := (if fa = 0 then (xj_bnd (mf_Y_flags p1) (fun y2 => (y2, ((vp_updL g (Int32.toNatClampNeg p2) p1), ak, cu, mi, xe, bi, fa, cu)))) else (fa, (g, ak, il, mi, xe, bi, fa, cu)))
set_option maxHeartbeats 4000000 in
set_option maxRecDepth 100000 in
theorem mc_Y_gives (l : Launch) (dC : Nat → ClassId) (dI : Nat → Nat → Nat) (k0 k_g : Nat) (cB_g : ClassId) (g : Nat → Int64) (ak : Int32) (il : Int32) (mi : Int32) (xe : Int32) (bi : Int64) (fa : Int32) (cu : Int32) (p1 : Int64) (p2 : Int32) (hin2 : vp_in p2 8) (hcu : cu = 0 ∨ cu = 1) : xj_Oi l (dC, dI) vwCl [(cB_g, .long)] (mw_Y k0 k_g cB_g) yY_gives wsY_gives ({ frames := 2, cells := 0, slots := 0, locals := 42 }) [.ref k0, .long p1, .int p2] (g, ak, il, mi, xe, bi, fa, cu) (mf_Y_gives g ak il mi xe bi fa cu p1 p2) := by
  intro sz
  refine Met.ofW (cc := cY_gives) (maxL := 4) (ret := (some .int)) (by decide) rfl ?_
  intro p e s m args below meth c s₁ B hml hv
  obtain ⟨rfl, hsz, hP, hK, hD0⟩ := hv
  have hx := B.exec
  have hb := B.bytes
  have hr := B.returns
  have hts := atoms_spec (ws := wsY_gives) B.pre
  have hown : s.vm.findClass RX1 = some m.cls := findClass_of_methodNamed B.named
  have hlocks := B.notSynchronized
  subst hsz
  have hD := hD0.self (sz := s.heap.size)
  generalize hAe : va_A (mw_Y k0 k_g cB_g (g, ak, il, mi, xe, bi, fa, cu)) s.heap.size = A at hD ⊢
  have hA : ∀ q : Nat, s.heap.size ≤ q → A q := fun q h => by rw [← hAe]; exact Or.inr h
  have hS : va_S A s.heap s.heap [] := va_S.rf
  have hP : va_P (dC, dI) vwCl [(k0, .inr (1, [.ref k_g, .int ak, .int il, .int mi, .int xe, .long bi, .int fa, .int cu])), (k_g, .inl (cB_g, 8, .inr (.inl g)))] s.heap := hP
  have hD : va_D A [(k0, .inr (1, [.ref k_g, .int ak, .int il, .int mi, .int xe, .long bi, .int fa, .int cu])), (k_g, .inl (cB_g, 8, .inr (.inl g)))] := hD
  generalize hT : mf_Y_gives g ak il mi xe bi fa cu p1 p2 = T
  have hF := hT.symm
  unfold mf_Y_gives at hF
  have hl := lv_entry ([.ref k0, .long p1, .int p2]) (n := 4) (Nat.le_of_ble_eq_true rfl)
  rw [lg_entry_eq]
  generalize (lg_sl ([.ref k0, .long p1, .int p2]) ++ List.replicate (4 - (lg_sl ([.ref k0, .long p1, .int p2])).length) Slot.unset).toArray = ls at hl ⊢
  have hl : lv_has ls 4 [(0, .ref k0), (1, .long p1), (3, .int p2)] := hl
  refine lv_aload_n hx hb dY_gives_0 rfl (lv_at hl 0 rfl) ?_
  refine va_get (D := (dC, dI)) (ci := 1) (v := .int fa) (C := RX1) (T := TX1) (N := 8) hx hb hts (fun w9 h9 => List.mem_cons_of_mem _ (inY w9 h9)) hown hK hP 0 rfl rfl 6 (by decide) (hts (.fieldLink RX1 48 "ExactFloatsModel" "fault" "I") (List.mem_cons_of_mem _ mY_44)) (fun _ h9 => h9) rfl dY_gives_1 ?_
  refine lv_if_eq (tgt := 12) hx hb dY_gives_4 (by decide) (fun c1 => ?_) (fun c1 => ?_)
  · replace hF := xj_t hF c1
    refine lv_aload_n hx hb dY_gives_12 rfl (lv_at hl 0 rfl) ?_
    refine va_get (D := (dC, dI)) (ci := 1) (v := .ref k_g) (C := RX1) (T := TX1) (N := 8) hx hb hts (fun w9 h9 => List.mem_cons_of_mem _ (inY w9 h9)) hown hK hP 0 rfl rfl 0 (by decide) (hts (.fieldLink RX1 7 "ExactFloatsModel" "register" "[J") (List.mem_cons_of_mem _ mY_29)) (fun _ h9 => h9) rfl dY_gives_13 ?_
    refine lv_iload_n hx hb dY_gives_16 rfl (lv_at hl 2 rfl) ?_
    refine lv_lload_n hx hb dY_gives_17 rfl (lv_at hl 1 rfl) ?_
    refine va_last hx hb hK hP hD hS 1 0 rfl rfl (hin2) dY_gives_18 (fun H9 locs9 hP hD hS => ?_)
    have hP : va_P (dC, dI) vwCl [(k0, .inr (1, [.ref k_g, .int ak, .int il, .int mi, .int xe, .long bi, .int fa, .int cu])), (k_g, .inl (cB_g, 8, .inr (.inl (vp_updL g (Int32.toNatClampNeg p2) p1))))] _ := hP
    have hD : va_D A [(k0, .inr (1, [.ref k_g, .int ak, .int il, .int mi, .int xe, .long bi, .int fa, .int cu])), (k_g, .inl (cB_g, 8, .inr (.inl (vp_updL g (Int32.toNatClampNeg p2) p1))))] := hD
    refine lv_aload_n hx hb dY_gives_19 rfl (lv_at hl 0 rfl) ?_
    refine lv_aload_n hx hb dY_gives_20 rfl (lv_at hl 0 rfl) ?_
    refine va_get (D := (dC, dI)) (ci := 1) (v := .int cu) (C := RX1) (T := TX1) (N := 8) hx hb hts (fun w9 h9 => List.mem_cons_of_mem _ (inY w9 h9)) hown hK hP 0 rfl rfl 7 (by decide) (hts (.fieldLink RX1 51 "ExactFloatsModel" "cut" "Z") (List.mem_cons_of_mem _ mY_45)) (fun _ h9 => h9) rfl dY_gives_21 ?_
    refine va_put (D := (dC, dI)) (ci := 1) (v := .int cu) (ty := .boolean) (C := RX1) (T := TX1) (N := 8) hx hb hts (fun w9 h9 => List.mem_cons_of_mem _ (inY w9 h9)) tyX1 tyX1_ok nmX1 hown hK hP hD hS 0 rfl rfl 2 (by decide) (hts (.fieldLink RX1 63 "ExactFloatsModel" "isLost" "Z") (List.mem_cons_of_mem _ mY_51)) (fun _ h9 => h9) rfl (by decide +kernel) (xj_nb (hcu)) (xj_fb (hcu)) (Nat.le_of_ble_eq_true rfl) dY_gives_24 (fun H9 locs9 hP hD hS => ?_)
    have hP : va_P (dC, dI) vwCl [(k0, .inr (1, [.ref k_g, .int ak, .int cu, .int mi, .int xe, .long bi, .int fa, .int cu])), (k_g, .inl (cB_g, 8, .inr (.inl (vp_updL g (Int32.toNatClampNeg p2) p1))))] _ := hP
    have hD : va_D A [(k0, .inr (1, [.ref k_g, .int ak, .int cu, .int mi, .int xe, .long bi, .int fa, .int cu])), (k_g, .inl (cB_g, 8, .inr (.inl (vp_updL g (Int32.toNatClampNeg p2) p1))))] := hD
    refine lv_lload_n hx hb dY_gives_27 rfl (lv_at hl 1 rfl) ?_
    refine xj_si (As := [.long p1]) (rest := []) ⟨hx, hb, hml, hown, hts⟩ (mc_Y_flags l p1) (va_cwS 1 hts (gY_flags _) rfl rfl rfl (by decide +kernel) ⟨Nat.le_of_ble_eq_true rfl, Nat.le_of_ble_eq_true rfl⟩) hS hA rfl hl.1 rfl (Nat.le_of_ble_eq_true rfl) dY_gives_28 ⟨Nat.zero_le _, Nat.zero_le _⟩ (fun H9 locs9 hk9 hS => ?_)
    have hP := xj_kept hP hk9
    refine lv_topi (fun y2 ey2 => ?_)
    replace hF := xj_bz hF ey2
    exact W.iret (v := y2) hx hb hr (fun t ht hW => ⟨⟨_, ((vp_updL g (Int32.toNatClampNeg p2) p1), ak, cu, mi, xe, bi, fa, cu), rfl, hF.symm, by rw [ht]; exact hP, hD⟩, hS.F ht⟩) hS.2.2 dY_gives_31
  · replace hF := xj_f hF c1
    refine lv_aload_n hx hb dY_gives_7 rfl (lv_at hl 0 rfl) ?_
    refine va_get (D := (dC, dI)) (ci := 1) (v := .int fa) (C := RX1) (T := TX1) (N := 8) hx hb hts (fun w9 h9 => List.mem_cons_of_mem _ (inY w9 h9)) hown hK hP 0 rfl rfl 6 (by decide) (hts (.fieldLink RX1 48 "ExactFloatsModel" "fault" "I") (List.mem_cons_of_mem _ mY_44)) (fun _ h9 => h9) rfl dY_gives_8 ?_
    exact W.iret (v := fa) hx hb hr (fun t ht hW => ⟨⟨_, (g, ak, il, mi, xe, bi, fa, cu), rfl, hF.symm, by rw [ht]; exact hP, hD⟩, hS.F ht⟩) hS.2.2 dY_gives_11
def mf_Y_other (p1 : Int64) : Int64 := (xj_bnd (mf_Y_isZero p1) (fun y1 => (if y1 = 0 then (p1 ^^^ (32768 : Int64)) else (0 : Int64))))
set_option maxHeartbeats 4000000 in
set_option maxRecDepth 100000 in
theorem mc_Y_other (l : Launch) (p1 : Int64) : xj_Pl l yY_other wsY_other ({ frames := 1, cells := 0, slots := 0, locals := 21 }) [.long p1] (mf_Y_other p1) := by
  intro sz
  refine Met.ofW (cc := cY_other) (maxL := 2) (ret := (some .long)) (by decide) rfl ?_
  intro p e s m args below meth c s₁ B hml hv
  obtain ⟨rfl, hsz⟩ := hv
  have hx := B.exec
  have hb := B.bytes
  have hr := B.returns
  have hts := atoms_spec (ws := wsY_other) B.pre
  have hown : s.vm.findClass RX1 = some m.cls := findClass_of_methodNamed B.named
  have hlocks := B.notSynchronized
  subst hsz
  generalize hAe : va_A [] s.heap.size = A
  have hA : ∀ q : Nat, s.heap.size ≤ q → A q := fun q h => by rw [← hAe]; exact Or.inr h
  have hS : va_S A s.heap s.heap [] := va_S.rf
  generalize hT : mf_Y_other p1 = T
  have hF := hT.symm
  unfold mf_Y_other at hF
  have hl := lv_entry ([.long p1]) (n := 2) (Nat.le_of_ble_eq_true rfl)
  rw [lg_entry_eq]
  generalize (lg_sl ([.long p1]) ++ List.replicate (2 - (lg_sl ([.long p1])).length) Slot.unset).toArray = ls at hl ⊢
  have hl : lv_has ls 2 [(0, .long p1)] := hl
  refine lv_lload_n hx hb dY_other_0 rfl (lv_at hl 0 rfl) ?_
  refine xj_si (As := [.long p1]) (rest := []) ⟨hx, hb, hml, hown, hts⟩ (mc_Y_isZero l p1) (va_cwS 1 hts (gY_isZero _) rfl rfl rfl (by decide +kernel) ⟨Nat.le_of_ble_eq_true rfl, Nat.le_of_ble_eq_true rfl⟩) hS hA rfl hl.1 rfl (Nat.le_of_ble_eq_true rfl) dY_other_1 ⟨Nat.zero_le _, Nat.zero_le _⟩ (fun H9 locs9 hk9 hS => ?_)
  refine lv_topi (fun y1 ey1 => ?_)
  replace hF := xj_bz hF ey1
  refine lv_if_eq (tgt := 11) hx hb dY_other_4 (by decide) (fun c2 => ?_) (fun c2 => ?_)
  · replace hF := xj_t hF c2
    refine lv_lload_n hx hb dY_other_11 rfl (lv_at hl 0 rfl) ?_
    refine lv_ldc2 (own := RX1) (v := (32768 : Int64)) hx hb hown (hts (.constantLong RX1 21 (32768 : Int64)) (List.mem_cons_of_mem _ mY_33)) dY_other_12 ?_
    refine lv_lxor hx hb dY_other_15 ?_
    exact W.lret (v := (p1 ^^^ (32768 : Int64))) hx hb hr (fun t ht hW => ⟨⟨_, (), rfl, hF.symm, trivial⟩, hS.F ht⟩) hS.2.2 dY_other_16
  · replace hF := xj_f hF c2
    refine lv_lconst (v := (0 : Int64)) hx hb dY_other_7 (by decide) ?_
    refine lv_goto (tgt := 16) hx hb dY_other_8 (by decide) ?_
    exact W.lret (v := (0 : Int64)) hx hb hr (fun t ht hW => ⟨⟨_, (), rfl, hF.symm, trivial⟩, hS.F ht⟩) hS.2.2 dY_other_16
end
section
def ml_Y_rounds_27 (p3 : Int64) : Nat → Int32 → Int32
  | 0, v3 => v3
  | n + 1, v3 => (if (63 : Int32) ≤ v3 then v3 else (if (xj_shr p3 v3) = (0 : Int64) then v3 else (xj_bnd (v3 + (1 : Int32)) (fun y7 => (ml_Y_rounds_27 p3 n y7)))))
theorem ml_Y_rounds_27_s (p3 : Int64) (n : Nat) (v3 : Int32) : ml_Y_rounds_27 p3 (n + 1) v3 = (if (63 : Int32) ≤ v3 then v3 else (if (xj_shr p3 v3) = (0 : Int64) then v3 else (xj_bnd (v3 + (1 : Int32)) (fun y7 => (ml_Y_rounds_27 p3 n y7))))) := rfl
def mf_Y_rounds (g : Nat → Int64) (ak : Int32) (il : Int32) (mi : Int32) (xe : Int32) (bi : Int64) (fa : Int32) (cu : Int32) (p1 : Int32) (p2 : Int32) (p3 : Int64) (p4 : Int32) (p5 : Int32) : Int64 × (Nat → Int64) × Int32 × Int32 × Int32 × Int32 × Int64 × Int32 × Int32 := (if p3 = (0 : Int64) then ((0 : Int64), (g, ak, il, mi, xe, bi, (0 : Int32), (0 : Int32))) else (xj_bnd (mf_Y_many p1) (fun y2 => (xj_bnd (ml_Y_rounds_27 p3 64 (0 : Int32)) (fun q4 => (xj_bnd (q4 - y2) (fun y8 => (xj_bnd (if y8 ≤ 0 then (xj_bnd (xj_shl p3 (-y8)) (fun y10 => y10)) else (xj_bnd ((xj_shr p3 y8) + ((xj_shr p3 (y8 - (1 : Int32))) &&& (1 : Int64))) (fun y11 => (xj_bnd (if p5 = 0 then (if (p3 &&& ((xj_shl (1 : Int64) y8) - (1 : Int64))) = (0 : Int64) then (0 : Int32) else (1 : Int32)) else (1 : Int32)) (fun y13 => y11))))) (fun y10 => (xj_bnd (if y8 ≤ 0 then (xj_bnd (xj_shl p3 (-y8)) (fun y10 => p5)) else (xj_bnd ((xj_shr p3 y8) + ((xj_shr p3 (y8 - (1 : Int32))) &&& (1 : Int64))) (fun y11 => (xj_bnd (if p5 = 0 then (if (p3 &&& ((xj_shl (1 : Int64) y8) - (1 : Int64))) = (0 : Int64) then (0 : Int32) else (1 : Int32)) else (1 : Int32)) (fun y13 => y13))))) (fun y11 => (xj_bnd (if (xj_shr y10 y2) = (0 : Int64) then y10 else (xj_bnd (xj_shr y10 (1 : Int32)) (fun y13 => (xj_bnd (y8 + (1 : Int32)) (fun y14 => y13))))) (fun y13 => (xj_bnd (if (xj_shr y10 y2) = (0 : Int64) then y8 else (xj_bnd (xj_shr y10 (1 : Int32)) (fun y13 => (xj_bnd (y8 + (1 : Int32)) (fun y14 => y14))))) (fun y14 => (xj_bnd (((p4 + y14) + y2) + (128 : Int32)) (fun y15 => (if y15 ≤ (255 : Int32) then (if (1 : Int32) ≤ y15 then (xj_bnd (if p1 = (8 : Int32) then y13 else (xj_shl y13 (32 : Int32))) (fun y19 => (xj_bnd (y19 &&& (36028797018963967 : Int64)) (fun y20 => (xj_bnd (if p2 = 0 then (0 : Int64) else (32768 : Int64)) (fun y22 => (xj_bnd (((y22 ||| (xj_shl (Int32.toInt64 y15) (7 : Int32))) ||| (xj_shr y20 (48 : Int32))) ||| (xj_shl ((xj_shr y20 (32 : Int32)) &&& (65535 : Int64)) (16 : Int32))) (fun y23 => (if p1 = (8 : Int32) then (((y23 ||| (xj_shl ((xj_shr y20 (16 : Int32)) &&& (65535 : Int64)) (32 : Int32))) ||| (xj_shl (y20 &&& (65535 : Int64)) (48 : Int32))), (g, ak, il, mi, xe, bi, (0 : Int32), y11)) else (y23, (g, ak, il, mi, xe, bi, (0 : Int32), y11))))))))))) else (xj_bnd (if ak = 0 then (0 : Int32) else (-3 : Int32)) (fun y26 => ((0 : Int64), (g, ak, il, mi, xe, bi, y26, (1 : Int32)))))) else ((0 : Int64), (g, ak, il, mi, xe, bi, (-2 : Int32), y11))))))))))))))))))))
set_option maxHeartbeats 4000000 in
set_option maxRecDepth 100000 in
theorem mc_Y_rounds (l : Launch) (dC : Nat → ClassId) (dI : Nat → Nat → Nat) (k0 k_g : Nat) (cB_g : ClassId) (g : Nat → Int64) (ak : Int32) (il : Int32) (mi : Int32) (xe : Int32) (bi : Int64) (fa : Int32) (cu : Int32) (p1 : Int32) (p2 : Int32) (p3 : Int64) (p4 : Int32) (p5 : Int32) (hb5 : p5 = 0 ∨ p5 = 1) : xj_Ol l (dC, dI) vwCl [(cB_g, .long)] (mw_Y k0 k_g cB_g) yY_rounds wsY_rounds ({ frames := 1, cells := 0, slots := 0, locals := 20 }) [.ref k0, .int p1, .int p2, .long p3, .int p4, .int p5] (g, ak, il, mi, xe, bi, fa, cu) (mf_Y_rounds g ak il mi xe bi fa cu p1 p2 p3 p4 p5) := by
  intro sz
  refine Met.ofW (cc := cY_rounds) (maxL := 17) (ret := (some .long)) (by decide) rfl ?_
  intro p e s m args below meth c s₁ B hml hv
  obtain ⟨rfl, hsz, hP, hK, hD0⟩ := hv
  have hx := B.exec
  have hb := B.bytes
  have hr := B.returns
  have hts := atoms_spec (ws := wsY_rounds) B.pre
  have hown : s.vm.findClass RX1 = some m.cls := findClass_of_methodNamed B.named
  have hlocks := B.notSynchronized
  subst hsz
  have hD := hD0.self (sz := s.heap.size)
  generalize hAe : va_A (mw_Y k0 k_g cB_g (g, ak, il, mi, xe, bi, fa, cu)) s.heap.size = A at hD ⊢
  have hA : ∀ q : Nat, s.heap.size ≤ q → A q := fun q h => by rw [← hAe]; exact Or.inr h
  have hS : va_S A s.heap s.heap [] := va_S.rf
  have hP : va_P (dC, dI) vwCl [(k0, .inr (1, [.ref k_g, .int ak, .int il, .int mi, .int xe, .long bi, .int fa, .int cu])), (k_g, .inl (cB_g, 8, .inr (.inl g)))] s.heap := hP
  have hD : va_D A [(k0, .inr (1, [.ref k_g, .int ak, .int il, .int mi, .int xe, .long bi, .int fa, .int cu])), (k_g, .inl (cB_g, 8, .inr (.inl g)))] := hD
  generalize hT : mf_Y_rounds g ak il mi xe bi fa cu p1 p2 p3 p4 p5 = T
  have hF := hT.symm
  unfold mf_Y_rounds at hF
  have hl := lv_entry ([.ref k0, .int p1, .int p2, .long p3, .int p4, .int p5]) (n := 17) (Nat.le_of_ble_eq_true rfl)
  rw [lg_entry_eq]
  generalize (lg_sl ([.ref k0, .int p1, .int p2, .long p3, .int p4, .int p5]) ++ List.replicate (17 - (lg_sl ([.ref k0, .int p1, .int p2, .long p3, .int p4, .int p5])).length) Slot.unset).toArray = ls at hl ⊢
  have hl : lv_has ls 17 [(0, .ref k0), (1, .int p1), (2, .int p2), (3, .long p3), (5, .int p4), (6, .int p5)] := hl
  refine lv_aload_n hx hb dY_rounds_0 rfl (lv_at hl 0 rfl) ?_
  refine lv_iconst (v := (0 : Int32)) hx hb dY_rounds_1 (by decide) ?_
  refine va_put (D := (dC, dI)) (ci := 1) (v := .int (0 : Int32)) (ty := .int) (C := RX1) (T := TX1) (N := 8) hx hb hts (fun w9 h9 => List.mem_cons_of_mem _ (inY w9 h9)) tyX1 tyX1_ok nmX1 hown hK hP hD hS 0 rfl rfl 6 (by decide) (hts (.fieldLink RX1 48 "ExactFloatsModel" "fault" "I") (List.mem_cons_of_mem _ mY_44)) (fun _ h9 => h9) rfl (by decide +kernel) rfl rfl (Nat.le_of_ble_eq_true rfl) dY_rounds_2 (fun H9 locs9 hP hD hS => ?_)
  have hP : va_P (dC, dI) vwCl [(k0, .inr (1, [.ref k_g, .int ak, .int il, .int mi, .int xe, .long bi, .int (0 : Int32), .int cu])), (k_g, .inl (cB_g, 8, .inr (.inl g)))] _ := hP
  have hD : va_D A [(k0, .inr (1, [.ref k_g, .int ak, .int il, .int mi, .int xe, .long bi, .int (0 : Int32), .int cu])), (k_g, .inl (cB_g, 8, .inr (.inl g)))] := hD
  refine lv_aload_n hx hb dY_rounds_5 rfl (lv_at hl 0 rfl) ?_
  refine lv_iconst (v := (0 : Int32)) hx hb dY_rounds_6 (by decide) ?_
  refine va_put (D := (dC, dI)) (ci := 1) (v := .int (0 : Int32)) (ty := .boolean) (C := RX1) (T := TX1) (N := 8) hx hb hts (fun w9 h9 => List.mem_cons_of_mem _ (inY w9 h9)) tyX1 tyX1_ok nmX1 hown hK hP hD hS 0 rfl rfl 7 (by decide) (hts (.fieldLink RX1 51 "ExactFloatsModel" "cut" "Z") (List.mem_cons_of_mem _ mY_45)) (fun _ h9 => h9) rfl (by decide +kernel) rfl rfl (Nat.le_of_ble_eq_true rfl) dY_rounds_7 (fun H9 locs9 hP hD hS => ?_)
  have hP : va_P (dC, dI) vwCl [(k0, .inr (1, [.ref k_g, .int ak, .int il, .int mi, .int xe, .long bi, .int (0 : Int32), .int (0 : Int32)])), (k_g, .inl (cB_g, 8, .inr (.inl g)))] _ := hP
  have hD : va_D A [(k0, .inr (1, [.ref k_g, .int ak, .int il, .int mi, .int xe, .long bi, .int (0 : Int32), .int (0 : Int32)])), (k_g, .inl (cB_g, 8, .inr (.inl g)))] := hD
  refine lv_lload_n hx hb dY_rounds_10 rfl (lv_at hl 3 rfl) ?_
  refine lv_lconst (v := (0 : Int64)) hx hb dY_rounds_11 (by decide) ?_
  refine xj_l_ne (tgt := 18) hx hb dY_rounds_12 dY_rounds_13 (by decide) (fun c1 => ?_) (fun c1 => ?_)
  · replace hF := xj_f hF c1
    refine lv_iload_n hx hb dY_rounds_18 rfl (lv_at hl 1 rfl) ?_
    refine xj_si (As := [.int p1]) (rest := []) ⟨hx, hb, hml, hown, hts⟩ (mc_Y_many l p1) (va_cwS 1 hts (gY_many _) rfl rfl rfl (by decide +kernel) ⟨Nat.le_of_ble_eq_true rfl, Nat.le_of_ble_eq_true rfl⟩) hS hA rfl hl.1 rfl (Nat.le_of_ble_eq_true rfl) dY_rounds_19 ⟨Nat.zero_le _, Nat.zero_le _⟩ (fun H9 locs9 hk9 hS => ?_)
    have hP := xj_kept hP hk9
    refine lv_topi (fun y2 ey2 => ?_)
    replace hF := xj_bz hF ey2
    refine lv_istore (lv' := [(7, .int y2), (0, .ref k0), (1, .int p1), (2, .int p2), (3, .long p3), (5, .int p4), (6, .int p5)]) hx hb dY_rounds_22 hl (by decide) rfl (fun ls hl => ?_)
    refine lv_iconst (v := (0 : Int32)) hx hb dY_rounds_24 (by decide) ?_
    refine lv_istore (lv' := [(8, .int (0 : Int32)), (7, .int y2), (0, .ref k0), (1, .int p1), (2, .int p2), (3, .long p3), (5, .int p4), (6, .int p5)]) hx hb dY_rounds_25 hl (by decide) rfl (fun ls hl => ?_)
    obtain ⟨q4, eq4⟩ : ∃ z : Int32, z = (ml_Y_rounds_27 p3 64 (0 : Int32)) := ⟨_, rfl⟩
    replace hF := xj_bz hF eq4
    refine xj_join 49 (fun ls' st' => lv_has ls' 17 [(8, .int q4), (7, .int y2), (0, .ref k0), (1, .int p1), (2, .int p2), (3, .long p3), (5, .int p4), (6, .int p5)] ∧ st' = []) ?_ (fun K49 => ?_)
    · rintro ls st ⟨hl, rfl⟩
      refine lv_iload hx hb dY_rounds_49 (lv_at hl 0 rfl) ?_
      refine lv_iload hx hb dY_rounds_51 (lv_at hl 1 rfl) ?_
      refine lv_isub hx hb dY_rounds_53 ?_
      refine lv_topi (fun y8 ey8 => ?_)
      replace hF := xj_bz hF ey8
      refine lv_istore (lv' := [(9, .int y8), (8, .int q4), (7, .int y2), (0, .ref k0), (1, .int p1), (2, .int p2), (3, .long p3), (5, .int p4), (6, .int p5)]) hx hb dY_rounds_54 hl (by decide) rfl (fun ls hl => ?_)
      refine lv_iload hx hb dY_rounds_56 (lv_at hl 0 rfl) ?_
      obtain ⟨y10, ey10⟩ : ∃ z : Int64, z = (if y8 ≤ 0 then (xj_bnd (xj_shl p3 (-y8)) (fun y10 => y10)) else (xj_bnd ((xj_shr p3 y8) + ((xj_shr p3 (y8 - (1 : Int32))) &&& (1 : Int64))) (fun y11 => (xj_bnd (if p5 = 0 then (if (p3 &&& ((xj_shl (1 : Int64) y8) - (1 : Int64))) = (0 : Int64) then (0 : Int32) else (1 : Int32)) else (1 : Int32)) (fun y13 => y11))))) := ⟨_, rfl⟩
      replace hF := xj_bz hF ey10
      obtain ⟨y11, ey11⟩ : ∃ z : Int32, z = (if y8 ≤ 0 then (xj_bnd (xj_shl p3 (-y8)) (fun y10 => p5)) else (xj_bnd ((xj_shr p3 y8) + ((xj_shr p3 (y8 - (1 : Int32))) &&& (1 : Int64))) (fun y11 => (xj_bnd (if p5 = 0 then (if (p3 &&& ((xj_shl (1 : Int64) y8) - (1 : Int64))) = (0 : Int64) then (0 : Int32) else (1 : Int32)) else (1 : Int32)) (fun y13 => y13))))) := ⟨_, rfl⟩
      replace hF := xj_bz hF ey11
      refine xj_joinH 119 (fun H' locs' ls' st' => va_P (dC, dI) vwCl [(k0, .inr (1, [.ref k_g, .int ak, .int il, .int mi, .int xe, .long bi, .int (0 : Int32), .int y11])), (k_g, .inl (cB_g, 8, .inr (.inl g)))] H' ∧ va_D A [(k0, .inr (1, [.ref k_g, .int ak, .int il, .int mi, .int xe, .long bi, .int (0 : Int32), .int y11])), (k_g, .inl (cB_g, 8, .inr (.inl g)))] ∧ va_S A s.heap H' locs' ∧ lv_has ls' 17 [(10, .long y10), (9, .int y8), (8, .int q4), (7, .int y2), (0, .ref k0), (1, .int p1), (2, .int p2), (3, .long p3), (5, .int p4), (6, .int p5)] ∧ st' = []) ?_ (fun K119 => ?_)
      · rintro H9 locs9 ls st ⟨hP, hD, hS, hl, rfl⟩
        refine lv_lload hx hb dY_rounds_119 (lv_at hl 0 rfl) ?_
        refine lv_iload hx hb dY_rounds_121 (lv_at hl 3 rfl) ?_
        refine lv_lshr (v := (xj_shr y10 y2)) hx hb dY_rounds_123 rfl ?_
        refine lv_lconst (v := (0 : Int64)) hx hb dY_rounds_124 (by decide) ?_
        obtain ⟨y13, ey13⟩ : ∃ z : Int64, z = (if (xj_shr y10 y2) = (0 : Int64) then y10 else (xj_bnd (xj_shr y10 (1 : Int32)) (fun y13 => (xj_bnd (y8 + (1 : Int32)) (fun y14 => y13))))) := ⟨_, rfl⟩
        replace hF := xj_bz hF ey13
        obtain ⟨y14, ey14⟩ : ∃ z : Int32, z = (if (xj_shr y10 y2) = (0 : Int64) then y8 else (xj_bnd (xj_shr y10 (1 : Int32)) (fun y13 => (xj_bnd (y8 + (1 : Int32)) (fun y14 => y14))))) := ⟨_, rfl⟩
        replace hF := xj_bz hF ey14
        refine xj_join 138 (fun ls' st' => lv_has ls' 17 [(10, .long y13), (9, .int y14), (8, .int q4), (7, .int y2), (0, .ref k0), (1, .int p1), (2, .int p2), (3, .long p3), (5, .int p4), (6, .int p5)] ∧ st' = []) ?_ (fun K138 => ?_)
        · rintro ls st ⟨hl, rfl⟩
          refine lv_iload hx hb dY_rounds_138 (lv_at hl 8 rfl) ?_
          refine lv_iload hx hb dY_rounds_140 (lv_at hl 1 rfl) ?_
          refine lv_iadd hx hb dY_rounds_142 ?_
          refine lv_iload hx hb dY_rounds_143 (lv_at hl 3 rfl) ?_
          refine lv_iadd hx hb dY_rounds_145 ?_
          refine lv_sipush (v := (128 : Int32)) hx hb dY_rounds_146 (by decide) ?_
          refine lv_iadd hx hb dY_rounds_149 ?_
          refine lv_topi (fun y15 ey15 => ?_)
          replace hF := xj_bz hF ey15
          refine lv_istore (lv' := [(12, .int y15), (10, .long y13), (9, .int y14), (8, .int q4), (7, .int y2), (0, .ref k0), (1, .int p1), (2, .int p2), (3, .long p3), (5, .int p4), (6, .int p5)]) hx hb dY_rounds_150 hl (by decide) rfl (fun ls hl => ?_)
          refine lv_iload hx hb dY_rounds_152 (lv_at hl 0 rfl) ?_
          refine lv_sipush (v := (255 : Int32)) hx hb dY_rounds_154 (by decide) ?_
          refine lv_icmp_le (tgt := 168) hx hb dY_rounds_157 (by decide) (fun c16 => ?_) (fun c16 => ?_)
          · replace hF := xj_t hF c16
            refine lv_iload hx hb dY_rounds_168 (lv_at hl 0 rfl) ?_
            refine lv_iconst (v := (1 : Int32)) hx hb dY_rounds_170 (by decide) ?_
            refine lv_icmp_ge (tgt := 194) hx hb dY_rounds_171 (by decide) (fun c17 => ?_) (fun c17 => ?_)
            · replace hF := xj_t hF c17
              refine lv_iload_n hx hb dY_rounds_194 rfl (lv_at hl 6 rfl) ?_
              refine lv_bipush (v := (8 : Int32)) hx hb dY_rounds_195 (by decide) ?_
              obtain ⟨y19, ey19⟩ : ∃ z : Int64, z = (if p1 = (8 : Int32) then y13 else (xj_shl y13 (32 : Int32))) := ⟨_, rfl⟩
              replace hF := xj_bz hF ey19
              refine xj_join 210 (fun ls' st' => lv_has ls' 17 [(12, .int y15), (10, .long y13), (9, .int y14), (8, .int q4), (7, .int y2), (0, .ref k0), (1, .int p1), (2, .int p2), (3, .long p3), (5, .int p4), (6, .int p5)] ∧ st' = [.long y19]) ?_ (fun K210 => ?_)
              · rintro ls st ⟨hl, rfl⟩
                refine lv_ldc2 (own := RX1) (v := (36028797018963967 : Int64)) hx hb hown (hts (.constantLong RX1 58 (36028797018963967 : Int64)) (List.mem_cons_of_mem _ mY_48)) dY_rounds_210 ?_
                refine lv_land hx hb dY_rounds_213 ?_
                refine lv_topl (fun y20 ey20 => ?_)
                replace hF := xj_bz hF ey20
                refine lv_lstore (lv' := [(13, .long y20), (12, .int y15), (10, .long y13), (9, .int y14), (8, .int q4), (7, .int y2), (0, .ref k0), (1, .int p1), (2, .int p2), (3, .long p3), (5, .int p4), (6, .int p5)]) hx hb dY_rounds_214 hl (by decide) rfl (fun ls hl => ?_)
                refine lv_iload_n hx hb dY_rounds_216 rfl (lv_at hl 8 rfl) ?_
                obtain ⟨y22, ey22⟩ : ∃ z : Int64, z = (if p2 = 0 then (0 : Int64) else (32768 : Int64)) := ⟨_, rfl⟩
                replace hF := xj_bz hF ey22
                refine xj_join 227 (fun ls' st' => lv_has ls' 17 [(13, .long y20), (12, .int y15), (10, .long y13), (9, .int y14), (8, .int q4), (7, .int y2), (0, .ref k0), (1, .int p1), (2, .int p2), (3, .long p3), (5, .int p4), (6, .int p5)] ∧ st' = [.long y22]) ?_ (fun K227 => ?_)
                · rintro ls st ⟨hl, rfl⟩
                  refine lv_iload hx hb dY_rounds_227 (lv_at hl 1 rfl) ?_
                  refine lv_i2l (v := (Int32.toInt64 y15)) hx hb dY_rounds_229 rfl ?_
                  refine lv_bipush (v := (7 : Int32)) hx hb dY_rounds_230 (by decide) ?_
                  refine lv_lshl (v := (xj_shl (Int32.toInt64 y15) (7 : Int32))) hx hb dY_rounds_232 rfl ?_
                  refine lv_lor hx hb dY_rounds_233 ?_
                  refine lv_lload hx hb dY_rounds_234 (lv_at hl 0 rfl) ?_
                  refine lv_bipush (v := (48 : Int32)) hx hb dY_rounds_236 (by decide) ?_
                  refine lv_lshr (v := (xj_shr y20 (48 : Int32))) hx hb dY_rounds_238 rfl ?_
                  refine lv_lor hx hb dY_rounds_239 ?_
                  refine lv_lload hx hb dY_rounds_240 (lv_at hl 0 rfl) ?_
                  refine lv_bipush (v := (32 : Int32)) hx hb dY_rounds_242 (by decide) ?_
                  refine lv_lshr (v := (xj_shr y20 (32 : Int32))) hx hb dY_rounds_244 rfl ?_
                  refine lv_ldc2 (own := RX1) (v := (65535 : Int64)) hx hb hown (hts (.constantLong RX1 40 (65535 : Int64)) (List.mem_cons_of_mem _ mY_41)) dY_rounds_245 ?_
                  refine lv_land hx hb dY_rounds_248 ?_
                  refine lv_bipush (v := (16 : Int32)) hx hb dY_rounds_249 (by decide) ?_
                  refine lv_lshl (v := (xj_shl ((xj_shr y20 (32 : Int32)) &&& (65535 : Int64)) (16 : Int32))) hx hb dY_rounds_251 rfl ?_
                  refine lv_lor hx hb dY_rounds_252 ?_
                  refine lv_topl (fun y23 ey23 => ?_)
                  replace hF := xj_bz hF ey23
                  refine lv_lstore (lv' := [(15, .long y23), (13, .long y20), (12, .int y15), (10, .long y13), (9, .int y14), (8, .int q4), (7, .int y2), (0, .ref k0), (1, .int p1), (2, .int p2), (3, .long p3), (5, .int p4), (6, .int p5)]) hx hb dY_rounds_253 hl (by decide) rfl (fun ls hl => ?_)
                  refine lv_iload_n hx hb dY_rounds_255 rfl (lv_at hl 8 rfl) ?_
                  refine lv_bipush (v := (8 : Int32)) hx hb dY_rounds_256 (by decide) ?_
                  refine lv_icmp_ne (tgt := 289) hx hb dY_rounds_258 (by decide) (fun c24 => ?_) (fun c24 => ?_)
                  · replace hF := xj_f hF c24
                    refine lv_lload hx hb dY_rounds_289 (lv_at hl 0 rfl) ?_
                    exact W.lret (v := y23) hx hb hr (fun t ht hW => ⟨⟨_, (g, ak, il, mi, xe, bi, (0 : Int32), y11), rfl, hF.symm, by rw [ht]; exact hP, hD⟩, hS.F ht⟩) hS.2.2 dY_rounds_291
                  · replace hF := xj_t hF c24
                    refine lv_lload hx hb dY_rounds_261 (lv_at hl 0 rfl) ?_
                    refine lv_lload hx hb dY_rounds_263 (lv_at hl 1 rfl) ?_
                    refine lv_bipush (v := (16 : Int32)) hx hb dY_rounds_265 (by decide) ?_
                    refine lv_lshr (v := (xj_shr y20 (16 : Int32))) hx hb dY_rounds_267 rfl ?_
                    refine lv_ldc2 (own := RX1) (v := (65535 : Int64)) hx hb hown (hts (.constantLong RX1 40 (65535 : Int64)) (List.mem_cons_of_mem _ mY_41)) dY_rounds_268 ?_
                    refine lv_land hx hb dY_rounds_271 ?_
                    refine lv_bipush (v := (32 : Int32)) hx hb dY_rounds_272 (by decide) ?_
                    refine lv_lshl (v := (xj_shl ((xj_shr y20 (16 : Int32)) &&& (65535 : Int64)) (32 : Int32))) hx hb dY_rounds_274 rfl ?_
                    refine lv_lor hx hb dY_rounds_275 ?_
                    refine lv_lload hx hb dY_rounds_276 (lv_at hl 1 rfl) ?_
                    refine lv_ldc2 (own := RX1) (v := (65535 : Int64)) hx hb hown (hts (.constantLong RX1 40 (65535 : Int64)) (List.mem_cons_of_mem _ mY_41)) dY_rounds_278 ?_
                    refine lv_land hx hb dY_rounds_281 ?_
                    refine lv_bipush (v := (48 : Int32)) hx hb dY_rounds_282 (by decide) ?_
                    refine lv_lshl (v := (xj_shl (y20 &&& (65535 : Int64)) (48 : Int32))) hx hb dY_rounds_284 rfl ?_
                    refine lv_lor hx hb dY_rounds_285 ?_
                    refine lv_goto (tgt := 291) hx hb dY_rounds_286 (by decide) ?_
                    exact W.lret (v := ((y23 ||| (xj_shl ((xj_shr y20 (16 : Int32)) &&& (65535 : Int64)) (32 : Int32))) ||| (xj_shl (y20 &&& (65535 : Int64)) (48 : Int32)))) hx hb hr (fun t ht hW => ⟨⟨_, (g, ak, il, mi, xe, bi, (0 : Int32), y11), rfl, hF.symm, by rw [ht]; exact hP, hD⟩, hS.F ht⟩) hS.2.2 dY_rounds_291
                · refine lv_if_eq (tgt := 226) hx hb dY_rounds_217 (by decide) (fun c21 => ?_) (fun c21 => ?_)
                  · replace ey22 := xj_t ey22 c21
                    refine lv_lconst (v := (0 : Int64)) hx hb dY_rounds_226 (by decide) ?_
                    subst ey22
                    exact K227 _ _ ⟨lv_sub hl [0, 1, 2, 3, 4, 5, 6, 7, 8, 9, 10, 11] rfl, rfl⟩
                  · replace ey22 := xj_f ey22 c21
                    refine lv_ldc2 (own := RX1) (v := (32768 : Int64)) hx hb hown (hts (.constantLong RX1 21 (32768 : Int64)) (List.mem_cons_of_mem _ mY_33)) dY_rounds_220 ?_
                    refine lv_goto (tgt := 227) hx hb dY_rounds_223 (by decide) ?_
                    subst ey22
                    exact K227 _ _ ⟨lv_sub hl [0, 1, 2, 3, 4, 5, 6, 7, 8, 9, 10, 11] rfl, rfl⟩
              · refine lv_icmp_ne (tgt := 205) hx hb dY_rounds_197 (by decide) (fun c18 => ?_) (fun c18 => ?_)
                · replace ey19 := xj_f ey19 c18
                  refine lv_lload hx hb dY_rounds_205 (lv_at hl 1 rfl) ?_
                  refine lv_bipush (v := (32 : Int32)) hx hb dY_rounds_207 (by decide) ?_
                  refine lv_lshl (v := (xj_shl y13 (32 : Int32))) hx hb dY_rounds_209 rfl ?_
                  subst ey19
                  exact K210 _ _ ⟨lv_sub hl [0, 1, 2, 3, 4, 5, 6, 7, 8, 9, 10] rfl, rfl⟩
                · replace ey19 := xj_t ey19 c18
                  refine lv_lload hx hb dY_rounds_200 (lv_at hl 1 rfl) ?_
                  refine lv_goto (tgt := 210) hx hb dY_rounds_202 (by decide) ?_
                  subst ey19
                  exact K210 _ _ ⟨lv_sub hl [0, 1, 2, 3, 4, 5, 6, 7, 8, 9, 10] rfl, rfl⟩
            · replace hF := xj_f hF c17
              refine lv_aload_n hx hb dY_rounds_174 rfl (lv_at hl 5 rfl) ?_
              refine va_get (D := (dC, dI)) (ci := 1) (v := .int ak) (C := RX1) (T := TX1) (N := 8) hx hb hts (fun w9 h9 => List.mem_cons_of_mem _ (inY w9 h9)) hown hK hP 0 rfl rfl 1 (by decide) (hts (.fieldLink RX1 13 "ExactFloatsModel" "asked" "Z") (List.mem_cons_of_mem _ mY_30)) (fun _ h9 => h9) rfl dY_rounds_175 ?_
              obtain ⟨y26, ey26⟩ : ∃ z : Int32, z = (if ak = 0 then (0 : Int32) else (-3 : Int32)) := ⟨_, rfl⟩
              replace hF := xj_bz hF ey26
              refine xj_joinH 187 (fun H' locs' ls' st' => va_P (dC, dI) vwCl [(k0, .inr (1, [.ref k_g, .int ak, .int il, .int mi, .int xe, .long bi, .int y26, .int y11])), (k_g, .inl (cB_g, 8, .inr (.inl g)))] H' ∧ va_D A [(k0, .inr (1, [.ref k_g, .int ak, .int il, .int mi, .int xe, .long bi, .int y26, .int y11])), (k_g, .inl (cB_g, 8, .inr (.inl g)))] ∧ va_S A s.heap H' locs' ∧ lv_has ls' 17 [(12, .int y15), (10, .long y13), (9, .int y14), (8, .int q4), (7, .int y2), (0, .ref k0), (1, .int p1), (2, .int p2), (3, .long p3), (5, .int p4), (6, .int p5)] ∧ st' = []) ?_ (fun K187 => ?_)
              · rintro H9 locs9 ls st ⟨hP, hD, hS, hl, rfl⟩
                refine lv_aload_n hx hb dY_rounds_187 rfl (lv_at hl 5 rfl) ?_
                refine lv_iconst (v := (1 : Int32)) hx hb dY_rounds_188 (by decide) ?_
                refine va_put (D := (dC, dI)) (ci := 1) (v := .int (1 : Int32)) (ty := .boolean) (C := RX1) (T := TX1) (N := 8) hx hb hts (fun w9 h9 => List.mem_cons_of_mem _ (inY w9 h9)) tyX1 tyX1_ok nmX1 hown hK hP hD hS 0 rfl rfl 7 (by decide) (hts (.fieldLink RX1 51 "ExactFloatsModel" "cut" "Z") (List.mem_cons_of_mem _ mY_45)) (fun _ h9 => h9) rfl (by decide +kernel) rfl rfl (Nat.le_of_ble_eq_true rfl) dY_rounds_189 (fun H9 locs9 hP hD hS => ?_)
                have hP : va_P (dC, dI) vwCl [(k0, .inr (1, [.ref k_g, .int ak, .int il, .int mi, .int xe, .long bi, .int y26, .int (1 : Int32)])), (k_g, .inl (cB_g, 8, .inr (.inl g)))] _ := hP
                have hD : va_D A [(k0, .inr (1, [.ref k_g, .int ak, .int il, .int mi, .int xe, .long bi, .int y26, .int (1 : Int32)])), (k_g, .inl (cB_g, 8, .inr (.inl g)))] := hD
                refine lv_lconst (v := (0 : Int64)) hx hb dY_rounds_192 (by decide) ?_
                exact W.lret (v := (0 : Int64)) hx hb hr (fun t ht hW => ⟨⟨_, (g, ak, il, mi, xe, bi, y26, (1 : Int32)), rfl, hF.symm, by rw [ht]; exact hP, hD⟩, hS.F ht⟩) hS.2.2 dY_rounds_193
              · refine lv_if_eq (tgt := 187) hx hb dY_rounds_178 (by decide) (fun c25 => ?_) (fun c25 => ?_)
                · replace ey26 := xj_t ey26 c25
                  subst ey26
                  exact K187 _ _ _ _ ⟨hP, hD, hS, lv_sub hl [0, 1, 2, 3, 4, 5, 6, 7, 8, 9, 10] rfl, rfl⟩
                · replace ey26 := xj_f ey26 c25
                  refine lv_aload_n hx hb dY_rounds_181 rfl (lv_at hl 5 rfl) ?_
                  refine lv_bipush (v := (-3 : Int32)) hx hb dY_rounds_182 (by decide) ?_
                  refine va_put (D := (dC, dI)) (ci := 1) (v := .int (-3 : Int32)) (ty := .int) (C := RX1) (T := TX1) (N := 8) hx hb hts (fun w9 h9 => List.mem_cons_of_mem _ (inY w9 h9)) tyX1 tyX1_ok nmX1 hown hK hP hD hS 0 rfl rfl 6 (by decide) (hts (.fieldLink RX1 48 "ExactFloatsModel" "fault" "I") (List.mem_cons_of_mem _ mY_44)) (fun _ h9 => h9) rfl (by decide +kernel) rfl rfl (Nat.le_of_ble_eq_true rfl) dY_rounds_184 (fun H9 locs9 hP hD hS => ?_)
                  have hP : va_P (dC, dI) vwCl [(k0, .inr (1, [.ref k_g, .int ak, .int il, .int mi, .int xe, .long bi, .int (-3 : Int32), .int y11])), (k_g, .inl (cB_g, 8, .inr (.inl g)))] _ := hP
                  have hD : va_D A [(k0, .inr (1, [.ref k_g, .int ak, .int il, .int mi, .int xe, .long bi, .int (-3 : Int32), .int y11])), (k_g, .inl (cB_g, 8, .inr (.inl g)))] := hD
                  subst ey26
                  exact K187 _ _ _ _ ⟨hP, hD, hS, lv_sub hl [0, 1, 2, 3, 4, 5, 6, 7, 8, 9, 10] rfl, rfl⟩
          · replace hF := xj_f hF c16
            refine lv_aload_n hx hb dY_rounds_160 rfl (lv_at hl 5 rfl) ?_
            refine lv_bipush (v := (-2 : Int32)) hx hb dY_rounds_161 (by decide) ?_
            refine va_put (D := (dC, dI)) (ci := 1) (v := .int (-2 : Int32)) (ty := .int) (C := RX1) (T := TX1) (N := 8) hx hb hts (fun w9 h9 => List.mem_cons_of_mem _ (inY w9 h9)) tyX1 tyX1_ok nmX1 hown hK hP hD hS 0 rfl rfl 6 (by decide) (hts (.fieldLink RX1 48 "ExactFloatsModel" "fault" "I") (List.mem_cons_of_mem _ mY_44)) (fun _ h9 => h9) rfl (by decide +kernel) rfl rfl (Nat.le_of_ble_eq_true rfl) dY_rounds_163 (fun H9 locs9 hP hD hS => ?_)
            have hP : va_P (dC, dI) vwCl [(k0, .inr (1, [.ref k_g, .int ak, .int il, .int mi, .int xe, .long bi, .int (-2 : Int32), .int y11])), (k_g, .inl (cB_g, 8, .inr (.inl g)))] _ := hP
            have hD : va_D A [(k0, .inr (1, [.ref k_g, .int ak, .int il, .int mi, .int xe, .long bi, .int (-2 : Int32), .int y11])), (k_g, .inl (cB_g, 8, .inr (.inl g)))] := hD
            refine lv_lconst (v := (0 : Int64)) hx hb dY_rounds_166 (by decide) ?_
            exact W.lret (v := (0 : Int64)) hx hb hr (fun t ht hW => ⟨⟨_, (g, ak, il, mi, xe, bi, (-2 : Int32), y11), rfl, hF.symm, by rw [ht]; exact hP, hD⟩, hS.F ht⟩) hS.2.2 dY_rounds_167
        · refine xj_l_eq (tgt := 138) hx hb dY_rounds_125 dY_rounds_126 (by decide) (fun c12 => ?_) (fun c12 => ?_)
          · replace ey13 := xj_t ey13 c12
            replace ey14 := xj_t ey14 c12
            subst ey13
            subst ey14
            exact K138 _ _ ⟨lv_sub hl [0, 1, 2, 3, 4, 5, 6, 7, 8, 9] rfl, rfl⟩
          · replace ey13 := xj_f ey13 c12
            replace ey14 := xj_f ey14 c12
            refine lv_lload hx hb dY_rounds_129 (lv_at hl 0 rfl) ?_
            refine lv_iconst (v := (1 : Int32)) hx hb dY_rounds_131 (by decide) ?_
            refine lv_lshr (v := (xj_shr y10 (1 : Int32))) hx hb dY_rounds_132 rfl ?_
            refine lv_topl (fun y27 ey27 => ?_)
            replace ey13 := xj_bz ey13 ey27
            replace ey14 := xj_bz ey14 ey27
            refine lv_lstore (lv' := [(10, .long y27), (9, .int y8), (8, .int q4), (7, .int y2), (0, .ref k0), (1, .int p1), (2, .int p2), (3, .long p3), (5, .int p4), (6, .int p5)]) hx hb dY_rounds_133 hl (by decide) rfl (fun ls hl => ?_)
            obtain ⟨y28, ey28⟩ : ∃ z : Int32, z = (y8 + (1 : Int32)) := ⟨_, rfl⟩
            replace ey13 := xj_bz ey13 ey28
            replace ey14 := xj_bz ey14 ey28
            refine lv_iinc (v := y28) (lv' := [(9, .int y28), (10, .long y27), (8, .int q4), (7, .int y2), (0, .ref k0), (1, .int p1), (2, .int p2), (3, .long p3), (5, .int p4), (6, .int p5)]) hx hb dY_rounds_135 hl (k := 1) rfl (by rw [ey28]; rfl) (by decide) rfl (fun ls hl => ?_)
            subst ey13
            subst ey14
            exact K138 _ _ ⟨lv_sub hl [1, 0, 2, 3, 4, 5, 6, 7, 8, 9] rfl, rfl⟩
      · refine lv_if_le (tgt := 106) hx hb dY_rounds_58 (by decide) (fun c9 => ?_) (fun c9 => ?_)
        · replace ey10 := xj_t ey10 c9
          replace ey11 := xj_t ey11 c9
          refine lv_lload_n hx hb dY_rounds_106 rfl (lv_at hl 6 rfl) ?_
          refine lv_iload hx hb dY_rounds_107 (lv_at hl 0 rfl) ?_
          refine lv_ineg hx hb dY_rounds_109 ?_
          refine lv_lshl (v := (xj_shl p3 (-y8))) hx hb dY_rounds_110 rfl ?_
          refine lv_topl (fun y29 ey29 => ?_)
          replace ey10 := xj_bz ey10 ey29
          replace ey11 := xj_bz ey11 ey29
          refine lv_lstore (lv' := [(10, .long y29), (9, .int y8), (8, .int q4), (7, .int y2), (0, .ref k0), (1, .int p1), (2, .int p2), (3, .long p3), (5, .int p4), (6, .int p5)]) hx hb dY_rounds_111 hl (by decide) rfl (fun ls hl => ?_)
          refine lv_aload_n hx hb dY_rounds_113 rfl (lv_at hl 4 rfl) ?_
          refine lv_iload hx hb dY_rounds_114 (lv_at hl 9 rfl) ?_
          refine va_put (D := (dC, dI)) (ci := 1) (v := .int p5) (ty := .boolean) (C := RX1) (T := TX1) (N := 8) hx hb hts (fun w9 h9 => List.mem_cons_of_mem _ (inY w9 h9)) tyX1 tyX1_ok nmX1 hown hK hP hD hS 0 rfl rfl 7 (by decide) (hts (.fieldLink RX1 51 "ExactFloatsModel" "cut" "Z") (List.mem_cons_of_mem _ mY_45)) (fun _ h9 => h9) rfl (by decide +kernel) (xj_nb (hb5)) (xj_fb (hb5)) (Nat.le_of_ble_eq_true rfl) dY_rounds_116 (fun H9 locs9 hP hD hS => ?_)
          have hP : va_P (dC, dI) vwCl [(k0, .inr (1, [.ref k_g, .int ak, .int il, .int mi, .int xe, .long bi, .int (0 : Int32), .int p5])), (k_g, .inl (cB_g, 8, .inr (.inl g)))] _ := hP
          have hD : va_D A [(k0, .inr (1, [.ref k_g, .int ak, .int il, .int mi, .int xe, .long bi, .int (0 : Int32), .int p5])), (k_g, .inl (cB_g, 8, .inr (.inl g)))] := hD
          subst ey10
          subst ey11
          exact K119 _ _ _ _ ⟨hP, hD, hS, lv_sub hl [0, 1, 2, 3, 4, 5, 6, 7, 8, 9] rfl, rfl⟩
        · replace ey10 := xj_f ey10 c9
          replace ey11 := xj_f ey11 c9
          refine lv_lload_n hx hb dY_rounds_61 rfl (lv_at hl 6 rfl) ?_
          refine lv_iload hx hb dY_rounds_62 (lv_at hl 0 rfl) ?_
          refine lv_lshr (v := (xj_shr p3 y8)) hx hb dY_rounds_64 rfl ?_
          refine lv_lload_n hx hb dY_rounds_65 rfl (lv_at hl 6 rfl) ?_
          refine lv_iload hx hb dY_rounds_66 (lv_at hl 0 rfl) ?_
          refine lv_iconst (v := (1 : Int32)) hx hb dY_rounds_68 (by decide) ?_
          refine lv_isub hx hb dY_rounds_69 ?_
          refine lv_lshr (v := (xj_shr p3 (y8 - (1 : Int32)))) hx hb dY_rounds_70 rfl ?_
          refine lv_lconst (v := (1 : Int64)) hx hb dY_rounds_71 (by decide) ?_
          refine lv_land hx hb dY_rounds_72 ?_
          refine lv_ladd hx hb dY_rounds_73 ?_
          refine lv_topl (fun y30 ey30 => ?_)
          replace ey10 := xj_bz ey10 ey30
          replace ey11 := xj_bz ey11 ey30
          refine lv_lstore (lv' := [(10, .long y30), (9, .int y8), (8, .int q4), (7, .int y2), (0, .ref k0), (1, .int p1), (2, .int p2), (3, .long p3), (5, .int p4), (6, .int p5)]) hx hb dY_rounds_74 hl (by decide) rfl (fun ls hl => ?_)
          refine lv_aload_n hx hb dY_rounds_76 rfl (lv_at hl 4 rfl) ?_
          refine lv_iload hx hb dY_rounds_77 (lv_at hl 9 rfl) ?_
          obtain ⟨y32, ey32⟩ : ∃ z : Int32, z = (if p5 = 0 then (if (p3 &&& ((xj_shl (1 : Int64) y8) - (1 : Int64))) = (0 : Int64) then (0 : Int32) else (1 : Int32)) else (1 : Int32)) := ⟨_, rfl⟩
          replace ey10 := xj_bz ey10 ey32
          replace ey11 := xj_bz ey11 ey32
          refine xj_join 100 (fun ls' st' => lv_has ls' 17 [(10, .long y30), (9, .int y8), (8, .int q4), (7, .int y2), (0, .ref k0), (1, .int p1), (2, .int p2), (3, .long p3), (5, .int p4), (6, .int p5)] ∧ st' = [.int y32, .ref k0]) ?_ (fun K100 => ?_)
          · rintro ls st ⟨hl, rfl⟩
            refine va_put (D := (dC, dI)) (ci := 1) (v := .int y32) (ty := .boolean) (C := RX1) (T := TX1) (N := 8) hx hb hts (fun w9 h9 => List.mem_cons_of_mem _ (inY w9 h9)) tyX1 tyX1_ok nmX1 hown hK hP hD hS 0 rfl rfl 7 (by decide) (hts (.fieldLink RX1 51 "ExactFloatsModel" "cut" "Z") (List.mem_cons_of_mem _ mY_45)) (fun _ h9 => h9) rfl (by decide +kernel) (xj_nb (by rw [ey32]; (repeat' split) <;> simp)) (xj_fb (by rw [ey32]; (repeat' split) <;> simp)) (Nat.le_of_ble_eq_true rfl) dY_rounds_100 (fun H9 locs9 hP hD hS => ?_)
            have hP : va_P (dC, dI) vwCl [(k0, .inr (1, [.ref k_g, .int ak, .int il, .int mi, .int xe, .long bi, .int (0 : Int32), .int y32])), (k_g, .inl (cB_g, 8, .inr (.inl g)))] _ := hP
            have hD : va_D A [(k0, .inr (1, [.ref k_g, .int ak, .int il, .int mi, .int xe, .long bi, .int (0 : Int32), .int y32])), (k_g, .inl (cB_g, 8, .inr (.inl g)))] := hD
            refine lv_goto (tgt := 119) hx hb dY_rounds_103 (by decide) ?_
            subst ey10
            subst ey11
            exact K119 _ _ _ _ ⟨hP, hD, hS, lv_sub hl [0, 1, 2, 3, 4, 5, 6, 7, 8, 9] rfl, rfl⟩
          · refine lv_if_ne (tgt := 95) hx hb dY_rounds_79 (by decide) (fun c31 => ?_) (fun c31 => ?_)
            · replace ey32 := xj_f ey32 c31
              refine lv_iconst (v := (1 : Int32)) hx hb dY_rounds_95 (by decide) ?_
              refine lv_goto (tgt := 100) hx hb dY_rounds_96 (by decide) ?_
              subst ey32
              exact K100 _ _ ⟨lv_sub hl [0, 1, 2, 3, 4, 5, 6, 7, 8, 9] rfl, rfl⟩
            · replace ey32 := xj_t ey32 c31
              refine lv_lload_n hx hb dY_rounds_82 rfl (lv_at hl 7 rfl) ?_
              refine lv_lconst (v := (1 : Int64)) hx hb dY_rounds_83 (by decide) ?_
              refine lv_iload hx hb dY_rounds_84 (lv_at hl 1 rfl) ?_
              refine lv_lshl (v := (xj_shl (1 : Int64) y8)) hx hb dY_rounds_86 rfl ?_
              refine lv_lconst (v := (1 : Int64)) hx hb dY_rounds_87 (by decide) ?_
              refine lv_lsub hx hb dY_rounds_88 ?_
              refine lv_land hx hb dY_rounds_89 ?_
              refine lv_lconst (v := (0 : Int64)) hx hb dY_rounds_90 (by decide) ?_
              refine xj_l_eq (tgt := 99) hx hb dY_rounds_91 dY_rounds_92 (by decide) (fun c33 => ?_) (fun c33 => ?_)
              · replace ey32 := xj_t ey32 c33
                refine lv_iconst (v := (0 : Int32)) hx hb dY_rounds_99 (by decide) ?_
                subst ey32
                exact K100 _ _ ⟨lv_sub hl [0, 1, 2, 3, 4, 5, 6, 7, 8, 9] rfl, rfl⟩
              · replace ey32 := xj_f ey32 c33
                refine lv_iconst (v := (1 : Int32)) hx hb dY_rounds_95 (by decide) ?_
                refine lv_goto (tgt := 100) hx hb dY_rounds_96 (by decide) ?_
                subst ey32
                exact K100 _ _ ⟨lv_sub hl [0, 1, 2, 3, 4, 5, 6, 7, 8, 9] rfl, rfl⟩
    · refine xj_loop 27 (fun n ls' st' => ∃ (v3 : Int32), q4 = ml_Y_rounds_27 p3 n v3 ∧ (∃ kz : Nat, v3 = nI kz ∧ kz ≤ 63 ∧ kz + n = 64) ∧ lv_has ls' 17 [(8, .int v3), (7, .int y2), (0, .ref k0), (1, .int p1), (2, .int p2), (3, .long p3), (5, .int p4), (6, .int p5)] ∧ st' = []) 64 ⟨(0 : Int32), eq4, ⟨0, nI_0.symm, by omega, by omega⟩, lv_sub hl [0, 1, 2, 3, 4, 5, 6, 7] rfl, rfl⟩ ?_ ?_
      · rintro n ih ls st ⟨v3, hq, ⟨kz, hk0, hk1, hk2⟩, hl, rfl⟩
        have hq := hq.trans (ml_Y_rounds_27_s  p3 n v3)
        refine lv_iload hx hb dY_rounds_27 (lv_at hl 0 rfl) ?_
        refine lv_bipush (v := (63 : Int32)) hx hb dY_rounds_29 (by decide) ?_
        refine lv_icmp_ge (tgt := 49) hx hb dY_rounds_31 (by decide) (fun c5 => ?_) (fun c5 => ?_)
        · replace hq := xj_t hq c5
          subst hq
          exact K49 _ _ ⟨lv_sub hl [0, 1, 2, 3, 4, 5, 6, 7] rfl, rfl⟩
        · replace hq := xj_f hq c5
          refine lv_lload_n hx hb dY_rounds_34 rfl (lv_at hl 5 rfl) ?_
          refine lv_iload hx hb dY_rounds_35 (lv_at hl 0 rfl) ?_
          refine lv_lshr (v := (xj_shr p3 v3)) hx hb dY_rounds_37 rfl ?_
          refine lv_lconst (v := (0 : Int64)) hx hb dY_rounds_38 (by decide) ?_
          refine xj_l_eq (tgt := 49) hx hb dY_rounds_39 dY_rounds_40 (by decide) (fun c6 => ?_) (fun c6 => ?_)
          · replace hq := xj_t hq c6
            subst hq
            exact K49 _ _ ⟨lv_sub hl [0, 1, 2, 3, 4, 5, 6, 7] rfl, rfl⟩
          · replace hq := xj_f hq c6
            obtain ⟨y7, ey7⟩ : ∃ z : Int32, z = (v3 + (1 : Int32)) := ⟨_, rfl⟩
            replace hq := xj_bz hq ey7
            refine lv_iinc (v := y7) (lv' := [(8, .int y7), (7, .int y2), (0, .ref k0), (1, .int p1), (2, .int p2), (3, .long p3), (5, .int p4), (6, .int p5)]) hx hb dY_rounds_43 hl (k := 0) rfl (by rw [ey7]; rfl) (by decide) rfl (fun ls hl => ?_)
            refine lv_goto (tgt := 27) hx hb dY_rounds_46 (by decide) ?_
            exact ih _ _ ⟨y7, hq, ⟨kz + 1, by rw [ey7, hk0]; exact nI_1 kz, xj_ctr (B := 63) hk0 rfl (by decide) hk1 (by assumption), by omega⟩, lv_sub hl [0, 1, 2, 3, 4, 5, 6, 7] rfl, rfl⟩
      · rintro ls st ⟨v3, hq, ⟨kz, hk0, hk1, hk2⟩, hl, rfl⟩
        omega
  · replace hF := xj_t hF c1
    refine lv_lconst (v := (0 : Int64)) hx hb dY_rounds_16 (by decide) ?_
    exact W.lret (v := (0 : Int64)) hx hb hr (fun t ht hW => ⟨⟨_, (g, ak, il, mi, xe, bi, (0 : Int32), (0 : Int32)), rfl, hF.symm, by rw [ht]; exact hP, hD⟩, hS.F ht⟩) hS.2.2 dY_rounds_17
theorem ms_cut_rounds {g : Nat → Int64} {ak il mi xe : Int32} {bi : Int64} {fa cu p1 p2 : Int32} {p3 : Int64} {p4 p5 : Int32} (h : p5 = 0 ∨ p5 = 1) : (mf_Y_rounds g ak il mi xe bi fa cu p1 p2 p3 p4 p5).2.2.2.2.2.2.2.2 = 0 ∨ (mf_Y_rounds g ak il mi xe bi fa cu p1 p2 p3 p4 p5).2.2.2.2.2.2.2.2 = 1 := by
  unfold mf_Y_rounds xj_bnd
  dsimp only
  (repeat' split) <;> first | exact h | (simp; done)
end
section
def mf_Y_added (g : Nat → Int64) (ak : Int32) (il : Int32) (mi : Int32) (xe : Int32) (bi : Int64) (fa : Int32) (cu : Int32) (p1 : Int32) (p2 : Int64) (p3 : Int64) : Int64 × (Nat → Int64) × Int32 × Int32 × Int32 × Int32 × Int64 × Int32 × Int32 := (xj_bnd (mf_Y_isZero p2) (fun y1 => (if y1 = 0 then (xj_bnd (mf_Y_isZero p3) (fun y3 => (if y3 = 0 then (xj_bnd (mf_Y_many p1) (fun y5 => (xj_bnd (mf_Y_take g ak il mi xe bi (0 : Int32) (0 : Int32) p1 p2) (fun q6 => (xj_bnd (xj_shr q6.2.2.2.2.2.1 ((56 : Int32) - y5)) (fun y7 => (xj_bnd (mf_Y_take q6.1 q6.2.1 q6.2.2.1 q6.2.2.2.1 q6.2.2.2.2.1 q6.2.2.2.2.2.1 q6.2.2.2.2.2.2.1 q6.2.2.2.2.2.2.2 p1 p3) (fun q8 => (xj_bnd (xj_shr q8.2.2.2.2.2.1 ((56 : Int32) - y5)) (fun y9 => (xj_bnd (if q6.2.2.2.2.1 < q8.2.2.2.2.1 then (1 : Int32) else (if q8.2.2.2.2.1 = q6.2.2.2.2.1 then (if y9 ≤ y7 then (0 : Int32) else (1 : Int32)) else (0 : Int32))) (fun y11 => (xj_bnd (if y11 = 0 then y7 else y9) (fun y13 => (xj_bnd (xj_shl y13 (6 : Int32)) (fun y14 => (xj_bnd (if y11 = 0 then y9 else y7) (fun y16 => (xj_bnd (xj_shl y16 (6 : Int32)) (fun y17 => (xj_bnd (if y11 = 0 then (q6.2.2.2.2.1 - q8.2.2.2.2.1) else (q8.2.2.2.2.1 - q6.2.2.2.2.1)) (fun y19 => (xj_bnd (if y19 ≤ (62 : Int32) then (xj_shr y17 y19) else (0 : Int64)) (fun y21 => (xj_bnd (if (62 : Int32) < y19 then (1 : Int32) else (if (xj_shl y21 y19) = y17 then (0 : Int32) else (1 : Int32))) (fun y23 => (xj_bnd (if q6.2.2.2.1 = q8.2.2.2.1 then (y14 + y21) else (xj_bnd (if y23 = 0 then (0 : Int64) else (1 : Int64)) (fun y26 => ((y14 - y21) - y26)))) (fun y25 => (xj_bnd (if y11 = 0 then q6.2.2.2.1 else q8.2.2.2.1) (fun y27 => (xj_bnd (if y11 = 0 then q6.2.2.2.2.1 else q8.2.2.2.2.1) (fun y29 => (xj_bnd (mf_Y_rounds q8.1 q8.2.1 q8.2.2.1 q8.2.2.2.1 q8.2.2.2.2.1 q8.2.2.2.2.2.1 q8.2.2.2.2.2.2.1 q8.2.2.2.2.2.2.2 p1 y27 y25 (((y29 - (128 : Int32)) - y5) - (6 : Int32)) y23) (fun q30 => (q30.1, (q30.2.1, q30.2.2.1, q30.2.2.2.1, q30.2.2.2.2.1, q30.2.2.2.2.2.1, q30.2.2.2.2.2.2.1, q30.2.2.2.2.2.2.2.1, q30.2.2.2.2.2.2.2.2)))))))))))))))))))))))))))))))))))) else (p2, (g, ak, il, mi, xe, bi, (0 : Int32), (0 : Int32)))))) else (xj_bnd (mf_Y_isZero p3) (fun y36 => (if y36 = 0 then (p3, (g, ak, il, mi, xe, bi, (0 : Int32), (0 : Int32))) else ((0 : Int64), (g, ak, il, mi, xe, bi, (0 : Int32), (0 : Int32)))))))))
set_option maxHeartbeats 4000000 in
set_option maxRecDepth 100000 in
theorem mc_Y_added (l : Launch) (dC : Nat → ClassId) (dI : Nat → Nat → Nat) (k0 k_g : Nat) (cB_g : ClassId) (g : Nat → Int64) (ak : Int32) (il : Int32) (mi : Int32) (xe : Int32) (bi : Int64) (fa : Int32) (cu : Int32) (p1 : Int32) (p2 : Int64) (p3 : Int64) : xj_Ol l (dC, dI) vwCl [(cB_g, .long)] (mw_Y k0 k_g cB_g) yY_added wsY_added ({ frames := 2, cells := 0, slots := 0, locals := 56 }) [.ref k0, .int p1, .long p2, .long p3] (g, ak, il, mi, xe, bi, fa, cu) (mf_Y_added g ak il mi xe bi fa cu p1 p2 p3) := by
  intro sz
  refine Met.ofW (cc := cY_added) (maxL := 26) (ret := (some .long)) (by decide) rfl ?_
  intro p e s m args below meth c s₁ B hml hv
  obtain ⟨rfl, hsz, hP, hK, hD0⟩ := hv
  have hx := B.exec
  have hb := B.bytes
  have hr := B.returns
  have hts := atoms_spec (ws := wsY_added) B.pre
  have hown : s.vm.findClass RX1 = some m.cls := findClass_of_methodNamed B.named
  have hlocks := B.notSynchronized
  subst hsz
  have hD := hD0.self (sz := s.heap.size)
  generalize hAe : va_A (mw_Y k0 k_g cB_g (g, ak, il, mi, xe, bi, fa, cu)) s.heap.size = A at hD ⊢
  have hA : ∀ q : Nat, s.heap.size ≤ q → A q := fun q h => by rw [← hAe]; exact Or.inr h
  have hS : va_S A s.heap s.heap [] := va_S.rf
  have hP : va_P (dC, dI) vwCl [(k0, .inr (1, [.ref k_g, .int ak, .int il, .int mi, .int xe, .long bi, .int fa, .int cu])), (k_g, .inl (cB_g, 8, .inr (.inl g)))] s.heap := hP
  have hD : va_D A [(k0, .inr (1, [.ref k_g, .int ak, .int il, .int mi, .int xe, .long bi, .int fa, .int cu])), (k_g, .inl (cB_g, 8, .inr (.inl g)))] := hD
  generalize hT : mf_Y_added g ak il mi xe bi fa cu p1 p2 p3 = T
  have hF := hT.symm
  unfold mf_Y_added at hF
  have hl := lv_entry ([.ref k0, .int p1, .long p2, .long p3]) (n := 26) (Nat.le_of_ble_eq_true rfl)
  rw [lg_entry_eq]
  generalize (lg_sl ([.ref k0, .int p1, .long p2, .long p3]) ++ List.replicate (26 - (lg_sl ([.ref k0, .int p1, .long p2, .long p3])).length) Slot.unset).toArray = ls at hl ⊢
  have hl : lv_has ls 26 [(0, .ref k0), (1, .int p1), (2, .long p2), (4, .long p3)] := hl
  refine lv_aload_n hx hb dY_added_0 rfl (lv_at hl 0 rfl) ?_
  refine lv_iconst (v := (0 : Int32)) hx hb dY_added_1 (by decide) ?_
  refine va_put (D := (dC, dI)) (ci := 1) (v := .int (0 : Int32)) (ty := .int) (C := RX1) (T := TX1) (N := 8) hx hb hts (fun w9 h9 => List.mem_cons_of_mem _ (inY w9 h9)) tyX1 tyX1_ok nmX1 hown hK hP hD hS 0 rfl rfl 6 (by decide) (hts (.fieldLink RX1 48 "ExactFloatsModel" "fault" "I") (List.mem_cons_of_mem _ mY_44)) (fun _ h9 => h9) rfl (by decide +kernel) rfl rfl (Nat.le_of_ble_eq_true rfl) dY_added_2 (fun H9 locs9 hP hD hS => ?_)
  have hP : va_P (dC, dI) vwCl [(k0, .inr (1, [.ref k_g, .int ak, .int il, .int mi, .int xe, .long bi, .int (0 : Int32), .int cu])), (k_g, .inl (cB_g, 8, .inr (.inl g)))] _ := hP
  have hD : va_D A [(k0, .inr (1, [.ref k_g, .int ak, .int il, .int mi, .int xe, .long bi, .int (0 : Int32), .int cu])), (k_g, .inl (cB_g, 8, .inr (.inl g)))] := hD
  refine lv_aload_n hx hb dY_added_5 rfl (lv_at hl 0 rfl) ?_
  refine lv_iconst (v := (0 : Int32)) hx hb dY_added_6 (by decide) ?_
  refine va_put (D := (dC, dI)) (ci := 1) (v := .int (0 : Int32)) (ty := .boolean) (C := RX1) (T := TX1) (N := 8) hx hb hts (fun w9 h9 => List.mem_cons_of_mem _ (inY w9 h9)) tyX1 tyX1_ok nmX1 hown hK hP hD hS 0 rfl rfl 7 (by decide) (hts (.fieldLink RX1 51 "ExactFloatsModel" "cut" "Z") (List.mem_cons_of_mem _ mY_45)) (fun _ h9 => h9) rfl (by decide +kernel) rfl rfl (Nat.le_of_ble_eq_true rfl) dY_added_7 (fun H9 locs9 hP hD hS => ?_)
  have hP : va_P (dC, dI) vwCl [(k0, .inr (1, [.ref k_g, .int ak, .int il, .int mi, .int xe, .long bi, .int (0 : Int32), .int (0 : Int32)])), (k_g, .inl (cB_g, 8, .inr (.inl g)))] _ := hP
  have hD : va_D A [(k0, .inr (1, [.ref k_g, .int ak, .int il, .int mi, .int xe, .long bi, .int (0 : Int32), .int (0 : Int32)])), (k_g, .inl (cB_g, 8, .inr (.inl g)))] := hD
  refine lv_lload_n hx hb dY_added_10 rfl (lv_at hl 2 rfl) ?_
  refine xj_si (As := [.long p2]) (rest := []) ⟨hx, hb, hml, hown, hts⟩ (mc_Y_isZero l p2) (va_cwS 1 hts (gY_isZero _) rfl rfl rfl (by decide +kernel) ⟨Nat.le_of_ble_eq_true rfl, Nat.le_of_ble_eq_true rfl⟩) hS hA rfl hl.1 rfl (Nat.le_of_ble_eq_true rfl) dY_added_11 ⟨Nat.zero_le _, Nat.zero_le _⟩ (fun H9 locs9 hk9 hS => ?_)
  have hP := xj_kept hP hk9
  refine lv_topi (fun y1 ey1 => ?_)
  replace hF := xj_bz hF ey1
  refine lv_if_eq (tgt := 32) hx hb dY_added_14 (by decide) (fun c2 => ?_) (fun c2 => ?_)
  · replace hF := xj_t hF c2
    refine lv_lload hx hb dY_added_32 (lv_at hl 3 rfl) ?_
    refine xj_si (As := [.long p3]) (rest := []) ⟨hx, hb, hml, hown, hts⟩ (mc_Y_isZero l p3) (va_cwS 1 hts (gY_isZero _) rfl rfl rfl (by decide +kernel) ⟨Nat.le_of_ble_eq_true rfl, Nat.le_of_ble_eq_true rfl⟩) hS hA rfl hl.1 rfl (Nat.le_of_ble_eq_true rfl) dY_added_34 ⟨Nat.zero_le _, Nat.zero_le _⟩ (fun H9 locs9 hk9 hS => ?_)
    have hP := xj_kept hP hk9
    refine lv_topi (fun y3 ey3 => ?_)
    replace hF := xj_bz hF ey3
    refine lv_if_eq (tgt := 42) hx hb dY_added_37 (by decide) (fun c4 => ?_) (fun c4 => ?_)
    · replace hF := xj_t hF c4
      refine lv_iload_n hx hb dY_added_42 rfl (lv_at hl 1 rfl) ?_
      refine xj_si (As := [.int p1]) (rest := []) ⟨hx, hb, hml, hown, hts⟩ (mc_Y_many l p1) (va_cwS 1 hts (gY_many _) rfl rfl rfl (by decide +kernel) ⟨Nat.le_of_ble_eq_true rfl, Nat.le_of_ble_eq_true rfl⟩) hS hA rfl hl.1 rfl (Nat.le_of_ble_eq_true rfl) dY_added_43 ⟨Nat.zero_le _, Nat.zero_le _⟩ (fun H9 locs9 hk9 hS => ?_)
      have hP := xj_kept hP hk9
      refine lv_topi (fun y5 ey5 => ?_)
      replace hF := xj_bz hF ey5
      refine lv_istore (lv' := [(6, .int y5), (0, .ref k0), (1, .int p1), (2, .long p2), (4, .long p3)]) hx hb dY_added_46 hl (by decide) rfl (fun ls hl => ?_)
      refine lv_aload_n hx hb dY_added_48 rfl (lv_at hl 1 rfl) ?_
      refine lv_iload_n hx hb dY_added_49 rfl (lv_at hl 2 rfl) ?_
      refine lv_lload_n hx hb dY_added_50 rfl (lv_at hl 3 rfl) ?_
      obtain ⟨q6, eq6⟩ : ∃ z : (Nat → Int64) × Int32 × Int32 × Int32 × Int32 × Int64 × Int32 × Int32, z = (mf_Y_take g ak il mi xe bi (0 : Int32) (0 : Int32) p1 p2) := ⟨_, rfl⟩
      replace hF := xj_bz hF eq6
      refine xj_vv (r := q6) (As := [.int p1, .long p2]) (rest := []) (Wd := mw_Y k0 k_g cB_g) (wr := []) ⟨hx, hb, hml, hown, hts⟩ (by rw [eq6]; exact mc_Y_take l dC dI k0 k_g cB_g g ak il mi xe bi (0 : Int32) (0 : Int32) p1 p2) (cwV 2 hts (gY_take _) rfl rfl rfl (by decide +kernel) ⟨Nat.le_of_ble_eq_true rfl, Nat.le_of_ble_eq_true rfl⟩) hP hK hD hS hA [0, 1] [] [0] rfl (by decide) rfl (by decide) (by decide) rfl (va_recv hK hP (ci := 1) (q0 := 0) rfl rfl) rfl hl.1 rfl (Nat.le_of_ble_eq_true rfl) dY_added_51 ⟨Nat.zero_le _, Nat.zero_le _⟩ (fun H9 locs9 hP hD hS => ?_)
      have hP : va_P (dC, dI) vwCl [(k0, .inr (1, [.ref k_g, .int q6.2.1, .int q6.2.2.1, .int q6.2.2.2.1, .int q6.2.2.2.2.1, .long q6.2.2.2.2.2.1, .int q6.2.2.2.2.2.2.1, .int q6.2.2.2.2.2.2.2])), (k_g, .inl (cB_g, 8, .inr (.inl q6.1)))] _ := hP
      have hD : va_D A [(k0, .inr (1, [.ref k_g, .int q6.2.1, .int q6.2.2.1, .int q6.2.2.2.1, .int q6.2.2.2.2.1, .long q6.2.2.2.2.2.1, .int q6.2.2.2.2.2.2.1, .int q6.2.2.2.2.2.2.2])), (k_g, .inl (cB_g, 8, .inr (.inl q6.1)))] := hD
      refine lv_aload_n hx hb dY_added_54 rfl (lv_at hl 1 rfl) ?_
      refine va_get (D := (dC, dI)) (ci := 1) (v := .int q6.2.2.2.1) (C := RX1) (T := TX1) (N := 8) hx hb hts (fun w9 h9 => List.mem_cons_of_mem _ (inY w9 h9)) hown hK hP 0 rfl rfl 3 (by decide) (hts (.fieldLink RX1 29 "ExactFloatsModel" "minus" "Z") (List.mem_cons_of_mem _ mY_37)) (fun _ h9 => h9) rfl dY_added_55 ?_
      refine lv_istore (lv' := [(7, .int q6.2.2.2.1), (6, .int y5), (0, .ref k0), (1, .int p1), (2, .long p2), (4, .long p3)]) hx hb dY_added_58 hl (by decide) rfl (fun ls hl => ?_)
      refine lv_aload_n hx hb dY_added_60 rfl (lv_at hl 2 rfl) ?_
      refine va_get (D := (dC, dI)) (ci := 1) (v := .int q6.2.2.2.2.1) (C := RX1) (T := TX1) (N := 8) hx hb hts (fun w9 h9 => List.mem_cons_of_mem _ (inY w9 h9)) hown hK hP 0 rfl rfl 4 (by decide) (hts (.fieldLink RX1 34 "ExactFloatsModel" "exponent" "I") (List.mem_cons_of_mem _ mY_39)) (fun _ h9 => h9) rfl dY_added_61 ?_
      refine lv_istore (lv' := [(8, .int q6.2.2.2.2.1), (7, .int q6.2.2.2.1), (6, .int y5), (0, .ref k0), (1, .int p1), (2, .long p2), (4, .long p3)]) hx hb dY_added_64 hl (by decide) rfl (fun ls hl => ?_)
      refine lv_aload_n hx hb dY_added_66 rfl (lv_at hl 3 rfl) ?_
      refine va_get (D := (dC, dI)) (ci := 1) (v := .long q6.2.2.2.2.2.1) (C := RX1) (T := TX1) (N := 8) hx hb hts (fun w9 h9 => List.mem_cons_of_mem _ (inY w9 h9)) hown hK hP 0 rfl rfl 5 (by decide) (hts (.fieldLink RX1 44 "ExactFloatsModel" "bits" "J") (List.mem_cons_of_mem _ mY_43)) (fun _ h9 => h9) rfl dY_added_67 ?_
      refine lv_bipush (v := (56 : Int32)) hx hb dY_added_70 (by decide) ?_
      refine lv_iload hx hb dY_added_72 (lv_at hl 2 rfl) ?_
      refine lv_isub hx hb dY_added_74 ?_
      refine lv_lshr (v := (xj_shr q6.2.2.2.2.2.1 ((56 : Int32) - y5))) hx hb dY_added_75 rfl ?_
      refine lv_topl (fun y7 ey7 => ?_)
      replace hF := xj_bz hF ey7
      refine lv_lstore (lv' := [(9, .long y7), (8, .int q6.2.2.2.2.1), (7, .int q6.2.2.2.1), (6, .int y5), (0, .ref k0), (1, .int p1), (2, .long p2), (4, .long p3)]) hx hb dY_added_76 hl (by decide) rfl (fun ls hl => ?_)
      refine lv_aload_n hx hb dY_added_78 rfl (lv_at hl 4 rfl) ?_
      refine lv_iload_n hx hb dY_added_79 rfl (lv_at hl 5 rfl) ?_
      refine lv_lload hx hb dY_added_80 (lv_at hl 7 rfl) ?_
      obtain ⟨q8, eq8⟩ : ∃ z : (Nat → Int64) × Int32 × Int32 × Int32 × Int32 × Int64 × Int32 × Int32, z = (mf_Y_take q6.1 q6.2.1 q6.2.2.1 q6.2.2.2.1 q6.2.2.2.2.1 q6.2.2.2.2.2.1 q6.2.2.2.2.2.2.1 q6.2.2.2.2.2.2.2 p1 p3) := ⟨_, rfl⟩
      replace hF := xj_bz hF eq8
      refine xj_vv (r := q8) (As := [.int p1, .long p3]) (rest := []) (Wd := mw_Y k0 k_g cB_g) (wr := []) ⟨hx, hb, hml, hown, hts⟩ (by rw [eq8]; exact mc_Y_take l dC dI k0 k_g cB_g q6.1 q6.2.1 q6.2.2.1 q6.2.2.2.1 q6.2.2.2.2.1 q6.2.2.2.2.2.1 q6.2.2.2.2.2.2.1 q6.2.2.2.2.2.2.2 p1 p3) (cwV 2 hts (gY_take _) rfl rfl rfl (by decide +kernel) ⟨Nat.le_of_ble_eq_true rfl, Nat.le_of_ble_eq_true rfl⟩) hP hK hD hS hA [0, 1] [] [0] rfl (by decide) rfl (by decide) (by decide) rfl (va_recv hK hP (ci := 1) (q0 := 0) rfl rfl) rfl hl.1 rfl (Nat.le_of_ble_eq_true rfl) dY_added_82 ⟨Nat.zero_le _, Nat.zero_le _⟩ (fun H9 locs9 hP hD hS => ?_)
      have hP : va_P (dC, dI) vwCl [(k0, .inr (1, [.ref k_g, .int q8.2.1, .int q8.2.2.1, .int q8.2.2.2.1, .int q8.2.2.2.2.1, .long q8.2.2.2.2.2.1, .int q8.2.2.2.2.2.2.1, .int q8.2.2.2.2.2.2.2])), (k_g, .inl (cB_g, 8, .inr (.inl q8.1)))] _ := hP
      have hD : va_D A [(k0, .inr (1, [.ref k_g, .int q8.2.1, .int q8.2.2.1, .int q8.2.2.2.1, .int q8.2.2.2.2.1, .long q8.2.2.2.2.2.1, .int q8.2.2.2.2.2.2.1, .int q8.2.2.2.2.2.2.2])), (k_g, .inl (cB_g, 8, .inr (.inl q8.1)))] := hD
      refine lv_aload_n hx hb dY_added_85 rfl (lv_at hl 4 rfl) ?_
      refine va_get (D := (dC, dI)) (ci := 1) (v := .int q8.2.2.2.1) (C := RX1) (T := TX1) (N := 8) hx hb hts (fun w9 h9 => List.mem_cons_of_mem _ (inY w9 h9)) hown hK hP 0 rfl rfl 3 (by decide) (hts (.fieldLink RX1 29 "ExactFloatsModel" "minus" "Z") (List.mem_cons_of_mem _ mY_37)) (fun _ h9 => h9) rfl dY_added_86 ?_
      refine lv_istore (lv' := [(11, .int q8.2.2.2.1), (9, .long y7), (8, .int q6.2.2.2.2.1), (7, .int q6.2.2.2.1), (6, .int y5), (0, .ref k0), (1, .int p1), (2, .long p2), (4, .long p3)]) hx hb dY_added_89 hl (by decide) rfl (fun ls hl => ?_)
      refine lv_aload_n hx hb dY_added_91 rfl (lv_at hl 5 rfl) ?_
      refine va_get (D := (dC, dI)) (ci := 1) (v := .int q8.2.2.2.2.1) (C := RX1) (T := TX1) (N := 8) hx hb hts (fun w9 h9 => List.mem_cons_of_mem _ (inY w9 h9)) hown hK hP 0 rfl rfl 4 (by decide) (hts (.fieldLink RX1 34 "ExactFloatsModel" "exponent" "I") (List.mem_cons_of_mem _ mY_39)) (fun _ h9 => h9) rfl dY_added_92 ?_
      refine lv_istore (lv' := [(12, .int q8.2.2.2.2.1), (11, .int q8.2.2.2.1), (9, .long y7), (8, .int q6.2.2.2.2.1), (7, .int q6.2.2.2.1), (6, .int y5), (0, .ref k0), (1, .int p1), (2, .long p2), (4, .long p3)]) hx hb dY_added_95 hl (by decide) rfl (fun ls hl => ?_)
      refine lv_aload_n hx hb dY_added_97 rfl (lv_at hl 6 rfl) ?_
      refine va_get (D := (dC, dI)) (ci := 1) (v := .long q8.2.2.2.2.2.1) (C := RX1) (T := TX1) (N := 8) hx hb hts (fun w9 h9 => List.mem_cons_of_mem _ (inY w9 h9)) hown hK hP 0 rfl rfl 5 (by decide) (hts (.fieldLink RX1 44 "ExactFloatsModel" "bits" "J") (List.mem_cons_of_mem _ mY_43)) (fun _ h9 => h9) rfl dY_added_98 ?_
      refine lv_bipush (v := (56 : Int32)) hx hb dY_added_101 (by decide) ?_
      refine lv_iload hx hb dY_added_103 (lv_at hl 5 rfl) ?_
      refine lv_isub hx hb dY_added_105 ?_
      refine lv_lshr (v := (xj_shr q8.2.2.2.2.2.1 ((56 : Int32) - y5))) hx hb dY_added_106 rfl ?_
      refine lv_topl (fun y9 ey9 => ?_)
      replace hF := xj_bz hF ey9
      refine lv_lstore (lv' := [(13, .long y9), (12, .int q8.2.2.2.2.1), (11, .int q8.2.2.2.1), (9, .long y7), (8, .int q6.2.2.2.2.1), (7, .int q6.2.2.2.1), (6, .int y5), (0, .ref k0), (1, .int p1), (2, .long p2), (4, .long p3)]) hx hb dY_added_107 hl (by decide) rfl (fun ls hl => ?_)
      refine lv_iload hx hb dY_added_109 (lv_at hl 1 rfl) ?_
      refine lv_iload hx hb dY_added_111 (lv_at hl 4 rfl) ?_
      obtain ⟨y11, ey11⟩ : ∃ z : Int32, z = (if q6.2.2.2.2.1 < q8.2.2.2.2.1 then (1 : Int32) else (if q8.2.2.2.2.1 = q6.2.2.2.2.1 then (if y9 ≤ y7 then (0 : Int32) else (1 : Int32)) else (0 : Int32))) := ⟨_, rfl⟩
      replace hF := xj_bz hF ey11
      refine xj_join 136 (fun ls' st' => lv_has ls' 26 [(13, .long y9), (12, .int q8.2.2.2.2.1), (11, .int q8.2.2.2.1), (9, .long y7), (8, .int q6.2.2.2.2.1), (7, .int q6.2.2.2.1), (6, .int y5), (0, .ref k0), (1, .int p1), (2, .long p2), (4, .long p3)] ∧ st' = [.int y11]) ?_ (fun K136 => ?_)
      · rintro ls st ⟨hl, rfl⟩
        refine lv_istore (lv' := [(15, .int y11), (13, .long y9), (12, .int q8.2.2.2.2.1), (11, .int q8.2.2.2.1), (9, .long y7), (8, .int q6.2.2.2.2.1), (7, .int q6.2.2.2.1), (6, .int y5), (0, .ref k0), (1, .int p1), (2, .long p2), (4, .long p3)]) hx hb dY_added_136 hl (by decide) rfl (fun ls hl => ?_)
        refine lv_iload hx hb dY_added_138 (lv_at hl 0 rfl) ?_
        obtain ⟨y13, ey13⟩ : ∃ z : Int64, z = (if y11 = 0 then y7 else y9) := ⟨_, rfl⟩
        replace hF := xj_bz hF ey13
        refine xj_join 150 (fun ls' st' => lv_has ls' 26 [(15, .int y11), (13, .long y9), (12, .int q8.2.2.2.2.1), (11, .int q8.2.2.2.1), (9, .long y7), (8, .int q6.2.2.2.2.1), (7, .int q6.2.2.2.1), (6, .int y5), (0, .ref k0), (1, .int p1), (2, .long p2), (4, .long p3)] ∧ st' = [.long y13]) ?_ (fun K150 => ?_)
        · rintro ls st ⟨hl, rfl⟩
          refine lv_bipush (v := (6 : Int32)) hx hb dY_added_150 (by decide) ?_
          refine lv_lshl (v := (xj_shl y13 (6 : Int32))) hx hb dY_added_152 rfl ?_
          refine lv_topl (fun y14 ey14 => ?_)
          replace hF := xj_bz hF ey14
          refine lv_lstore (lv' := [(16, .long y14), (15, .int y11), (13, .long y9), (12, .int q8.2.2.2.2.1), (11, .int q8.2.2.2.1), (9, .long y7), (8, .int q6.2.2.2.2.1), (7, .int q6.2.2.2.1), (6, .int y5), (0, .ref k0), (1, .int p1), (2, .long p2), (4, .long p3)]) hx hb dY_added_153 hl (by decide) rfl (fun ls hl => ?_)
          refine lv_iload hx hb dY_added_155 (lv_at hl 1 rfl) ?_
          obtain ⟨y16, ey16⟩ : ∃ z : Int64, z = (if y11 = 0 then y9 else y7) := ⟨_, rfl⟩
          replace hF := xj_bz hF ey16
          refine xj_join 167 (fun ls' st' => lv_has ls' 26 [(16, .long y14), (15, .int y11), (13, .long y9), (12, .int q8.2.2.2.2.1), (11, .int q8.2.2.2.1), (9, .long y7), (8, .int q6.2.2.2.2.1), (7, .int q6.2.2.2.1), (6, .int y5), (0, .ref k0), (1, .int p1), (2, .long p2), (4, .long p3)] ∧ st' = [.long y16]) ?_ (fun K167 => ?_)
          · rintro ls st ⟨hl, rfl⟩
            refine lv_bipush (v := (6 : Int32)) hx hb dY_added_167 (by decide) ?_
            refine lv_lshl (v := (xj_shl y16 (6 : Int32))) hx hb dY_added_169 rfl ?_
            refine lv_topl (fun y17 ey17 => ?_)
            replace hF := xj_bz hF ey17
            refine lv_lstore (lv' := [(18, .long y17), (16, .long y14), (15, .int y11), (13, .long y9), (12, .int q8.2.2.2.2.1), (11, .int q8.2.2.2.1), (9, .long y7), (8, .int q6.2.2.2.2.1), (7, .int q6.2.2.2.1), (6, .int y5), (0, .ref k0), (1, .int p1), (2, .long p2), (4, .long p3)]) hx hb dY_added_170 hl (by decide) rfl (fun ls hl => ?_)
            refine lv_iload hx hb dY_added_172 (lv_at hl 2 rfl) ?_
            obtain ⟨y19, ey19⟩ : ∃ z : Int32, z = (if y11 = 0 then (q6.2.2.2.2.1 - q8.2.2.2.2.1) else (q8.2.2.2.2.1 - q6.2.2.2.2.1)) := ⟨_, rfl⟩
            replace hF := xj_bz hF ey19
            refine xj_join 190 (fun ls' st' => lv_has ls' 26 [(18, .long y17), (16, .long y14), (15, .int y11), (13, .long y9), (12, .int q8.2.2.2.2.1), (11, .int q8.2.2.2.1), (9, .long y7), (8, .int q6.2.2.2.2.1), (7, .int q6.2.2.2.1), (6, .int y5), (0, .ref k0), (1, .int p1), (2, .long p2), (4, .long p3)] ∧ st' = [.int y19]) ?_ (fun K190 => ?_)
            · rintro ls st ⟨hl, rfl⟩
              refine lv_istore (lv' := [(20, .int y19), (18, .long y17), (16, .long y14), (15, .int y11), (13, .long y9), (12, .int q8.2.2.2.2.1), (11, .int q8.2.2.2.1), (9, .long y7), (8, .int q6.2.2.2.2.1), (7, .int q6.2.2.2.1), (6, .int y5), (0, .ref k0), (1, .int p1), (2, .long p2), (4, .long p3)]) hx hb dY_added_190 hl (by decide) rfl (fun ls hl => ?_)
              refine lv_iload hx hb dY_added_192 (lv_at hl 0 rfl) ?_
              refine lv_bipush (v := (62 : Int32)) hx hb dY_added_194 (by decide) ?_
              obtain ⟨y21, ey21⟩ : ∃ z : Int64, z = (if y19 ≤ (62 : Int32) then (xj_shr y17 y19) else (0 : Int64)) := ⟨_, rfl⟩
              replace hF := xj_bz hF ey21
              refine xj_join 208 (fun ls' st' => lv_has ls' 26 [(20, .int y19), (18, .long y17), (16, .long y14), (15, .int y11), (13, .long y9), (12, .int q8.2.2.2.2.1), (11, .int q8.2.2.2.1), (9, .long y7), (8, .int q6.2.2.2.2.1), (7, .int q6.2.2.2.1), (6, .int y5), (0, .ref k0), (1, .int p1), (2, .long p2), (4, .long p3)] ∧ st' = [.long y21]) ?_ (fun K208 => ?_)
              · rintro ls st ⟨hl, rfl⟩
                refine lv_lstore (lv' := [(21, .long y21), (20, .int y19), (18, .long y17), (16, .long y14), (15, .int y11), (13, .long y9), (12, .int q8.2.2.2.2.1), (11, .int q8.2.2.2.1), (9, .long y7), (8, .int q6.2.2.2.2.1), (7, .int q6.2.2.2.1), (6, .int y5), (0, .ref k0), (1, .int p1), (2, .long p2), (4, .long p3)]) hx hb dY_added_208 hl (by decide) rfl (fun ls hl => ?_)
                refine lv_iload hx hb dY_added_210 (lv_at hl 1 rfl) ?_
                refine lv_bipush (v := (62 : Int32)) hx hb dY_added_212 (by decide) ?_
                obtain ⟨y23, ey23⟩ : ∃ z : Int32, z = (if (62 : Int32) < y19 then (1 : Int32) else (if (xj_shl y21 y19) = y17 then (0 : Int32) else (1 : Int32))) := ⟨_, rfl⟩
                replace hF := xj_bz hF ey23
                refine xj_join 233 (fun ls' st' => lv_has ls' 26 [(21, .long y21), (20, .int y19), (18, .long y17), (16, .long y14), (15, .int y11), (13, .long y9), (12, .int q8.2.2.2.2.1), (11, .int q8.2.2.2.1), (9, .long y7), (8, .int q6.2.2.2.2.1), (7, .int q6.2.2.2.1), (6, .int y5), (0, .ref k0), (1, .int p1), (2, .long p2), (4, .long p3)] ∧ st' = [.int y23]) ?_ (fun K233 => ?_)
                · rintro ls st ⟨hl, rfl⟩
                  refine lv_istore (lv' := [(23, .int y23), (21, .long y21), (20, .int y19), (18, .long y17), (16, .long y14), (15, .int y11), (13, .long y9), (12, .int q8.2.2.2.2.1), (11, .int q8.2.2.2.1), (9, .long y7), (8, .int q6.2.2.2.2.1), (7, .int q6.2.2.2.1), (6, .int y5), (0, .ref k0), (1, .int p1), (2, .long p2), (4, .long p3)]) hx hb dY_added_233 hl (by decide) rfl (fun ls hl => ?_)
                  refine lv_iload hx hb dY_added_235 (lv_at hl 11 rfl) ?_
                  refine lv_iload hx hb dY_added_237 (lv_at hl 8 rfl) ?_
                  obtain ⟨y25, ey25⟩ : ∃ z : Int64, z = (if q6.2.2.2.1 = q8.2.2.2.1 then (y14 + y21) else (xj_bnd (if y23 = 0 then (0 : Int64) else (1 : Int64)) (fun y26 => ((y14 - y21) - y26)))) := ⟨_, rfl⟩
                  replace hF := xj_bz hF ey25
                  refine xj_join 266 (fun ls' st' => lv_has ls' 26 [(23, .int y23), (21, .long y21), (20, .int y19), (18, .long y17), (16, .long y14), (15, .int y11), (13, .long y9), (12, .int q8.2.2.2.2.1), (11, .int q8.2.2.2.1), (9, .long y7), (8, .int q6.2.2.2.2.1), (7, .int q6.2.2.2.1), (6, .int y5), (0, .ref k0), (1, .int p1), (2, .long p2), (4, .long p3)] ∧ st' = [.long y25]) ?_ (fun K266 => ?_)
                  · rintro ls st ⟨hl, rfl⟩
                    refine lv_lstore (lv' := [(24, .long y25), (23, .int y23), (21, .long y21), (20, .int y19), (18, .long y17), (16, .long y14), (15, .int y11), (13, .long y9), (12, .int q8.2.2.2.2.1), (11, .int q8.2.2.2.1), (9, .long y7), (8, .int q6.2.2.2.2.1), (7, .int q6.2.2.2.1), (6, .int y5), (0, .ref k0), (1, .int p1), (2, .long p2), (4, .long p3)]) hx hb dY_added_266 hl (by decide) rfl (fun ls hl => ?_)
                    refine lv_aload_n hx hb dY_added_268 rfl (lv_at hl 14 rfl) ?_
                    refine lv_iload_n hx hb dY_added_269 rfl (lv_at hl 15 rfl) ?_
                    refine lv_iload hx hb dY_added_270 (lv_at hl 6 rfl) ?_
                    obtain ⟨y27, ey27⟩ : ∃ z : Int32, z = (if y11 = 0 then q6.2.2.2.1 else q8.2.2.2.1) := ⟨_, rfl⟩
                    replace hF := xj_bz hF ey27
                    refine xj_join 282 (fun ls' st' => lv_has ls' 26 [(24, .long y25), (23, .int y23), (21, .long y21), (20, .int y19), (18, .long y17), (16, .long y14), (15, .int y11), (13, .long y9), (12, .int q8.2.2.2.2.1), (11, .int q8.2.2.2.1), (9, .long y7), (8, .int q6.2.2.2.2.1), (7, .int q6.2.2.2.1), (6, .int y5), (0, .ref k0), (1, .int p1), (2, .long p2), (4, .long p3)] ∧ st' = [.int y27, .int p1, .ref k0]) ?_ (fun K282 => ?_)
                    · rintro ls st ⟨hl, rfl⟩
                      refine lv_lload hx hb dY_added_282 (lv_at hl 0 rfl) ?_
                      refine lv_iload hx hb dY_added_284 (lv_at hl 6 rfl) ?_
                      obtain ⟨y29, ey29⟩ : ∃ z : Int32, z = (if y11 = 0 then q6.2.2.2.2.1 else q8.2.2.2.2.1) := ⟨_, rfl⟩
                      replace hF := xj_bz hF ey29
                      refine xj_join 296 (fun ls' st' => lv_has ls' 26 [(24, .long y25), (23, .int y23), (21, .long y21), (20, .int y19), (18, .long y17), (16, .long y14), (15, .int y11), (13, .long y9), (12, .int q8.2.2.2.2.1), (11, .int q8.2.2.2.1), (9, .long y7), (8, .int q6.2.2.2.2.1), (7, .int q6.2.2.2.1), (6, .int y5), (0, .ref k0), (1, .int p1), (2, .long p2), (4, .long p3)] ∧ st' = [.int y29, .long y25, .int y27, .int p1, .ref k0]) ?_ (fun K296 => ?_)
                      · rintro ls st ⟨hl, rfl⟩
                        refine lv_sipush (v := (128 : Int32)) hx hb dY_added_296 (by decide) ?_
                        refine lv_isub hx hb dY_added_299 ?_
                        refine lv_iload hx hb dY_added_300 (lv_at hl 13 rfl) ?_
                        refine lv_isub hx hb dY_added_302 ?_
                        refine lv_bipush (v := (6 : Int32)) hx hb dY_added_303 (by decide) ?_
                        refine lv_isub hx hb dY_added_305 ?_
                        refine lv_iload hx hb dY_added_306 (lv_at hl 1 rfl) ?_
                        obtain ⟨q30, eq30⟩ : ∃ z : Int64 × (Nat → Int64) × Int32 × Int32 × Int32 × Int32 × Int64 × Int32 × Int32, z = (mf_Y_rounds q8.1 q8.2.1 q8.2.2.1 q8.2.2.2.1 q8.2.2.2.2.1 q8.2.2.2.2.2.1 q8.2.2.2.2.2.2.1 q8.2.2.2.2.2.2.2 p1 y27 y25 (((y29 - (128 : Int32)) - y5) - (6 : Int32)) y23) := ⟨_, rfl⟩
                        replace hF := xj_bz hF eq30
                        refine xj_vl (r := q30) (As := [.int p1, .int y27, .long y25, .int (((y29 - (128 : Int32)) - y5) - (6 : Int32)), .int y23]) (rest := []) (Wd := mw_Y k0 k_g cB_g) (wr := []) ⟨hx, hb, hml, hown, hts⟩ (by rw [eq30]; exact mc_Y_rounds l dC dI k0 k_g cB_g q8.1 q8.2.1 q8.2.2.1 q8.2.2.2.1 q8.2.2.2.2.1 q8.2.2.2.2.2.1 q8.2.2.2.2.2.2.1 q8.2.2.2.2.2.2.2 p1 y27 y25 (((y29 - (128 : Int32)) - y5) - (6 : Int32)) y23 (by rw [ey23]; (repeat' split) <;> simp)) (cwV 5 hts (gY_rounds _) rfl rfl rfl (by decide +kernel) ⟨Nat.le_of_ble_eq_true rfl, Nat.le_of_ble_eq_true rfl⟩) hP hK hD hS hA [0, 1] [] [0] rfl (by decide) rfl (by decide) (by decide) rfl (va_recv hK hP (ci := 1) (q0 := 0) rfl rfl) rfl hl.1 rfl (Nat.le_of_ble_eq_true rfl) dY_added_308 ⟨Nat.zero_le _, Nat.zero_le _⟩ (fun H9 locs9 hP hD hS => ?_)
                        have hP : va_P (dC, dI) vwCl [(k0, .inr (1, [.ref k_g, .int q30.2.2.1, .int q30.2.2.2.1, .int q30.2.2.2.2.1, .int q30.2.2.2.2.2.1, .long q30.2.2.2.2.2.2.1, .int q30.2.2.2.2.2.2.2.1, .int q30.2.2.2.2.2.2.2.2])), (k_g, .inl (cB_g, 8, .inr (.inl q30.2.1)))] _ := hP
                        have hD : va_D A [(k0, .inr (1, [.ref k_g, .int q30.2.2.1, .int q30.2.2.2.1, .int q30.2.2.2.2.1, .int q30.2.2.2.2.2.1, .long q30.2.2.2.2.2.2.1, .int q30.2.2.2.2.2.2.2.1, .int q30.2.2.2.2.2.2.2.2])), (k_g, .inl (cB_g, 8, .inr (.inl q30.2.1)))] := hD
                        exact W.lret (v := q30.1) hx hb hr (fun t ht hW => ⟨⟨_, (q30.2.1, q30.2.2.1, q30.2.2.2.1, q30.2.2.2.2.1, q30.2.2.2.2.2.1, q30.2.2.2.2.2.2.1, q30.2.2.2.2.2.2.2.1, q30.2.2.2.2.2.2.2.2), rfl, hF.symm, by rw [ht]; exact hP, hD⟩, hS.F ht⟩) hS.2.2 dY_added_311
                      · refine lv_if_eq (tgt := 294) hx hb dY_added_286 (by decide) (fun c28 => ?_) (fun c28 => ?_)
                        · replace ey29 := xj_t ey29 c28
                          refine lv_iload hx hb dY_added_294 (lv_at hl 11 rfl) ?_
                          subst ey29
                          exact K296 _ _ ⟨lv_sub hl [0, 1, 2, 3, 4, 5, 6, 7, 8, 9, 10, 11, 12, 13, 14, 15, 16, 17] rfl, rfl⟩
                        · replace ey29 := xj_f ey29 c28
                          refine lv_iload hx hb dY_added_289 (lv_at hl 8 rfl) ?_
                          refine lv_goto (tgt := 296) hx hb dY_added_291 (by decide) ?_
                          subst ey29
                          exact K296 _ _ ⟨lv_sub hl [0, 1, 2, 3, 4, 5, 6, 7, 8, 9, 10, 11, 12, 13, 14, 15, 16, 17] rfl, rfl⟩
                    · refine lv_if_eq (tgt := 280) hx hb dY_added_272 (by decide) (fun c26 => ?_) (fun c26 => ?_)
                      · replace ey27 := xj_t ey27 c26
                        refine lv_iload hx hb dY_added_280 (lv_at hl 12 rfl) ?_
                        subst ey27
                        exact K282 _ _ ⟨lv_sub hl [0, 1, 2, 3, 4, 5, 6, 7, 8, 9, 10, 11, 12, 13, 14, 15, 16, 17] rfl, rfl⟩
                      · replace ey27 := xj_f ey27 c26
                        refine lv_iload hx hb dY_added_275 (lv_at hl 9 rfl) ?_
                        refine lv_goto (tgt := 282) hx hb dY_added_277 (by decide) ?_
                        subst ey27
                        exact K282 _ _ ⟨lv_sub hl [0, 1, 2, 3, 4, 5, 6, 7, 8, 9, 10, 11, 12, 13, 14, 15, 16, 17] rfl, rfl⟩
                  · refine lv_icmp_ne (tgt := 250) hx hb dY_added_239 (by decide) (fun c24 => ?_) (fun c24 => ?_)
                    · replace ey25 := xj_f ey25 c24
                      refine lv_lload hx hb dY_added_250 (lv_at hl 4 rfl) ?_
                      refine lv_lload hx hb dY_added_252 (lv_at hl 1 rfl) ?_
                      refine lv_lsub hx hb dY_added_254 ?_
                      refine lv_iload hx hb dY_added_255 (lv_at hl 0 rfl) ?_
                      obtain ⟨y32, ey32⟩ : ∃ z : Int64, z = (if y23 = 0 then (0 : Int64) else (1 : Int64)) := ⟨_, rfl⟩
                      replace ey25 := xj_bz ey25 ey32
                      refine xj_join 265 (fun ls' st' => lv_has ls' 26 [(23, .int y23), (21, .long y21), (20, .int y19), (18, .long y17), (16, .long y14), (15, .int y11), (13, .long y9), (12, .int q8.2.2.2.2.1), (11, .int q8.2.2.2.1), (9, .long y7), (8, .int q6.2.2.2.2.1), (7, .int q6.2.2.2.1), (6, .int y5), (0, .ref k0), (1, .int p1), (2, .long p2), (4, .long p3)] ∧ st' = [.long y32, .long (y14 - y21)]) ?_ (fun K265 => ?_)
                      · rintro ls st ⟨hl, rfl⟩
                        refine lv_lsub hx hb dY_added_265 ?_
                        subst ey25
                        exact K266 _ _ ⟨lv_sub hl [0, 1, 2, 3, 4, 5, 6, 7, 8, 9, 10, 11, 12, 13, 14, 15, 16] rfl, rfl⟩
                      · refine lv_if_eq (tgt := 264) hx hb dY_added_257 (by decide) (fun c31 => ?_) (fun c31 => ?_)
                        · replace ey32 := xj_t ey32 c31
                          refine lv_lconst (v := (0 : Int64)) hx hb dY_added_264 (by decide) ?_
                          subst ey32
                          exact K265 _ _ ⟨lv_sub hl [0, 1, 2, 3, 4, 5, 6, 7, 8, 9, 10, 11, 12, 13, 14, 15, 16] rfl, rfl⟩
                        · replace ey32 := xj_f ey32 c31
                          refine lv_lconst (v := (1 : Int64)) hx hb dY_added_260 (by decide) ?_
                          refine lv_goto (tgt := 265) hx hb dY_added_261 (by decide) ?_
                          subst ey32
                          exact K265 _ _ ⟨lv_sub hl [0, 1, 2, 3, 4, 5, 6, 7, 8, 9, 10, 11, 12, 13, 14, 15, 16] rfl, rfl⟩
                    · replace ey25 := xj_t ey25 c24
                      refine lv_lload hx hb dY_added_242 (lv_at hl 4 rfl) ?_
                      refine lv_lload hx hb dY_added_244 (lv_at hl 1 rfl) ?_
                      refine lv_ladd hx hb dY_added_246 ?_
                      refine lv_goto (tgt := 266) hx hb dY_added_247 (by decide) ?_
                      subst ey25
                      exact K266 _ _ ⟨lv_sub hl [0, 1, 2, 3, 4, 5, 6, 7, 8, 9, 10, 11, 12, 13, 14, 15, 16] rfl, rfl⟩
                · refine lv_icmp_gt (tgt := 228) hx hb dY_added_214 (by decide) (fun c22 => ?_) (fun c22 => ?_)
                  · replace ey23 := xj_t ey23 c22
                    refine lv_iconst (v := (1 : Int32)) hx hb dY_added_228 (by decide) ?_
                    refine lv_goto (tgt := 233) hx hb dY_added_229 (by decide) ?_
                    subst ey23
                    exact K233 _ _ ⟨lv_sub hl [0, 1, 2, 3, 4, 5, 6, 7, 8, 9, 10, 11, 12, 13, 14, 15] rfl, rfl⟩
                  · replace ey23 := xj_f ey23 c22
                    refine lv_lload hx hb dY_added_217 (lv_at hl 0 rfl) ?_
                    refine lv_iload hx hb dY_added_219 (lv_at hl 1 rfl) ?_
                    refine lv_lshl (v := (xj_shl y21 y19)) hx hb dY_added_221 rfl ?_
                    refine lv_lload hx hb dY_added_222 (lv_at hl 2 rfl) ?_
                    refine xj_l_eq (tgt := 232) hx hb dY_added_224 dY_added_225 (by decide) (fun c33 => ?_) (fun c33 => ?_)
                    · replace ey23 := xj_t ey23 c33
                      refine lv_iconst (v := (0 : Int32)) hx hb dY_added_232 (by decide) ?_
                      subst ey23
                      exact K233 _ _ ⟨lv_sub hl [0, 1, 2, 3, 4, 5, 6, 7, 8, 9, 10, 11, 12, 13, 14, 15] rfl, rfl⟩
                    · replace ey23 := xj_f ey23 c33
                      refine lv_iconst (v := (1 : Int32)) hx hb dY_added_228 (by decide) ?_
                      refine lv_goto (tgt := 233) hx hb dY_added_229 (by decide) ?_
                      subst ey23
                      exact K233 _ _ ⟨lv_sub hl [0, 1, 2, 3, 4, 5, 6, 7, 8, 9, 10, 11, 12, 13, 14, 15] rfl, rfl⟩
              · refine lv_icmp_le (tgt := 203) hx hb dY_added_196 (by decide) (fun c20 => ?_) (fun c20 => ?_)
                · replace ey21 := xj_t ey21 c20
                  refine lv_lload hx hb dY_added_203 (lv_at hl 1 rfl) ?_
                  refine lv_iload hx hb dY_added_205 (lv_at hl 0 rfl) ?_
                  refine lv_lshr (v := (xj_shr y17 y19)) hx hb dY_added_207 rfl ?_
                  subst ey21
                  exact K208 _ _ ⟨lv_sub hl [0, 1, 2, 3, 4, 5, 6, 7, 8, 9, 10, 11, 12, 13, 14] rfl, rfl⟩
                · replace ey21 := xj_f ey21 c20
                  refine lv_lconst (v := (0 : Int64)) hx hb dY_added_199 (by decide) ?_
                  refine lv_goto (tgt := 208) hx hb dY_added_200 (by decide) ?_
                  subst ey21
                  exact K208 _ _ ⟨lv_sub hl [0, 1, 2, 3, 4, 5, 6, 7, 8, 9, 10, 11, 12, 13, 14] rfl, rfl⟩
            · refine lv_if_eq (tgt := 185) hx hb dY_added_174 (by decide) (fun c18 => ?_) (fun c18 => ?_)
              · replace ey19 := xj_t ey19 c18
                refine lv_iload hx hb dY_added_185 (lv_at hl 7 rfl) ?_
                refine lv_iload hx hb dY_added_187 (lv_at hl 4 rfl) ?_
                refine lv_isub hx hb dY_added_189 ?_
                subst ey19
                exact K190 _ _ ⟨lv_sub hl [0, 1, 2, 3, 4, 5, 6, 7, 8, 9, 10, 11, 12, 13] rfl, rfl⟩
              · replace ey19 := xj_f ey19 c18
                refine lv_iload hx hb dY_added_177 (lv_at hl 4 rfl) ?_
                refine lv_iload hx hb dY_added_179 (lv_at hl 7 rfl) ?_
                refine lv_isub hx hb dY_added_181 ?_
                refine lv_goto (tgt := 190) hx hb dY_added_182 (by decide) ?_
                subst ey19
                exact K190 _ _ ⟨lv_sub hl [0, 1, 2, 3, 4, 5, 6, 7, 8, 9, 10, 11, 12, 13] rfl, rfl⟩
          · refine lv_if_eq (tgt := 165) hx hb dY_added_157 (by decide) (fun c15 => ?_) (fun c15 => ?_)
            · replace ey16 := xj_t ey16 c15
              refine lv_lload hx hb dY_added_165 (lv_at hl 2 rfl) ?_
              subst ey16
              exact K167 _ _ ⟨lv_sub hl [0, 1, 2, 3, 4, 5, 6, 7, 8, 9, 10, 11, 12] rfl, rfl⟩
            · replace ey16 := xj_f ey16 c15
              refine lv_lload hx hb dY_added_160 (lv_at hl 5 rfl) ?_
              refine lv_goto (tgt := 167) hx hb dY_added_162 (by decide) ?_
              subst ey16
              exact K167 _ _ ⟨lv_sub hl [0, 1, 2, 3, 4, 5, 6, 7, 8, 9, 10, 11, 12] rfl, rfl⟩
        · refine lv_if_eq (tgt := 148) hx hb dY_added_140 (by decide) (fun c12 => ?_) (fun c12 => ?_)
          · replace ey13 := xj_t ey13 c12
            refine lv_lload hx hb dY_added_148 (lv_at hl 4 rfl) ?_
            subst ey13
            exact K150 _ _ ⟨lv_sub hl [0, 1, 2, 3, 4, 5, 6, 7, 8, 9, 10, 11] rfl, rfl⟩
          · replace ey13 := xj_f ey13 c12
            refine lv_lload hx hb dY_added_143 (lv_at hl 1 rfl) ?_
            refine lv_goto (tgt := 150) hx hb dY_added_145 (by decide) ?_
            subst ey13
            exact K150 _ _ ⟨lv_sub hl [0, 1, 2, 3, 4, 5, 6, 7, 8, 9, 10, 11] rfl, rfl⟩
      · refine lv_icmp_gt (tgt := 131) hx hb dY_added_113 (by decide) (fun c10 => ?_) (fun c10 => ?_)
        · replace ey11 := xj_t ey11 c10
          refine lv_iconst (v := (1 : Int32)) hx hb dY_added_131 (by decide) ?_
          refine lv_goto (tgt := 136) hx hb dY_added_132 (by decide) ?_
          subst ey11
          exact K136 _ _ ⟨lv_sub hl [0, 1, 2, 3, 4, 5, 6, 7, 8, 9, 10] rfl, rfl⟩
        · replace ey11 := xj_f ey11 c10
          refine lv_iload hx hb dY_added_116 (lv_at hl 1 rfl) ?_
          refine lv_iload hx hb dY_added_118 (lv_at hl 4 rfl) ?_
          refine lv_icmp_ne (tgt := 135) hx hb dY_added_120 (by decide) (fun c34 => ?_) (fun c34 => ?_)
          · replace ey11 := xj_f ey11 c34
            refine lv_iconst (v := (0 : Int32)) hx hb dY_added_135 (by decide) ?_
            subst ey11
            exact K136 _ _ ⟨lv_sub hl [0, 1, 2, 3, 4, 5, 6, 7, 8, 9, 10] rfl, rfl⟩
          · replace ey11 := xj_t ey11 c34
            refine lv_lload hx hb dY_added_123 (lv_at hl 0 rfl) ?_
            refine lv_lload hx hb dY_added_125 (lv_at hl 3 rfl) ?_
            refine xj_l_le (tgt := 135) hx hb dY_added_127 dY_added_128 (by decide) (fun c35 => ?_) (fun c35 => ?_)
            · replace ey11 := xj_t ey11 c35
              refine lv_iconst (v := (0 : Int32)) hx hb dY_added_135 (by decide) ?_
              subst ey11
              exact K136 _ _ ⟨lv_sub hl [0, 1, 2, 3, 4, 5, 6, 7, 8, 9, 10] rfl, rfl⟩
            · replace ey11 := xj_f ey11 c35
              refine lv_iconst (v := (1 : Int32)) hx hb dY_added_131 (by decide) ?_
              refine lv_goto (tgt := 136) hx hb dY_added_132 (by decide) ?_
              subst ey11
              exact K136 _ _ ⟨lv_sub hl [0, 1, 2, 3, 4, 5, 6, 7, 8, 9, 10] rfl, rfl⟩
    · replace hF := xj_f hF c4
      refine lv_lload_n hx hb dY_added_40 rfl (lv_at hl 2 rfl) ?_
      exact W.lret (v := p2) hx hb hr (fun t ht hW => ⟨⟨_, (g, ak, il, mi, xe, bi, (0 : Int32), (0 : Int32)), rfl, hF.symm, by rw [ht]; exact hP, hD⟩, hS.F ht⟩) hS.2.2 dY_added_41
  · replace hF := xj_f hF c2
    refine lv_lload hx hb dY_added_17 (lv_at hl 3 rfl) ?_
    refine xj_si (As := [.long p3]) (rest := []) ⟨hx, hb, hml, hown, hts⟩ (mc_Y_isZero l p3) (va_cwS 1 hts (gY_isZero _) rfl rfl rfl (by decide +kernel) ⟨Nat.le_of_ble_eq_true rfl, Nat.le_of_ble_eq_true rfl⟩) hS hA rfl hl.1 rfl (Nat.le_of_ble_eq_true rfl) dY_added_19 ⟨Nat.zero_le _, Nat.zero_le _⟩ (fun H9 locs9 hk9 hS => ?_)
    have hP := xj_kept hP hk9
    refine lv_topi (fun y36 ey36 => ?_)
    replace hF := xj_bz hF ey36
    refine lv_if_eq (tgt := 29) hx hb dY_added_22 (by decide) (fun c37 => ?_) (fun c37 => ?_)
    · replace hF := xj_t hF c37
      refine lv_lload hx hb dY_added_29 (lv_at hl 3 rfl) ?_
      exact W.lret (v := p3) hx hb hr (fun t ht hW => ⟨⟨_, (g, ak, il, mi, xe, bi, (0 : Int32), (0 : Int32)), rfl, hF.symm, by rw [ht]; exact hP, hD⟩, hS.F ht⟩) hS.2.2 dY_added_31
    · replace hF := xj_f hF c37
      refine lv_lconst (v := (0 : Int64)) hx hb dY_added_25 (by decide) ?_
      refine lv_goto (tgt := 31) hx hb dY_added_26 (by decide) ?_
      exact W.lret (v := (0 : Int64)) hx hb hr (fun t ht hW => ⟨⟨_, (g, ak, il, mi, xe, bi, (0 : Int32), (0 : Int32)), rfl, hF.symm, by rw [ht]; exact hP, hD⟩, hS.F ht⟩) hS.2.2 dY_added_31
theorem ms_cut_added {g : Nat → Int64} {ak il mi xe : Int32} {bi : Int64} {fa cu p1 : Int32} {p2 p3 : Int64} : (mf_Y_added g ak il mi xe bi fa cu p1 p2 p3).2.2.2.2.2.2.2.2 = 0 ∨ (mf_Y_added g ak il mi xe bi fa cu p1 p2 p3).2.2.2.2.2.2.2.2 = 1 := by
  have key : ∀ c : Prop, [Decidable c] → ∀ d : Prop, [Decidable d] → (if c then (1 : Int32) else (if d then (0 : Int32) else (1 : Int32))) = 0 ∨ (if c then (1 : Int32) else (if d then (0 : Int32) else (1 : Int32))) = 1 := by
    intro c _ d _; (repeat' split) <;> simp
  obtain ⟨T, hT⟩ : ∃ T, T = mf_Y_added g ak il mi xe bi fa cu p1 p2 p3 := ⟨_, rfl⟩
  rw [← hT]
  unfold mf_Y_added at hT
  obtain ⟨y1, e1, hT⟩ := xj_b hT
  by_cases h1 : y1 = 0
  · replace hT := xj_t hT h1
    obtain ⟨y3, e3, hT⟩ := xj_b hT
    by_cases h2 : y3 = 0
    · replace hT := xj_t hT h2
      obtain ⟨y5, ey5, hT⟩ := xj_b hT
      obtain ⟨q6, eq6, hT⟩ := xj_b hT
      obtain ⟨y7, ey7, hT⟩ := xj_b hT
      obtain ⟨q8, eq8, hT⟩ := xj_b hT
      obtain ⟨y9, ey9, hT⟩ := xj_b hT
      obtain ⟨y11, ey11, hT⟩ := xj_b hT
      obtain ⟨y13, ey13, hT⟩ := xj_b hT
      obtain ⟨y14, ey14, hT⟩ := xj_b hT
      obtain ⟨y16, ey16, hT⟩ := xj_b hT
      obtain ⟨y17, ey17, hT⟩ := xj_b hT
      obtain ⟨y19, ey19, hT⟩ := xj_b hT
      obtain ⟨y21, ey21, hT⟩ := xj_b hT
      obtain ⟨y23, ey23, hT⟩ := xj_b hT
      obtain ⟨y25, ey25, hT⟩ := xj_b hT
      obtain ⟨y27, ey27, hT⟩ := xj_b hT
      obtain ⟨y29, ey29, hT⟩ := xj_b hT
      obtain ⟨q30, eq30, hT⟩ := xj_b hT
      rw [hT]
      show q30.2.2.2.2.2.2.2.2 = 0 ∨ q30.2.2.2.2.2.2.2.2 = 1
      rw [eq30]
      exact ms_cut_rounds (by rw [ey23]; exact key _ _)
    · replace hT := xj_f hT h2
      rw [hT]; simp
  · replace hT := xj_f hT h1
    obtain ⟨y3, e3, hT⟩ := xj_b hT
    by_cases h2 : y3 = 0
    · replace hT := xj_t hT h2
      rw [hT]; simp
    · replace hT := xj_f hT h2
      rw [hT]; simp
end
section
def mf_Y_two (g : Nat → Int64) (ak : Int32) (il : Int32) (mi : Int32) (xe : Int32) (bi : Int64) (fa : Int32) (cu : Int32) (p1 : Int32) (p2 : Int32) (p3 : Int32) (p4 : Int32) : Int32 := (xj_bnd (mf_Y_isSize p1) (fun y1 => (if y1 = 0 then (-5 : Int32) else (xj_bnd (mf_Y_isRegister p2) (fun y3 => (if y3 = 0 then (-5 : Int32) else (xj_bnd (mf_Y_isRegister p3) (fun y5 => (if y5 = 0 then (-5 : Int32) else (xj_bnd (mf_Y_isRegister p4) (fun y7 => (if y7 = 0 then (-5 : Int32) else (xj_bnd (mf_Y_in g ak il mi xe bi fa cu p1 p2) (fun y9 => (xj_bnd (mf_Y_isReserved y9) (fun y10 => (if y10 = 0 then (xj_bnd (mf_Y_in g ak il mi xe bi fa cu p1 p3) (fun y12 => (xj_bnd (mf_Y_isReserved y12) (fun y13 => (if y13 = 0 then (0 : Int32) else (-1 : Int32)))))) else (-1 : Int32))))))))))))))))))
set_option maxHeartbeats 4000000 in
set_option maxRecDepth 100000 in
theorem mc_Y_two (l : Launch) (dC : Nat → ClassId) (dI : Nat → Nat → Nat) (k0 k_g : Nat) (cB_g : ClassId) (g : Nat → Int64) (ak : Int32) (il : Int32) (mi : Int32) (xe : Int32) (bi : Int64) (fa : Int32) (cu : Int32) (p1 : Int32) (p2 : Int32) (p3 : Int32) (p4 : Int32) : xj_Oi l (dC, dI) vwCl [(cB_g, .long)] (mw_Y k0 k_g cB_g) yY_two wsY_two ({ frames := 1, cells := 0, slots := 0, locals := 22 }) [.ref k0, .int p1, .int p2, .int p3, .int p4] (g, ak, il, mi, xe, bi, fa, cu) (mf_Y_two g ak il mi xe bi fa cu p1 p2 p3 p4, (g, ak, il, mi, xe, bi, fa, cu)) := by
  intro sz
  refine Met.ofW (cc := cY_two) (maxL := 5) (ret := (some .int)) (by decide) rfl ?_
  intro p e s m args below meth c s₁ B hml hv
  obtain ⟨rfl, hsz, hP, hK, hD0⟩ := hv
  have hx := B.exec
  have hb := B.bytes
  have hr := B.returns
  have hts := atoms_spec (ws := wsY_two) B.pre
  have hown : s.vm.findClass RX1 = some m.cls := findClass_of_methodNamed B.named
  have hlocks := B.notSynchronized
  subst hsz
  have hD := hD0.self (sz := s.heap.size)
  generalize hAe : va_A (mw_Y k0 k_g cB_g (g, ak, il, mi, xe, bi, fa, cu)) s.heap.size = A at hD ⊢
  have hA : ∀ q : Nat, s.heap.size ≤ q → A q := fun q h => by rw [← hAe]; exact Or.inr h
  have hS : va_S A s.heap s.heap [] := va_S.rf
  have hP : va_P (dC, dI) vwCl [(k0, .inr (1, [.ref k_g, .int ak, .int il, .int mi, .int xe, .long bi, .int fa, .int cu])), (k_g, .inl (cB_g, 8, .inr (.inl g)))] s.heap := hP
  have hD : va_D A [(k0, .inr (1, [.ref k_g, .int ak, .int il, .int mi, .int xe, .long bi, .int fa, .int cu])), (k_g, .inl (cB_g, 8, .inr (.inl g)))] := hD
  generalize hT : mf_Y_two g ak il mi xe bi fa cu p1 p2 p3 p4 = T
  have hF := hT.symm
  unfold mf_Y_two at hF
  have hl := lv_entry ([.ref k0, .int p1, .int p2, .int p3, .int p4]) (n := 5) (Nat.le_of_ble_eq_true rfl)
  rw [lg_entry_eq]
  generalize (lg_sl ([.ref k0, .int p1, .int p2, .int p3, .int p4]) ++ List.replicate (5 - (lg_sl ([.ref k0, .int p1, .int p2, .int p3, .int p4])).length) Slot.unset).toArray = ls at hl ⊢
  have hl : lv_has ls 5 [(0, .ref k0), (1, .int p1), (2, .int p2), (3, .int p3), (4, .int p4)] := hl
  refine lv_iload_n hx hb dY_two_0 rfl (lv_at hl 1 rfl) ?_
  refine xj_si (As := [.int p1]) (rest := []) ⟨hx, hb, hml, hown, hts⟩ (mc_Y_isSize l p1) (va_cwS 1 hts (gY_isSize _) rfl rfl rfl (by decide +kernel) ⟨Nat.le_of_ble_eq_true rfl, Nat.le_of_ble_eq_true rfl⟩) hS hA rfl hl.1 rfl (Nat.le_of_ble_eq_true rfl) dY_two_1 ⟨Nat.zero_le _, Nat.zero_le _⟩ (fun H9 locs9 hk9 hS => ?_)
  have hP := xj_kept hP hk9
  refine lv_topi (fun y1 ey1 => ?_)
  replace hF := xj_bz hF ey1
  refine lv_if_eq (tgt := 29) hx hb dY_two_4 (by decide) (fun c2 => ?_) (fun c2 => ?_)
  · replace hF := xj_t hF c2
    refine lv_bipush (v := (-5 : Int32)) hx hb dY_two_29 (by decide) ?_
    exact W.iret (v := (-5 : Int32)) hx hb hr (fun t ht hW => ⟨⟨_, (g, ak, il, mi, xe, bi, fa, cu), rfl, by rw [hF], by rw [ht]; exact hP, hD⟩, hS.F ht⟩) hS.2.2 dY_two_31
  · replace hF := xj_f hF c2
    refine lv_iload_n hx hb dY_two_7 rfl (lv_at hl 2 rfl) ?_
    refine xj_si (As := [.int p2]) (rest := []) ⟨hx, hb, hml, hown, hts⟩ (mc_Y_isRegister l p2) (va_cwS 1 hts (gY_isRegister _) rfl rfl rfl (by decide +kernel) ⟨Nat.le_of_ble_eq_true rfl, Nat.le_of_ble_eq_true rfl⟩) hS hA rfl hl.1 rfl (Nat.le_of_ble_eq_true rfl) dY_two_8 ⟨Nat.zero_le _, Nat.zero_le _⟩ (fun H9 locs9 hk9 hS => ?_)
    have hP := xj_kept hP hk9
    refine lv_topi (fun y3 ey3 => ?_)
    replace hF := xj_bz hF ey3
    refine lv_if_eq (tgt := 29) hx hb dY_two_11 (by decide) (fun c4 => ?_) (fun c4 => ?_)
    · replace hF := xj_t hF c4
      refine lv_bipush (v := (-5 : Int32)) hx hb dY_two_29 (by decide) ?_
      exact W.iret (v := (-5 : Int32)) hx hb hr (fun t ht hW => ⟨⟨_, (g, ak, il, mi, xe, bi, fa, cu), rfl, by rw [hF], by rw [ht]; exact hP, hD⟩, hS.F ht⟩) hS.2.2 dY_two_31
    · replace hF := xj_f hF c4
      refine lv_iload_n hx hb dY_two_14 rfl (lv_at hl 3 rfl) ?_
      refine xj_si (As := [.int p3]) (rest := []) ⟨hx, hb, hml, hown, hts⟩ (mc_Y_isRegister l p3) (va_cwS 1 hts (gY_isRegister _) rfl rfl rfl (by decide +kernel) ⟨Nat.le_of_ble_eq_true rfl, Nat.le_of_ble_eq_true rfl⟩) hS hA rfl hl.1 rfl (Nat.le_of_ble_eq_true rfl) dY_two_15 ⟨Nat.zero_le _, Nat.zero_le _⟩ (fun H9 locs9 hk9 hS => ?_)
      have hP := xj_kept hP hk9
      refine lv_topi (fun y5 ey5 => ?_)
      replace hF := xj_bz hF ey5
      refine lv_if_eq (tgt := 29) hx hb dY_two_18 (by decide) (fun c6 => ?_) (fun c6 => ?_)
      · replace hF := xj_t hF c6
        refine lv_bipush (v := (-5 : Int32)) hx hb dY_two_29 (by decide) ?_
        exact W.iret (v := (-5 : Int32)) hx hb hr (fun t ht hW => ⟨⟨_, (g, ak, il, mi, xe, bi, fa, cu), rfl, by rw [hF], by rw [ht]; exact hP, hD⟩, hS.F ht⟩) hS.2.2 dY_two_31
      · replace hF := xj_f hF c6
        refine lv_iload hx hb dY_two_21 (lv_at hl 4 rfl) ?_
        refine xj_si (As := [.int p4]) (rest := []) ⟨hx, hb, hml, hown, hts⟩ (mc_Y_isRegister l p4) (va_cwS 1 hts (gY_isRegister _) rfl rfl rfl (by decide +kernel) ⟨Nat.le_of_ble_eq_true rfl, Nat.le_of_ble_eq_true rfl⟩) hS hA rfl hl.1 rfl (Nat.le_of_ble_eq_true rfl) dY_two_23 ⟨Nat.zero_le _, Nat.zero_le _⟩ (fun H9 locs9 hk9 hS => ?_)
        have hP := xj_kept hP hk9
        refine lv_topi (fun y7 ey7 => ?_)
        replace hF := xj_bz hF ey7
        refine lv_if_ne (tgt := 32) hx hb dY_two_26 (by decide) (fun c8 => ?_) (fun c8 => ?_)
        · replace hF := xj_f hF c8
          refine lv_aload_n hx hb dY_two_32 rfl (lv_at hl 0 rfl) ?_
          refine lv_iload_n hx hb dY_two_33 rfl (lv_at hl 1 rfl) ?_
          refine lv_iload_n hx hb dY_two_34 rfl (lv_at hl 2 rfl) ?_
          refine xj_vl (As := [.int p1, .int p2]) (rest := []) (Wd := mw_Y k0 k_g cB_g) (wr := []) ⟨hx, hb, hml, hown, hts⟩ (mc_Y_in l dC dI k0 k_g cB_g g ak il mi xe bi fa cu p1 p2 (ms_reg (fun h9 => c4 (ey3.trans h9)))) (cwV 2 hts (gY_in _) rfl rfl rfl (by decide +kernel) ⟨Nat.le_of_ble_eq_true rfl, Nat.le_of_ble_eq_true rfl⟩) hP hK hD hS hA [0, 1] [] [0] rfl (by decide) rfl (by decide) (by decide) rfl (va_recv hK hP (ci := 1) (q0 := 0) rfl rfl) rfl hl.1 rfl (Nat.le_of_ble_eq_true rfl) dY_two_35 ⟨Nat.zero_le _, Nat.zero_le _⟩ (fun H9 locs9 hP hD hS => ?_)
          have hP : va_P (dC, dI) vwCl [(k0, .inr (1, [.ref k_g, .int ak, .int il, .int mi, .int xe, .long bi, .int fa, .int cu])), (k_g, .inl (cB_g, 8, .inr (.inl g)))] _ := hP
          have hD : va_D A [(k0, .inr (1, [.ref k_g, .int ak, .int il, .int mi, .int xe, .long bi, .int fa, .int cu])), (k_g, .inl (cB_g, 8, .inr (.inl g)))] := hD
          refine lv_topl (fun y9 ey9 => ?_)
          replace hF := xj_bz hF ey9
          refine xj_si (As := [.long y9]) (rest := []) ⟨hx, hb, hml, hown, hts⟩ (mc_Y_isReserved l y9) (va_cwS 1 hts (gY_isReserved _) rfl rfl rfl (by decide +kernel) ⟨Nat.le_of_ble_eq_true rfl, Nat.le_of_ble_eq_true rfl⟩) hS hA rfl hl.1 rfl (Nat.le_of_ble_eq_true rfl) dY_two_38 ⟨Nat.zero_le _, Nat.zero_le _⟩ (fun H9 locs9 hk9 hS => ?_)
          have hP := xj_kept hP hk9
          refine lv_topi (fun y10 ey10 => ?_)
          replace hF := xj_bz hF ey10
          refine lv_if_ne (tgt := 56) hx hb dY_two_41 (by decide) (fun c11 => ?_) (fun c11 => ?_)
          · replace hF := xj_f hF c11
            refine lv_iconst (v := (-1 : Int32)) hx hb dY_two_56 (by decide) ?_
            refine lv_goto (tgt := 61) hx hb dY_two_57 (by decide) ?_
            exact W.iret (v := (-1 : Int32)) hx hb hr (fun t ht hW => ⟨⟨_, (g, ak, il, mi, xe, bi, fa, cu), rfl, by rw [hF], by rw [ht]; exact hP, hD⟩, hS.F ht⟩) hS.2.2 dY_two_61
          · replace hF := xj_t hF c11
            refine lv_aload_n hx hb dY_two_44 rfl (lv_at hl 0 rfl) ?_
            refine lv_iload_n hx hb dY_two_45 rfl (lv_at hl 1 rfl) ?_
            refine lv_iload_n hx hb dY_two_46 rfl (lv_at hl 3 rfl) ?_
            refine xj_vl (As := [.int p1, .int p3]) (rest := []) (Wd := mw_Y k0 k_g cB_g) (wr := []) ⟨hx, hb, hml, hown, hts⟩ (mc_Y_in l dC dI k0 k_g cB_g g ak il mi xe bi fa cu p1 p3 (ms_reg (fun h9 => c6 (ey5.trans h9)))) (cwV 2 hts (gY_in _) rfl rfl rfl (by decide +kernel) ⟨Nat.le_of_ble_eq_true rfl, Nat.le_of_ble_eq_true rfl⟩) hP hK hD hS hA [0, 1] [] [0] rfl (by decide) rfl (by decide) (by decide) rfl (va_recv hK hP (ci := 1) (q0 := 0) rfl rfl) rfl hl.1 rfl (Nat.le_of_ble_eq_true rfl) dY_two_47 ⟨Nat.zero_le _, Nat.zero_le _⟩ (fun H9 locs9 hP hD hS => ?_)
            have hP : va_P (dC, dI) vwCl [(k0, .inr (1, [.ref k_g, .int ak, .int il, .int mi, .int xe, .long bi, .int fa, .int cu])), (k_g, .inl (cB_g, 8, .inr (.inl g)))] _ := hP
            have hD : va_D A [(k0, .inr (1, [.ref k_g, .int ak, .int il, .int mi, .int xe, .long bi, .int fa, .int cu])), (k_g, .inl (cB_g, 8, .inr (.inl g)))] := hD
            refine lv_topl (fun y12 ey12 => ?_)
            replace hF := xj_bz hF ey12
            refine xj_si (As := [.long y12]) (rest := []) ⟨hx, hb, hml, hown, hts⟩ (mc_Y_isReserved l y12) (va_cwS 1 hts (gY_isReserved _) rfl rfl rfl (by decide +kernel) ⟨Nat.le_of_ble_eq_true rfl, Nat.le_of_ble_eq_true rfl⟩) hS hA rfl hl.1 rfl (Nat.le_of_ble_eq_true rfl) dY_two_50 ⟨Nat.zero_le _, Nat.zero_le _⟩ (fun H9 locs9 hk9 hS => ?_)
            have hP := xj_kept hP hk9
            refine lv_topi (fun y13 ey13 => ?_)
            replace hF := xj_bz hF ey13
            refine lv_if_eq (tgt := 60) hx hb dY_two_53 (by decide) (fun c14 => ?_) (fun c14 => ?_)
            · replace hF := xj_t hF c14
              refine lv_iconst (v := (0 : Int32)) hx hb dY_two_60 (by decide) ?_
              exact W.iret (v := (0 : Int32)) hx hb hr (fun t ht hW => ⟨⟨_, (g, ak, il, mi, xe, bi, fa, cu), rfl, by rw [hF], by rw [ht]; exact hP, hD⟩, hS.F ht⟩) hS.2.2 dY_two_61
            · replace hF := xj_f hF c14
              refine lv_iconst (v := (-1 : Int32)) hx hb dY_two_56 (by decide) ?_
              refine lv_goto (tgt := 61) hx hb dY_two_57 (by decide) ?_
              exact W.iret (v := (-1 : Int32)) hx hb hr (fun t ht hW => ⟨⟨_, (g, ak, il, mi, xe, bi, fa, cu), rfl, by rw [hF], by rw [ht]; exact hP, hD⟩, hS.F ht⟩) hS.2.2 dY_two_61
        · replace hF := xj_t hF c8
          refine lv_bipush (v := (-5 : Int32)) hx hb dY_two_29 (by decide) ?_
          exact W.iret (v := (-5 : Int32)) hx hb hr (fun t ht hW => ⟨⟨_, (g, ak, il, mi, xe, bi, fa, cu), rfl, by rw [hF], by rw [ht]; exact hP, hD⟩, hS.F ht⟩) hS.2.2 dY_two_31
theorem ms_two {g : Nat → Int64} {ak il mi xe : Int32} {bi : Int64} {fa cu a b c d : Int32} (h : 0 ≤ mf_Y_two g ak il mi xe bi fa cu a b c d) : vp_in b 8 ∧ vp_in c 8 ∧ vp_in d 8 := by
  unfold mf_Y_two xj_bnd at h
  dsimp only at h
  by_cases h1 : mf_Y_isSize a = 0
  · rw [if_pos h1] at h; exact absurd h (by decide)
  · rw [if_neg h1] at h
    by_cases h2 : mf_Y_isRegister b = 0
    · rw [if_pos h2] at h; exact absurd h (by decide)
    · rw [if_neg h2] at h
      by_cases h3 : mf_Y_isRegister c = 0
      · rw [if_pos h3] at h; exact absurd h (by decide)
      · rw [if_neg h3] at h
        by_cases h4 : mf_Y_isRegister d = 0
        · rw [if_pos h4] at h; exact absurd h (by decide)
        · exact ⟨ms_reg h2, ms_reg h3, ms_reg h4⟩

def mf_Y_one (g : Nat → Int64) (ak : Int32) (il : Int32) (mi : Int32) (xe : Int32) (bi : Int64) (fa : Int32) (cu : Int32) (p1 : Int32) (p2 : Int32) (p3 : Int32) : Int32 := (xj_bnd (mf_Y_isSize p1) (fun y1 => (if y1 = 0 then (-5 : Int32) else (xj_bnd (mf_Y_isRegister p2) (fun y3 => (if y3 = 0 then (-5 : Int32) else (xj_bnd (mf_Y_isRegister p3) (fun y5 => (if y5 = 0 then (-5 : Int32) else (xj_bnd (mf_Y_in g ak il mi xe bi fa cu p1 p2) (fun y7 => (xj_bnd (mf_Y_isReserved y7) (fun y8 => (if y8 = 0 then (0 : Int32) else (-1 : Int32)))))))))))))))
set_option maxHeartbeats 4000000 in
set_option maxRecDepth 100000 in
theorem mc_Y_one (l : Launch) (dC : Nat → ClassId) (dI : Nat → Nat → Nat) (k0 k_g : Nat) (cB_g : ClassId) (g : Nat → Int64) (ak : Int32) (il : Int32) (mi : Int32) (xe : Int32) (bi : Int64) (fa : Int32) (cu : Int32) (p1 : Int32) (p2 : Int32) (p3 : Int32) : xj_Oi l (dC, dI) vwCl [(cB_g, .long)] (mw_Y k0 k_g cB_g) yY_one wsY_one ({ frames := 1, cells := 0, slots := 0, locals := 22 }) [.ref k0, .int p1, .int p2, .int p3] (g, ak, il, mi, xe, bi, fa, cu) (mf_Y_one g ak il mi xe bi fa cu p1 p2 p3, (g, ak, il, mi, xe, bi, fa, cu)) := by
  intro sz
  refine Met.ofW (cc := cY_one) (maxL := 4) (ret := (some .int)) (by decide) rfl ?_
  intro p e s m args below meth c s₁ B hml hv
  obtain ⟨rfl, hsz, hP, hK, hD0⟩ := hv
  have hx := B.exec
  have hb := B.bytes
  have hr := B.returns
  have hts := atoms_spec (ws := wsY_one) B.pre
  have hown : s.vm.findClass RX1 = some m.cls := findClass_of_methodNamed B.named
  have hlocks := B.notSynchronized
  subst hsz
  have hD := hD0.self (sz := s.heap.size)
  generalize hAe : va_A (mw_Y k0 k_g cB_g (g, ak, il, mi, xe, bi, fa, cu)) s.heap.size = A at hD ⊢
  have hA : ∀ q : Nat, s.heap.size ≤ q → A q := fun q h => by rw [← hAe]; exact Or.inr h
  have hS : va_S A s.heap s.heap [] := va_S.rf
  have hP : va_P (dC, dI) vwCl [(k0, .inr (1, [.ref k_g, .int ak, .int il, .int mi, .int xe, .long bi, .int fa, .int cu])), (k_g, .inl (cB_g, 8, .inr (.inl g)))] s.heap := hP
  have hD : va_D A [(k0, .inr (1, [.ref k_g, .int ak, .int il, .int mi, .int xe, .long bi, .int fa, .int cu])), (k_g, .inl (cB_g, 8, .inr (.inl g)))] := hD
  generalize hT : mf_Y_one g ak il mi xe bi fa cu p1 p2 p3 = T
  have hF := hT.symm
  unfold mf_Y_one at hF
  have hl := lv_entry ([.ref k0, .int p1, .int p2, .int p3]) (n := 4) (Nat.le_of_ble_eq_true rfl)
  rw [lg_entry_eq]
  generalize (lg_sl ([.ref k0, .int p1, .int p2, .int p3]) ++ List.replicate (4 - (lg_sl ([.ref k0, .int p1, .int p2, .int p3])).length) Slot.unset).toArray = ls at hl ⊢
  have hl : lv_has ls 4 [(0, .ref k0), (1, .int p1), (2, .int p2), (3, .int p3)] := hl
  refine lv_iload_n hx hb dY_one_0 rfl (lv_at hl 1 rfl) ?_
  refine xj_si (As := [.int p1]) (rest := []) ⟨hx, hb, hml, hown, hts⟩ (mc_Y_isSize l p1) (va_cwS 1 hts (gY_isSize _) rfl rfl rfl (by decide +kernel) ⟨Nat.le_of_ble_eq_true rfl, Nat.le_of_ble_eq_true rfl⟩) hS hA rfl hl.1 rfl (Nat.le_of_ble_eq_true rfl) dY_one_1 ⟨Nat.zero_le _, Nat.zero_le _⟩ (fun H9 locs9 hk9 hS => ?_)
  have hP := xj_kept hP hk9
  refine lv_topi (fun y1 ey1 => ?_)
  replace hF := xj_bz hF ey1
  refine lv_if_eq (tgt := 21) hx hb dY_one_4 (by decide) (fun c2 => ?_) (fun c2 => ?_)
  · replace hF := xj_t hF c2
    refine lv_bipush (v := (-5 : Int32)) hx hb dY_one_21 (by decide) ?_
    exact W.iret (v := (-5 : Int32)) hx hb hr (fun t ht hW => ⟨⟨_, (g, ak, il, mi, xe, bi, fa, cu), rfl, by rw [hF], by rw [ht]; exact hP, hD⟩, hS.F ht⟩) hS.2.2 dY_one_23
  · replace hF := xj_f hF c2
    refine lv_iload_n hx hb dY_one_7 rfl (lv_at hl 2 rfl) ?_
    refine xj_si (As := [.int p2]) (rest := []) ⟨hx, hb, hml, hown, hts⟩ (mc_Y_isRegister l p2) (va_cwS 1 hts (gY_isRegister _) rfl rfl rfl (by decide +kernel) ⟨Nat.le_of_ble_eq_true rfl, Nat.le_of_ble_eq_true rfl⟩) hS hA rfl hl.1 rfl (Nat.le_of_ble_eq_true rfl) dY_one_8 ⟨Nat.zero_le _, Nat.zero_le _⟩ (fun H9 locs9 hk9 hS => ?_)
    have hP := xj_kept hP hk9
    refine lv_topi (fun y3 ey3 => ?_)
    replace hF := xj_bz hF ey3
    refine lv_if_eq (tgt := 21) hx hb dY_one_11 (by decide) (fun c4 => ?_) (fun c4 => ?_)
    · replace hF := xj_t hF c4
      refine lv_bipush (v := (-5 : Int32)) hx hb dY_one_21 (by decide) ?_
      exact W.iret (v := (-5 : Int32)) hx hb hr (fun t ht hW => ⟨⟨_, (g, ak, il, mi, xe, bi, fa, cu), rfl, by rw [hF], by rw [ht]; exact hP, hD⟩, hS.F ht⟩) hS.2.2 dY_one_23
    · replace hF := xj_f hF c4
      refine lv_iload_n hx hb dY_one_14 rfl (lv_at hl 3 rfl) ?_
      refine xj_si (As := [.int p3]) (rest := []) ⟨hx, hb, hml, hown, hts⟩ (mc_Y_isRegister l p3) (va_cwS 1 hts (gY_isRegister _) rfl rfl rfl (by decide +kernel) ⟨Nat.le_of_ble_eq_true rfl, Nat.le_of_ble_eq_true rfl⟩) hS hA rfl hl.1 rfl (Nat.le_of_ble_eq_true rfl) dY_one_15 ⟨Nat.zero_le _, Nat.zero_le _⟩ (fun H9 locs9 hk9 hS => ?_)
      have hP := xj_kept hP hk9
      refine lv_topi (fun y5 ey5 => ?_)
      replace hF := xj_bz hF ey5
      refine lv_if_ne (tgt := 24) hx hb dY_one_18 (by decide) (fun c6 => ?_) (fun c6 => ?_)
      · replace hF := xj_f hF c6
        refine lv_aload_n hx hb dY_one_24 rfl (lv_at hl 0 rfl) ?_
        refine lv_iload_n hx hb dY_one_25 rfl (lv_at hl 1 rfl) ?_
        refine lv_iload_n hx hb dY_one_26 rfl (lv_at hl 2 rfl) ?_
        refine xj_vl (As := [.int p1, .int p2]) (rest := []) (Wd := mw_Y k0 k_g cB_g) (wr := []) ⟨hx, hb, hml, hown, hts⟩ (mc_Y_in l dC dI k0 k_g cB_g g ak il mi xe bi fa cu p1 p2 (ms_reg (fun h9 => c4 (ey3.trans h9)))) (cwV 2 hts (gY_in _) rfl rfl rfl (by decide +kernel) ⟨Nat.le_of_ble_eq_true rfl, Nat.le_of_ble_eq_true rfl⟩) hP hK hD hS hA [0, 1] [] [0] rfl (by decide) rfl (by decide) (by decide) rfl (va_recv hK hP (ci := 1) (q0 := 0) rfl rfl) rfl hl.1 rfl (Nat.le_of_ble_eq_true rfl) dY_one_27 ⟨Nat.zero_le _, Nat.zero_le _⟩ (fun H9 locs9 hP hD hS => ?_)
        have hP : va_P (dC, dI) vwCl [(k0, .inr (1, [.ref k_g, .int ak, .int il, .int mi, .int xe, .long bi, .int fa, .int cu])), (k_g, .inl (cB_g, 8, .inr (.inl g)))] _ := hP
        have hD : va_D A [(k0, .inr (1, [.ref k_g, .int ak, .int il, .int mi, .int xe, .long bi, .int fa, .int cu])), (k_g, .inl (cB_g, 8, .inr (.inl g)))] := hD
        refine lv_topl (fun y7 ey7 => ?_)
        replace hF := xj_bz hF ey7
        refine xj_si (As := [.long y7]) (rest := []) ⟨hx, hb, hml, hown, hts⟩ (mc_Y_isReserved l y7) (va_cwS 1 hts (gY_isReserved _) rfl rfl rfl (by decide +kernel) ⟨Nat.le_of_ble_eq_true rfl, Nat.le_of_ble_eq_true rfl⟩) hS hA rfl hl.1 rfl (Nat.le_of_ble_eq_true rfl) dY_one_30 ⟨Nat.zero_le _, Nat.zero_le _⟩ (fun H9 locs9 hk9 hS => ?_)
        have hP := xj_kept hP hk9
        refine lv_topi (fun y8 ey8 => ?_)
        replace hF := xj_bz hF ey8
        refine lv_if_eq (tgt := 40) hx hb dY_one_33 (by decide) (fun c9 => ?_) (fun c9 => ?_)
        · replace hF := xj_t hF c9
          refine lv_iconst (v := (0 : Int32)) hx hb dY_one_40 (by decide) ?_
          exact W.iret (v := (0 : Int32)) hx hb hr (fun t ht hW => ⟨⟨_, (g, ak, il, mi, xe, bi, fa, cu), rfl, by rw [hF], by rw [ht]; exact hP, hD⟩, hS.F ht⟩) hS.2.2 dY_one_41
        · replace hF := xj_f hF c9
          refine lv_iconst (v := (-1 : Int32)) hx hb dY_one_36 (by decide) ?_
          refine lv_goto (tgt := 41) hx hb dY_one_37 (by decide) ?_
          exact W.iret (v := (-1 : Int32)) hx hb hr (fun t ht hW => ⟨⟨_, (g, ak, il, mi, xe, bi, fa, cu), rfl, by rw [hF], by rw [ht]; exact hP, hD⟩, hS.F ht⟩) hS.2.2 dY_one_41
      · replace hF := xj_t hF c6
        refine lv_bipush (v := (-5 : Int32)) hx hb dY_one_21 (by decide) ?_
        exact W.iret (v := (-5 : Int32)) hx hb hr (fun t ht hW => ⟨⟨_, (g, ak, il, mi, xe, bi, fa, cu), rfl, by rw [hF], by rw [ht]; exact hP, hD⟩, hS.F ht⟩) hS.2.2 dY_one_23
theorem ms_one {g : Nat → Int64} {ak il mi xe : Int32} {bi : Int64} {fa cu a b d : Int32} (h : 0 ≤ mf_Y_one g ak il mi xe bi fa cu a b d) : vp_in b 8 ∧ vp_in d 8 := by
  unfold mf_Y_one xj_bnd at h
  dsimp only at h
  by_cases h1 : mf_Y_isSize a = 0
  · rw [if_pos h1] at h; exact absurd h (by decide)
  · rw [if_neg h1] at h
    by_cases h2 : mf_Y_isRegister b = 0
    · rw [if_pos h2] at h; exact absurd h (by decide)
    · rw [if_neg h2] at h
      by_cases h4 : mf_Y_isRegister d = 0
      · rw [if_pos h4] at h; exact absurd h (by decide)
      · exact ⟨ms_reg h2, ms_reg h4⟩

def mf_Y_set (g : Nat → Int64) (ak : Int32) (il : Int32) (mi : Int32) (xe : Int32) (bi : Int64) (fa : Int32) (cu : Int32) (p1 : Int32) (p2 : Int64) : Int32 × (Nat → Int64) × Int32 × Int32 × Int32 × Int32 × Int64 × Int32 × Int32 := (if p1 < 0 then ((0 : Int32), (g, ak, il, mi, xe, bi, fa, cu)) else (if p1 ≤ (7 : Int32) then ((1 : Int32), ((vp_updL g (Int32.toNatClampNeg p1) p2), ak, il, mi, xe, bi, fa, cu)) else ((0 : Int32), (g, ak, il, mi, xe, bi, fa, cu))))
set_option maxHeartbeats 4000000 in
set_option maxRecDepth 100000 in
theorem mc_Y_set (l : Launch) (dC : Nat → ClassId) (dI : Nat → Nat → Nat) (k0 k_g : Nat) (cB_g : ClassId) (g : Nat → Int64) (ak : Int32) (il : Int32) (mi : Int32) (xe : Int32) (bi : Int64) (fa : Int32) (cu : Int32) (p1 : Int32) (p2 : Int64) : xj_Oi l (dC, dI) vwCl [(cB_g, .long)] (mw_Y k0 k_g cB_g) yY_set wsY_set ({ frames := 0, cells := 0, slots := 0, locals := 0 }) [.ref k0, .int p1, .long p2] (g, ak, il, mi, xe, bi, fa, cu) (mf_Y_set g ak il mi xe bi fa cu p1 p2) := by
  intro sz
  refine Met.ofW (cc := cY_set) (maxL := 4) (ret := (some .boolean)) (by decide) rfl ?_
  intro p e s m args below meth c s₁ B hml hv
  obtain ⟨rfl, hsz, hP, hK, hD0⟩ := hv
  have hx := B.exec
  have hb := B.bytes
  have hr := B.returns
  have hts := atoms_spec (ws := wsY_set) B.pre
  have hown : s.vm.findClass RX1 = some m.cls := findClass_of_methodNamed B.named
  have hlocks := B.notSynchronized
  subst hsz
  have hD := hD0.self (sz := s.heap.size)
  generalize hAe : va_A (mw_Y k0 k_g cB_g (g, ak, il, mi, xe, bi, fa, cu)) s.heap.size = A at hD ⊢
  have hA : ∀ q : Nat, s.heap.size ≤ q → A q := fun q h => by rw [← hAe]; exact Or.inr h
  have hS : va_S A s.heap s.heap [] := va_S.rf
  have hP : va_P (dC, dI) vwCl [(k0, .inr (1, [.ref k_g, .int ak, .int il, .int mi, .int xe, .long bi, .int fa, .int cu])), (k_g, .inl (cB_g, 8, .inr (.inl g)))] s.heap := hP
  have hD : va_D A [(k0, .inr (1, [.ref k_g, .int ak, .int il, .int mi, .int xe, .long bi, .int fa, .int cu])), (k_g, .inl (cB_g, 8, .inr (.inl g)))] := hD
  generalize hT : mf_Y_set g ak il mi xe bi fa cu p1 p2 = T
  have hF := hT.symm
  unfold mf_Y_set at hF
  have hl := lv_entry ([.ref k0, .int p1, .long p2]) (n := 4) (Nat.le_of_ble_eq_true rfl)
  rw [lg_entry_eq]
  generalize (lg_sl ([.ref k0, .int p1, .long p2]) ++ List.replicate (4 - (lg_sl ([.ref k0, .int p1, .long p2])).length) Slot.unset).toArray = ls at hl ⊢
  have hl : lv_has ls 4 [(0, .ref k0), (1, .int p1), (2, .long p2)] := hl
  refine lv_iload_n hx hb dY_set_0 rfl (lv_at hl 1 rfl) ?_
  refine lv_if_lt (tgt := 10) hx hb dY_set_1 (by decide) (fun c1 => ?_) (fun c1 => ?_)
  · replace hF := xj_t hF c1
    refine lv_iconst (v := (0 : Int32)) hx hb dY_set_10 (by decide) ?_
    exact W.zret (v := (0 : Int32)) hx hb hr rfl (fun t ht hW => ⟨⟨_, (g, ak, il, mi, xe, bi, fa, cu), rfl, hF.symm, by rw [ht]; exact hP, hD⟩, hS.F ht⟩) hS.2.2 dY_set_11
  · replace hF := xj_f hF c1
    refine lv_iload_n hx hb dY_set_4 rfl (lv_at hl 1 rfl) ?_
    refine lv_bipush (v := (7 : Int32)) hx hb dY_set_5 (by decide) ?_
    refine lv_icmp_le (tgt := 12) hx hb dY_set_7 (by decide) (fun c2 => ?_) (fun c2 => ?_)
    · replace hF := xj_t hF c2
      refine lv_aload_n hx hb dY_set_12 rfl (lv_at hl 0 rfl) ?_
      refine va_get (D := (dC, dI)) (ci := 1) (v := .ref k_g) (C := RX1) (T := TX1) (N := 8) hx hb hts (fun w9 h9 => List.mem_cons_of_mem _ (inY w9 h9)) hown hK hP 0 rfl rfl 0 (by decide) (hts (.fieldLink RX1 7 "ExactFloatsModel" "register" "[J") (List.mem_cons_of_mem _ mY_29)) (fun _ h9 => h9) rfl dY_set_13 ?_
      refine lv_iload_n hx hb dY_set_16 rfl (lv_at hl 1 rfl) ?_
      refine lv_lload_n hx hb dY_set_17 rfl (lv_at hl 2 rfl) ?_
      refine va_last hx hb hK hP hD hS 1 0 rfl rfl (ms_in7 c1 c2) dY_set_18 (fun H9 locs9 hP hD hS => ?_)
      have hP : va_P (dC, dI) vwCl [(k0, .inr (1, [.ref k_g, .int ak, .int il, .int mi, .int xe, .long bi, .int fa, .int cu])), (k_g, .inl (cB_g, 8, .inr (.inl (vp_updL g (Int32.toNatClampNeg p1) p2))))] _ := hP
      have hD : va_D A [(k0, .inr (1, [.ref k_g, .int ak, .int il, .int mi, .int xe, .long bi, .int fa, .int cu])), (k_g, .inl (cB_g, 8, .inr (.inl (vp_updL g (Int32.toNatClampNeg p1) p2))))] := hD
      refine lv_iconst (v := (1 : Int32)) hx hb dY_set_19 (by decide) ?_
      exact W.zret (v := (1 : Int32)) hx hb hr rfl (fun t ht hW => ⟨⟨_, ((vp_updL g (Int32.toNatClampNeg p1) p2), ak, il, mi, xe, bi, fa, cu), rfl, hF.symm, by rw [ht]; exact hP, hD⟩, hS.F ht⟩) hS.2.2 dY_set_20
    · replace hF := xj_f hF c2
      refine lv_iconst (v := (0 : Int32)) hx hb dY_set_10 (by decide) ?_
      exact W.zret (v := (0 : Int32)) hx hb hr rfl (fun t ht hW => ⟨⟨_, (g, ak, il, mi, xe, bi, fa, cu), rfl, hF.symm, by rw [ht]; exact hP, hD⟩, hS.F ht⟩) hS.2.2 dY_set_11
def mf_Y_get (g : Nat → Int64) (ak : Int32) (il : Int32) (mi : Int32) (xe : Int32) (bi : Int64) (fa : Int32) (cu : Int32) (p1 : Int32) : Int64 := (if p1 < 0 then (0 : Int64) else (if p1 ≤ (7 : Int32) then (g (Int32.toNatClampNeg p1)) else (0 : Int64)))
set_option maxHeartbeats 4000000 in
set_option maxRecDepth 100000 in
theorem mc_Y_get (l : Launch) (dC : Nat → ClassId) (dI : Nat → Nat → Nat) (k0 k_g : Nat) (cB_g : ClassId) (g : Nat → Int64) (ak : Int32) (il : Int32) (mi : Int32) (xe : Int32) (bi : Int64) (fa : Int32) (cu : Int32) (p1 : Int32) : xj_Ol l (dC, dI) vwCl [(cB_g, .long)] (mw_Y k0 k_g cB_g) yY_get wsY_get ({ frames := 0, cells := 0, slots := 0, locals := 0 }) [.ref k0, .int p1] (g, ak, il, mi, xe, bi, fa, cu) (mf_Y_get g ak il mi xe bi fa cu p1, (g, ak, il, mi, xe, bi, fa, cu)) := by
  intro sz
  refine Met.ofW (cc := cY_get) (maxL := 2) (ret := (some .long)) (by decide) rfl ?_
  intro p e s m args below meth c s₁ B hml hv
  obtain ⟨rfl, hsz, hP, hK, hD0⟩ := hv
  have hx := B.exec
  have hb := B.bytes
  have hr := B.returns
  have hts := atoms_spec (ws := wsY_get) B.pre
  have hown : s.vm.findClass RX1 = some m.cls := findClass_of_methodNamed B.named
  have hlocks := B.notSynchronized
  subst hsz
  have hD := hD0.self (sz := s.heap.size)
  generalize hAe : va_A (mw_Y k0 k_g cB_g (g, ak, il, mi, xe, bi, fa, cu)) s.heap.size = A at hD ⊢
  have hA : ∀ q : Nat, s.heap.size ≤ q → A q := fun q h => by rw [← hAe]; exact Or.inr h
  have hS : va_S A s.heap s.heap [] := va_S.rf
  have hP : va_P (dC, dI) vwCl [(k0, .inr (1, [.ref k_g, .int ak, .int il, .int mi, .int xe, .long bi, .int fa, .int cu])), (k_g, .inl (cB_g, 8, .inr (.inl g)))] s.heap := hP
  have hD : va_D A [(k0, .inr (1, [.ref k_g, .int ak, .int il, .int mi, .int xe, .long bi, .int fa, .int cu])), (k_g, .inl (cB_g, 8, .inr (.inl g)))] := hD
  generalize hT : mf_Y_get g ak il mi xe bi fa cu p1 = T
  have hF := hT.symm
  unfold mf_Y_get at hF
  have hl := lv_entry ([.ref k0, .int p1]) (n := 2) (Nat.le_of_ble_eq_true rfl)
  rw [lg_entry_eq]
  generalize (lg_sl ([.ref k0, .int p1]) ++ List.replicate (2 - (lg_sl ([.ref k0, .int p1])).length) Slot.unset).toArray = ls at hl ⊢
  have hl : lv_has ls 2 [(0, .ref k0), (1, .int p1)] := hl
  refine lv_iload_n hx hb dY_get_0 rfl (lv_at hl 1 rfl) ?_
  refine lv_if_lt (tgt := 10) hx hb dY_get_1 (by decide) (fun c1 => ?_) (fun c1 => ?_)
  · replace hF := xj_t hF c1
    refine lv_lconst (v := (0 : Int64)) hx hb dY_get_10 (by decide) ?_
    refine lv_goto (tgt := 20) hx hb dY_get_11 (by decide) ?_
    exact W.lret (v := (0 : Int64)) hx hb hr (fun t ht hW => ⟨⟨_, (g, ak, il, mi, xe, bi, fa, cu), rfl, by rw [hF], by rw [ht]; exact hP, hD⟩, hS.F ht⟩) hS.2.2 dY_get_20
  · replace hF := xj_f hF c1
    refine lv_iload_n hx hb dY_get_4 rfl (lv_at hl 1 rfl) ?_
    refine lv_bipush (v := (7 : Int32)) hx hb dY_get_5 (by decide) ?_
    refine lv_icmp_le (tgt := 14) hx hb dY_get_7 (by decide) (fun c2 => ?_) (fun c2 => ?_)
    · replace hF := xj_t hF c2
      refine lv_aload_n hx hb dY_get_14 rfl (lv_at hl 0 rfl) ?_
      refine va_get (D := (dC, dI)) (ci := 1) (v := .ref k_g) (C := RX1) (T := TX1) (N := 8) hx hb hts (fun w9 h9 => List.mem_cons_of_mem _ (inY w9 h9)) hown hK hP 0 rfl rfl 0 (by decide) (hts (.fieldLink RX1 7 "ExactFloatsModel" "register" "[J") (List.mem_cons_of_mem _ mY_29)) (fun _ h9 => h9) rfl dY_get_15 ?_
      refine lv_iload_n hx hb dY_get_18 rfl (lv_at hl 1 rfl) ?_
      refine va_lald hx hb hK hP 1 0 rfl rfl (ms_in7 c1 c2) dY_get_19 ?_
      exact W.lret (v := (g (Int32.toNatClampNeg p1))) hx hb hr (fun t ht hW => ⟨⟨_, (g, ak, il, mi, xe, bi, fa, cu), rfl, by rw [hF], by rw [ht]; exact hP, hD⟩, hS.F ht⟩) hS.2.2 dY_get_20
    · replace hF := xj_f hF c2
      refine lv_lconst (v := (0 : Int64)) hx hb dY_get_10 (by decide) ?_
      refine lv_goto (tgt := 20) hx hb dY_get_11 (by decide) ?_
      exact W.lret (v := (0 : Int64)) hx hb hr (fun t ht hW => ⟨⟨_, (g, ak, il, mi, xe, bi, fa, cu), rfl, by rw [hF], by rw [ht]; exact hP, hD⟩, hS.F ht⟩) hS.2.2 dY_get_20
def mf_Y_under (g : Nat → Int64) (ak : Int32) (il : Int32) (mi : Int32) (xe : Int32) (bi : Int64) (fa : Int32) (cu : Int32) (p1 : Int32) : (Nat → Int64) × Int32 × Int32 × Int32 × Int32 × Int64 × Int32 × Int32 := (g, p1, il, mi, xe, bi, fa, cu)
set_option maxHeartbeats 4000000 in
set_option maxRecDepth 100000 in
theorem mc_Y_under (l : Launch) (dC : Nat → ClassId) (dI : Nat → Nat → Nat) (k0 k_g : Nat) (cB_g : ClassId) (g : Nat → Int64) (ak : Int32) (il : Int32) (mi : Int32) (xe : Int32) (bi : Int64) (fa : Int32) (cu : Int32) (p1 : Int32) (hb1 : p1 = 0 ∨ p1 = 1) : xj_Ov l (dC, dI) vwCl [(cB_g, .long)] (mw_Y k0 k_g cB_g) yY_under wsY_under ({ frames := 0, cells := 0, slots := 0, locals := 0 }) [.ref k0, .int p1] (g, ak, il, mi, xe, bi, fa, cu) (mf_Y_under g ak il mi xe bi fa cu p1) := by
  intro sz
  refine Met.ofW (cc := cY_under) (maxL := 2) (ret := none) (by decide) rfl ?_
  intro p e s m args below meth c s₁ B hml hv
  obtain ⟨rfl, hsz, hP, hK, hD0⟩ := hv
  have hx := B.exec
  have hb := B.bytes
  have hr := B.returns
  have hts := atoms_spec (ws := wsY_under) B.pre
  have hown : s.vm.findClass RX1 = some m.cls := findClass_of_methodNamed B.named
  have hlocks := B.notSynchronized
  subst hsz
  have hD := hD0.self (sz := s.heap.size)
  generalize hAe : va_A (mw_Y k0 k_g cB_g (g, ak, il, mi, xe, bi, fa, cu)) s.heap.size = A at hD ⊢
  have hA : ∀ q : Nat, s.heap.size ≤ q → A q := fun q h => by rw [← hAe]; exact Or.inr h
  have hS : va_S A s.heap s.heap [] := va_S.rf
  have hP : va_P (dC, dI) vwCl [(k0, .inr (1, [.ref k_g, .int ak, .int il, .int mi, .int xe, .long bi, .int fa, .int cu])), (k_g, .inl (cB_g, 8, .inr (.inl g)))] s.heap := hP
  have hD : va_D A [(k0, .inr (1, [.ref k_g, .int ak, .int il, .int mi, .int xe, .long bi, .int fa, .int cu])), (k_g, .inl (cB_g, 8, .inr (.inl g)))] := hD
  generalize hT : mf_Y_under g ak il mi xe bi fa cu p1 = T
  have hF := hT.symm
  unfold mf_Y_under at hF
  have hl := lv_entry ([.ref k0, .int p1]) (n := 2) (Nat.le_of_ble_eq_true rfl)
  rw [lg_entry_eq]
  generalize (lg_sl ([.ref k0, .int p1]) ++ List.replicate (2 - (lg_sl ([.ref k0, .int p1])).length) Slot.unset).toArray = ls at hl ⊢
  have hl : lv_has ls 2 [(0, .ref k0), (1, .int p1)] := hl
  refine lv_aload_n hx hb dY_under_0 rfl (lv_at hl 0 rfl) ?_
  refine lv_iload_n hx hb dY_under_1 rfl (lv_at hl 1 rfl) ?_
  refine va_put (D := (dC, dI)) (ci := 1) (v := .int p1) (ty := .boolean) (C := RX1) (T := TX1) (N := 8) hx hb hts (fun w9 h9 => List.mem_cons_of_mem _ (inY w9 h9)) tyX1 tyX1_ok nmX1 hown hK hP hD hS 0 rfl rfl 1 (by decide) (hts (.fieldLink RX1 13 "ExactFloatsModel" "asked" "Z") (List.mem_cons_of_mem _ mY_30)) (fun _ h9 => h9) rfl (by decide +kernel) (xj_nb (hb1)) (xj_fb (hb1)) (Nat.le_of_ble_eq_true rfl) dY_under_2 (fun H9 locs9 hP hD hS => ?_)
  have hP : va_P (dC, dI) vwCl [(k0, .inr (1, [.ref k_g, .int p1, .int il, .int mi, .int xe, .long bi, .int fa, .int cu])), (k_g, .inl (cB_g, 8, .inr (.inl g)))] _ := hP
  have hD : va_D A [(k0, .inr (1, [.ref k_g, .int p1, .int il, .int mi, .int xe, .long bi, .int fa, .int cu])), (k_g, .inl (cB_g, 8, .inr (.inl g)))] := hD
  exact W.vret hx hb hr (fun t ht hW => ⟨⟨(g, p1, il, mi, xe, bi, fa, cu), rfl, hF.symm, by rw [ht]; exact hP, hD⟩, hS.F ht⟩) hS.2.2 dY_under_5
def mf_Y_sum (g : Nat → Int64) (ak : Int32) (il : Int32) (mi : Int32) (xe : Int32) (bi : Int64) (fa : Int32) (cu : Int32) (p1 : Int32) (p2 : Int32) (p3 : Int32) (p4 : Int32) : Int32 × (Nat → Int64) × Int32 × Int32 × Int32 × Int32 × Int64 × Int32 × Int32 := (xj_bnd (mf_Y_two g ak il mi xe bi fa cu p1 p2 p3 p4) (fun y1 => (if 0 ≤ y1 then (xj_bnd (mf_Y_in g ak il mi xe bi fa cu p1 p3) (fun y3 => (xj_bnd (mf_Y_in g ak il mi xe bi fa cu p1 p2) (fun y4 => (xj_bnd (mf_Y_added g ak il mi xe bi fa cu p1 y3 y4) (fun q5 => (xj_bnd (mf_Y_gives q5.2.1 q5.2.2.1 q5.2.2.2.1 q5.2.2.2.2.1 q5.2.2.2.2.2.1 q5.2.2.2.2.2.2.1 q5.2.2.2.2.2.2.2.1 q5.2.2.2.2.2.2.2.2 q5.1 p4) (fun q6 => (q6.1, (q6.2.1, q6.2.2.1, q6.2.2.2.1, q6.2.2.2.2.1, q6.2.2.2.2.2.1, q6.2.2.2.2.2.2.1, q6.2.2.2.2.2.2.2.1, q6.2.2.2.2.2.2.2.2)))))))))) else (y1, (g, ak, il, mi, xe, bi, fa, cu)))))
set_option maxHeartbeats 4000000 in
set_option maxRecDepth 100000 in
theorem mc_Y_sum (l : Launch) (dC : Nat → ClassId) (dI : Nat → Nat → Nat) (k0 k_g : Nat) (cB_g : ClassId) (g : Nat → Int64) (ak : Int32) (il : Int32) (mi : Int32) (xe : Int32) (bi : Int64) (fa : Int32) (cu : Int32) (p1 : Int32) (p2 : Int32) (p3 : Int32) (p4 : Int32) : xj_Oi l (dC, dI) vwCl [(cB_g, .long)] (mw_Y k0 k_g cB_g) yY_sum wsY_sum ({ frames := 3, cells := 0, slots := 0, locals := 101 }) [.ref k0, .int p1, .int p2, .int p3, .int p4] (g, ak, il, mi, xe, bi, fa, cu) (mf_Y_sum g ak il mi xe bi fa cu p1 p2 p3 p4) := by
  intro sz
  refine Met.ofW (cc := cY_sum) (maxL := 6) (ret := (some .int)) (by decide) rfl ?_
  intro p e s m args below meth c s₁ B hml hv
  obtain ⟨rfl, hsz, hP, hK, hD0⟩ := hv
  have hx := B.exec
  have hb := B.bytes
  have hr := B.returns
  have hts := atoms_spec (ws := wsY_sum) B.pre
  have hown : s.vm.findClass RX1 = some m.cls := findClass_of_methodNamed B.named
  have hlocks := B.notSynchronized
  subst hsz
  have hD := hD0.self (sz := s.heap.size)
  generalize hAe : va_A (mw_Y k0 k_g cB_g (g, ak, il, mi, xe, bi, fa, cu)) s.heap.size = A at hD ⊢
  have hA : ∀ q : Nat, s.heap.size ≤ q → A q := fun q h => by rw [← hAe]; exact Or.inr h
  have hS : va_S A s.heap s.heap [] := va_S.rf
  have hP : va_P (dC, dI) vwCl [(k0, .inr (1, [.ref k_g, .int ak, .int il, .int mi, .int xe, .long bi, .int fa, .int cu])), (k_g, .inl (cB_g, 8, .inr (.inl g)))] s.heap := hP
  have hD : va_D A [(k0, .inr (1, [.ref k_g, .int ak, .int il, .int mi, .int xe, .long bi, .int fa, .int cu])), (k_g, .inl (cB_g, 8, .inr (.inl g)))] := hD
  generalize hT : mf_Y_sum g ak il mi xe bi fa cu p1 p2 p3 p4 = T
  have hF := hT.symm
  unfold mf_Y_sum at hF
  have hl := lv_entry ([.ref k0, .int p1, .int p2, .int p3, .int p4]) (n := 6) (Nat.le_of_ble_eq_true rfl)
  rw [lg_entry_eq]
  generalize (lg_sl ([.ref k0, .int p1, .int p2, .int p3, .int p4]) ++ List.replicate (6 - (lg_sl ([.ref k0, .int p1, .int p2, .int p3, .int p4])).length) Slot.unset).toArray = ls at hl ⊢
  have hl : lv_has ls 6 [(0, .ref k0), (1, .int p1), (2, .int p2), (3, .int p3), (4, .int p4)] := hl
  refine lv_aload_n hx hb dY_sum_0 rfl (lv_at hl 0 rfl) ?_
  refine lv_iload_n hx hb dY_sum_1 rfl (lv_at hl 1 rfl) ?_
  refine lv_iload_n hx hb dY_sum_2 rfl (lv_at hl 2 rfl) ?_
  refine lv_iload_n hx hb dY_sum_3 rfl (lv_at hl 3 rfl) ?_
  refine lv_iload hx hb dY_sum_4 (lv_at hl 4 rfl) ?_
  refine xj_vi (As := [.int p1, .int p2, .int p3, .int p4]) (rest := []) (Wd := mw_Y k0 k_g cB_g) (wr := []) ⟨hx, hb, hml, hown, hts⟩ (mc_Y_two l dC dI k0 k_g cB_g g ak il mi xe bi fa cu p1 p2 p3 p4) (cwV 4 hts (gY_two _) rfl rfl rfl (by decide +kernel) ⟨Nat.le_of_ble_eq_true rfl, Nat.le_of_ble_eq_true rfl⟩) hP hK hD hS hA [0, 1] [] [0] rfl (by decide) rfl (by decide) (by decide) rfl (va_recv hK hP (ci := 1) (q0 := 0) rfl rfl) rfl hl.1 rfl (Nat.le_of_ble_eq_true rfl) dY_sum_6 ⟨Nat.zero_le _, Nat.zero_le _⟩ (fun H9 locs9 hP hD hS => ?_)
  have hP : va_P (dC, dI) vwCl [(k0, .inr (1, [.ref k_g, .int ak, .int il, .int mi, .int xe, .long bi, .int fa, .int cu])), (k_g, .inl (cB_g, 8, .inr (.inl g)))] _ := hP
  have hD : va_D A [(k0, .inr (1, [.ref k_g, .int ak, .int il, .int mi, .int xe, .long bi, .int fa, .int cu])), (k_g, .inl (cB_g, 8, .inr (.inl g)))] := hD
  refine lv_topi (fun y1 ey1 => ?_)
  replace hF := xj_bz hF ey1
  refine lv_istore (lv' := [(5, .int y1), (0, .ref k0), (1, .int p1), (2, .int p2), (3, .int p3), (4, .int p4)]) hx hb dY_sum_9 hl (by decide) rfl (fun ls hl => ?_)
  refine lv_iload hx hb dY_sum_11 (lv_at hl 0 rfl) ?_
  refine lv_if_ge (tgt := 21) hx hb dY_sum_13 (by decide) (fun c2 => ?_) (fun c2 => ?_)
  · replace hF := xj_t hF c2
    refine lv_aload_n hx hb dY_sum_21 rfl (lv_at hl 1 rfl) ?_
    refine lv_aload_n hx hb dY_sum_22 rfl (lv_at hl 1 rfl) ?_
    refine lv_iload_n hx hb dY_sum_23 rfl (lv_at hl 2 rfl) ?_
    refine lv_aload_n hx hb dY_sum_24 rfl (lv_at hl 1 rfl) ?_
    refine lv_iload_n hx hb dY_sum_25 rfl (lv_at hl 2 rfl) ?_
    refine lv_iload_n hx hb dY_sum_26 rfl (lv_at hl 4 rfl) ?_
    refine xj_vl (As := [.int p1, .int p3]) (rest := [.int p1, .ref k0, .ref k0]) (Wd := mw_Y k0 k_g cB_g) (wr := []) ⟨hx, hb, hml, hown, hts⟩ (mc_Y_in l dC dI k0 k_g cB_g g ak il mi xe bi fa cu p1 p3 ((ms_two (xj_ge ey1 c2)).2.1)) (cwV 2 hts (gY_in _) rfl rfl rfl (by decide +kernel) ⟨Nat.le_of_ble_eq_true rfl, Nat.le_of_ble_eq_true rfl⟩) hP hK hD hS hA [0, 1] [] [0] rfl (by decide) rfl (by decide) (by decide) rfl (va_recv hK hP (ci := 1) (q0 := 0) rfl rfl) rfl hl.1 rfl (Nat.le_of_ble_eq_true rfl) dY_sum_27 ⟨Nat.zero_le _, Nat.zero_le _⟩ (fun H9 locs9 hP hD hS => ?_)
    have hP : va_P (dC, dI) vwCl [(k0, .inr (1, [.ref k_g, .int ak, .int il, .int mi, .int xe, .long bi, .int fa, .int cu])), (k_g, .inl (cB_g, 8, .inr (.inl g)))] _ := hP
    have hD : va_D A [(k0, .inr (1, [.ref k_g, .int ak, .int il, .int mi, .int xe, .long bi, .int fa, .int cu])), (k_g, .inl (cB_g, 8, .inr (.inl g)))] := hD
    refine lv_topl (fun y3 ey3 => ?_)
    replace hF := xj_bz hF ey3
    refine lv_aload_n hx hb dY_sum_30 rfl (lv_at hl 1 rfl) ?_
    refine lv_iload_n hx hb dY_sum_31 rfl (lv_at hl 2 rfl) ?_
    refine lv_iload_n hx hb dY_sum_32 rfl (lv_at hl 3 rfl) ?_
    refine xj_vl (As := [.int p1, .int p2]) (rest := [.long y3, .int p1, .ref k0, .ref k0]) (Wd := mw_Y k0 k_g cB_g) (wr := []) ⟨hx, hb, hml, hown, hts⟩ (mc_Y_in l dC dI k0 k_g cB_g g ak il mi xe bi fa cu p1 p2 ((ms_two (xj_ge ey1 c2)).1)) (cwV 2 hts (gY_in _) rfl rfl rfl (by decide +kernel) ⟨Nat.le_of_ble_eq_true rfl, Nat.le_of_ble_eq_true rfl⟩) hP hK hD hS hA [0, 1] [] [0] rfl (by decide) rfl (by decide) (by decide) rfl (va_recv hK hP (ci := 1) (q0 := 0) rfl rfl) rfl hl.1 rfl (Nat.le_of_ble_eq_true rfl) dY_sum_33 ⟨Nat.zero_le _, Nat.zero_le _⟩ (fun H9 locs9 hP hD hS => ?_)
    have hP : va_P (dC, dI) vwCl [(k0, .inr (1, [.ref k_g, .int ak, .int il, .int mi, .int xe, .long bi, .int fa, .int cu])), (k_g, .inl (cB_g, 8, .inr (.inl g)))] _ := hP
    have hD : va_D A [(k0, .inr (1, [.ref k_g, .int ak, .int il, .int mi, .int xe, .long bi, .int fa, .int cu])), (k_g, .inl (cB_g, 8, .inr (.inl g)))] := hD
    refine lv_topl (fun y4 ey4 => ?_)
    replace hF := xj_bz hF ey4
    obtain ⟨q5, eq5⟩ : ∃ z : Int64 × (Nat → Int64) × Int32 × Int32 × Int32 × Int32 × Int64 × Int32 × Int32, z = (mf_Y_added g ak il mi xe bi fa cu p1 y3 y4) := ⟨_, rfl⟩
    replace hF := xj_bz hF eq5
    refine xj_vl (r := q5) (As := [.int p1, .long y3, .long y4]) (rest := [.ref k0]) (Wd := mw_Y k0 k_g cB_g) (wr := []) ⟨hx, hb, hml, hown, hts⟩ (by rw [eq5]; exact mc_Y_added l dC dI k0 k_g cB_g g ak il mi xe bi fa cu p1 y3 y4) (cwV 3 hts (gY_added _) rfl rfl rfl (by decide +kernel) ⟨Nat.le_of_ble_eq_true rfl, Nat.le_of_ble_eq_true rfl⟩) hP hK hD hS hA [0, 1] [] [0] rfl (by decide) rfl (by decide) (by decide) rfl (va_recv hK hP (ci := 1) (q0 := 0) rfl rfl) rfl hl.1 rfl (Nat.le_of_ble_eq_true rfl) dY_sum_36 ⟨Nat.zero_le _, Nat.zero_le _⟩ (fun H9 locs9 hP hD hS => ?_)
    have hP : va_P (dC, dI) vwCl [(k0, .inr (1, [.ref k_g, .int q5.2.2.1, .int q5.2.2.2.1, .int q5.2.2.2.2.1, .int q5.2.2.2.2.2.1, .long q5.2.2.2.2.2.2.1, .int q5.2.2.2.2.2.2.2.1, .int q5.2.2.2.2.2.2.2.2])), (k_g, .inl (cB_g, 8, .inr (.inl q5.2.1)))] _ := hP
    have hD : va_D A [(k0, .inr (1, [.ref k_g, .int q5.2.2.1, .int q5.2.2.2.1, .int q5.2.2.2.2.1, .int q5.2.2.2.2.2.1, .long q5.2.2.2.2.2.2.1, .int q5.2.2.2.2.2.2.2.1, .int q5.2.2.2.2.2.2.2.2])), (k_g, .inl (cB_g, 8, .inr (.inl q5.2.1)))] := hD
    refine lv_iload hx hb dY_sum_39 (lv_at hl 5 rfl) ?_
    obtain ⟨q6, eq6⟩ : ∃ z : Int32 × (Nat → Int64) × Int32 × Int32 × Int32 × Int32 × Int64 × Int32 × Int32, z = (mf_Y_gives q5.2.1 q5.2.2.1 q5.2.2.2.1 q5.2.2.2.2.1 q5.2.2.2.2.2.1 q5.2.2.2.2.2.2.1 q5.2.2.2.2.2.2.2.1 q5.2.2.2.2.2.2.2.2 q5.1 p4) := ⟨_, rfl⟩
    replace hF := xj_bz hF eq6
    refine xj_vi (r := q6) (As := [.long q5.1, .int p4]) (rest := []) (Wd := mw_Y k0 k_g cB_g) (wr := []) ⟨hx, hb, hml, hown, hts⟩ (by rw [eq6]; exact mc_Y_gives l dC dI k0 k_g cB_g q5.2.1 q5.2.2.1 q5.2.2.2.1 q5.2.2.2.2.1 q5.2.2.2.2.2.1 q5.2.2.2.2.2.2.1 q5.2.2.2.2.2.2.2.1 q5.2.2.2.2.2.2.2.2 q5.1 p4 ((ms_two (xj_ge ey1 c2)).2.2) (by rw [eq5]; exact ms_cut_added)) (cwV 2 hts (gY_gives _) rfl rfl rfl (by decide +kernel) ⟨Nat.le_of_ble_eq_true rfl, Nat.le_of_ble_eq_true rfl⟩) hP hK hD hS hA [0, 1] [] [0] rfl (by decide) rfl (by decide) (by decide) rfl (va_recv hK hP (ci := 1) (q0 := 0) rfl rfl) rfl hl.1 rfl (Nat.le_of_ble_eq_true rfl) dY_sum_41 ⟨Nat.zero_le _, Nat.zero_le _⟩ (fun H9 locs9 hP hD hS => ?_)
    have hP : va_P (dC, dI) vwCl [(k0, .inr (1, [.ref k_g, .int q6.2.2.1, .int q6.2.2.2.1, .int q6.2.2.2.2.1, .int q6.2.2.2.2.2.1, .long q6.2.2.2.2.2.2.1, .int q6.2.2.2.2.2.2.2.1, .int q6.2.2.2.2.2.2.2.2])), (k_g, .inl (cB_g, 8, .inr (.inl q6.2.1)))] _ := hP
    have hD : va_D A [(k0, .inr (1, [.ref k_g, .int q6.2.2.1, .int q6.2.2.2.1, .int q6.2.2.2.2.1, .int q6.2.2.2.2.2.1, .long q6.2.2.2.2.2.2.1, .int q6.2.2.2.2.2.2.2.1, .int q6.2.2.2.2.2.2.2.2])), (k_g, .inl (cB_g, 8, .inr (.inl q6.2.1)))] := hD
    exact W.iret (v := q6.1) hx hb hr (fun t ht hW => ⟨⟨_, (q6.2.1, q6.2.2.1, q6.2.2.2.1, q6.2.2.2.2.1, q6.2.2.2.2.2.1, q6.2.2.2.2.2.2.1, q6.2.2.2.2.2.2.2.1, q6.2.2.2.2.2.2.2.2), rfl, hF.symm, by rw [ht]; exact hP, hD⟩, hS.F ht⟩) hS.2.2 dY_sum_44
  · replace hF := xj_f hF c2
    refine lv_iload hx hb dY_sum_16 (lv_at hl 0 rfl) ?_
    refine lv_goto (tgt := 44) hx hb dY_sum_18 (by decide) ?_
    exact W.iret (v := y1) hx hb hr (fun t ht hW => ⟨⟨_, (g, ak, il, mi, xe, bi, fa, cu), rfl, hF.symm, by rw [ht]; exact hP, hD⟩, hS.F ht⟩) hS.2.2 dY_sum_44
def mf_Y_less (g : Nat → Int64) (ak : Int32) (il : Int32) (mi : Int32) (xe : Int32) (bi : Int64) (fa : Int32) (cu : Int32) (p1 : Int32) (p2 : Int32) (p3 : Int32) (p4 : Int32) : Int32 × (Nat → Int64) × Int32 × Int32 × Int32 × Int32 × Int64 × Int32 × Int32 := (xj_bnd (mf_Y_two g ak il mi xe bi fa cu p1 p2 p3 p4) (fun y1 => (if 0 ≤ y1 then (xj_bnd (mf_Y_in g ak il mi xe bi fa cu p1 p3) (fun y3 => (xj_bnd (mf_Y_in g ak il mi xe bi fa cu p1 p2) (fun y4 => (xj_bnd (mf_Y_other y4) (fun y5 => (xj_bnd (mf_Y_added g ak il mi xe bi fa cu p1 y3 y5) (fun q6 => (xj_bnd (mf_Y_gives q6.2.1 q6.2.2.1 q6.2.2.2.1 q6.2.2.2.2.1 q6.2.2.2.2.2.1 q6.2.2.2.2.2.2.1 q6.2.2.2.2.2.2.2.1 q6.2.2.2.2.2.2.2.2 q6.1 p4) (fun q7 => (q7.1, (q7.2.1, q7.2.2.1, q7.2.2.2.1, q7.2.2.2.2.1, q7.2.2.2.2.2.1, q7.2.2.2.2.2.2.1, q7.2.2.2.2.2.2.2.1, q7.2.2.2.2.2.2.2.2)))))))))))) else (y1, (g, ak, il, mi, xe, bi, fa, cu)))))
set_option maxHeartbeats 4000000 in
set_option maxRecDepth 100000 in
theorem mc_Y_less (l : Launch) (dC : Nat → ClassId) (dI : Nat → Nat → Nat) (k0 k_g : Nat) (cB_g : ClassId) (g : Nat → Int64) (ak : Int32) (il : Int32) (mi : Int32) (xe : Int32) (bi : Int64) (fa : Int32) (cu : Int32) (p1 : Int32) (p2 : Int32) (p3 : Int32) (p4 : Int32) : xj_Oi l (dC, dI) vwCl [(cB_g, .long)] (mw_Y k0 k_g cB_g) yY_less wsY_less ({ frames := 3, cells := 0, slots := 0, locals := 101 }) [.ref k0, .int p1, .int p2, .int p3, .int p4] (g, ak, il, mi, xe, bi, fa, cu) (mf_Y_less g ak il mi xe bi fa cu p1 p2 p3 p4) := by
  intro sz
  refine Met.ofW (cc := cY_less) (maxL := 6) (ret := (some .int)) (by decide) rfl ?_
  intro p e s m args below meth c s₁ B hml hv
  obtain ⟨rfl, hsz, hP, hK, hD0⟩ := hv
  have hx := B.exec
  have hb := B.bytes
  have hr := B.returns
  have hts := atoms_spec (ws := wsY_less) B.pre
  have hown : s.vm.findClass RX1 = some m.cls := findClass_of_methodNamed B.named
  have hlocks := B.notSynchronized
  subst hsz
  have hD := hD0.self (sz := s.heap.size)
  generalize hAe : va_A (mw_Y k0 k_g cB_g (g, ak, il, mi, xe, bi, fa, cu)) s.heap.size = A at hD ⊢
  have hA : ∀ q : Nat, s.heap.size ≤ q → A q := fun q h => by rw [← hAe]; exact Or.inr h
  have hS : va_S A s.heap s.heap [] := va_S.rf
  have hP : va_P (dC, dI) vwCl [(k0, .inr (1, [.ref k_g, .int ak, .int il, .int mi, .int xe, .long bi, .int fa, .int cu])), (k_g, .inl (cB_g, 8, .inr (.inl g)))] s.heap := hP
  have hD : va_D A [(k0, .inr (1, [.ref k_g, .int ak, .int il, .int mi, .int xe, .long bi, .int fa, .int cu])), (k_g, .inl (cB_g, 8, .inr (.inl g)))] := hD
  generalize hT : mf_Y_less g ak il mi xe bi fa cu p1 p2 p3 p4 = T
  have hF := hT.symm
  unfold mf_Y_less at hF
  have hl := lv_entry ([.ref k0, .int p1, .int p2, .int p3, .int p4]) (n := 6) (Nat.le_of_ble_eq_true rfl)
  rw [lg_entry_eq]
  generalize (lg_sl ([.ref k0, .int p1, .int p2, .int p3, .int p4]) ++ List.replicate (6 - (lg_sl ([.ref k0, .int p1, .int p2, .int p3, .int p4])).length) Slot.unset).toArray = ls at hl ⊢
  have hl : lv_has ls 6 [(0, .ref k0), (1, .int p1), (2, .int p2), (3, .int p3), (4, .int p4)] := hl
  refine lv_aload_n hx hb dY_less_0 rfl (lv_at hl 0 rfl) ?_
  refine lv_iload_n hx hb dY_less_1 rfl (lv_at hl 1 rfl) ?_
  refine lv_iload_n hx hb dY_less_2 rfl (lv_at hl 2 rfl) ?_
  refine lv_iload_n hx hb dY_less_3 rfl (lv_at hl 3 rfl) ?_
  refine lv_iload hx hb dY_less_4 (lv_at hl 4 rfl) ?_
  refine xj_vi (As := [.int p1, .int p2, .int p3, .int p4]) (rest := []) (Wd := mw_Y k0 k_g cB_g) (wr := []) ⟨hx, hb, hml, hown, hts⟩ (mc_Y_two l dC dI k0 k_g cB_g g ak il mi xe bi fa cu p1 p2 p3 p4) (cwV 4 hts (gY_two _) rfl rfl rfl (by decide +kernel) ⟨Nat.le_of_ble_eq_true rfl, Nat.le_of_ble_eq_true rfl⟩) hP hK hD hS hA [0, 1] [] [0] rfl (by decide) rfl (by decide) (by decide) rfl (va_recv hK hP (ci := 1) (q0 := 0) rfl rfl) rfl hl.1 rfl (Nat.le_of_ble_eq_true rfl) dY_less_6 ⟨Nat.zero_le _, Nat.zero_le _⟩ (fun H9 locs9 hP hD hS => ?_)
  have hP : va_P (dC, dI) vwCl [(k0, .inr (1, [.ref k_g, .int ak, .int il, .int mi, .int xe, .long bi, .int fa, .int cu])), (k_g, .inl (cB_g, 8, .inr (.inl g)))] _ := hP
  have hD : va_D A [(k0, .inr (1, [.ref k_g, .int ak, .int il, .int mi, .int xe, .long bi, .int fa, .int cu])), (k_g, .inl (cB_g, 8, .inr (.inl g)))] := hD
  refine lv_topi (fun y1 ey1 => ?_)
  replace hF := xj_bz hF ey1
  refine lv_istore (lv' := [(5, .int y1), (0, .ref k0), (1, .int p1), (2, .int p2), (3, .int p3), (4, .int p4)]) hx hb dY_less_9 hl (by decide) rfl (fun ls hl => ?_)
  refine lv_iload hx hb dY_less_11 (lv_at hl 0 rfl) ?_
  refine lv_if_ge (tgt := 21) hx hb dY_less_13 (by decide) (fun c2 => ?_) (fun c2 => ?_)
  · replace hF := xj_t hF c2
    refine lv_aload_n hx hb dY_less_21 rfl (lv_at hl 1 rfl) ?_
    refine lv_aload_n hx hb dY_less_22 rfl (lv_at hl 1 rfl) ?_
    refine lv_iload_n hx hb dY_less_23 rfl (lv_at hl 2 rfl) ?_
    refine lv_aload_n hx hb dY_less_24 rfl (lv_at hl 1 rfl) ?_
    refine lv_iload_n hx hb dY_less_25 rfl (lv_at hl 2 rfl) ?_
    refine lv_iload_n hx hb dY_less_26 rfl (lv_at hl 4 rfl) ?_
    refine xj_vl (As := [.int p1, .int p3]) (rest := [.int p1, .ref k0, .ref k0]) (Wd := mw_Y k0 k_g cB_g) (wr := []) ⟨hx, hb, hml, hown, hts⟩ (mc_Y_in l dC dI k0 k_g cB_g g ak il mi xe bi fa cu p1 p3 ((ms_two (xj_ge ey1 c2)).2.1)) (cwV 2 hts (gY_in _) rfl rfl rfl (by decide +kernel) ⟨Nat.le_of_ble_eq_true rfl, Nat.le_of_ble_eq_true rfl⟩) hP hK hD hS hA [0, 1] [] [0] rfl (by decide) rfl (by decide) (by decide) rfl (va_recv hK hP (ci := 1) (q0 := 0) rfl rfl) rfl hl.1 rfl (Nat.le_of_ble_eq_true rfl) dY_less_27 ⟨Nat.zero_le _, Nat.zero_le _⟩ (fun H9 locs9 hP hD hS => ?_)
    have hP : va_P (dC, dI) vwCl [(k0, .inr (1, [.ref k_g, .int ak, .int il, .int mi, .int xe, .long bi, .int fa, .int cu])), (k_g, .inl (cB_g, 8, .inr (.inl g)))] _ := hP
    have hD : va_D A [(k0, .inr (1, [.ref k_g, .int ak, .int il, .int mi, .int xe, .long bi, .int fa, .int cu])), (k_g, .inl (cB_g, 8, .inr (.inl g)))] := hD
    refine lv_topl (fun y3 ey3 => ?_)
    replace hF := xj_bz hF ey3
    refine lv_aload_n hx hb dY_less_30 rfl (lv_at hl 1 rfl) ?_
    refine lv_iload_n hx hb dY_less_31 rfl (lv_at hl 2 rfl) ?_
    refine lv_iload_n hx hb dY_less_32 rfl (lv_at hl 3 rfl) ?_
    refine xj_vl (As := [.int p1, .int p2]) (rest := [.long y3, .int p1, .ref k0, .ref k0]) (Wd := mw_Y k0 k_g cB_g) (wr := []) ⟨hx, hb, hml, hown, hts⟩ (mc_Y_in l dC dI k0 k_g cB_g g ak il mi xe bi fa cu p1 p2 ((ms_two (xj_ge ey1 c2)).1)) (cwV 2 hts (gY_in _) rfl rfl rfl (by decide +kernel) ⟨Nat.le_of_ble_eq_true rfl, Nat.le_of_ble_eq_true rfl⟩) hP hK hD hS hA [0, 1] [] [0] rfl (by decide) rfl (by decide) (by decide) rfl (va_recv hK hP (ci := 1) (q0 := 0) rfl rfl) rfl hl.1 rfl (Nat.le_of_ble_eq_true rfl) dY_less_33 ⟨Nat.zero_le _, Nat.zero_le _⟩ (fun H9 locs9 hP hD hS => ?_)
    have hP : va_P (dC, dI) vwCl [(k0, .inr (1, [.ref k_g, .int ak, .int il, .int mi, .int xe, .long bi, .int fa, .int cu])), (k_g, .inl (cB_g, 8, .inr (.inl g)))] _ := hP
    have hD : va_D A [(k0, .inr (1, [.ref k_g, .int ak, .int il, .int mi, .int xe, .long bi, .int fa, .int cu])), (k_g, .inl (cB_g, 8, .inr (.inl g)))] := hD
    refine lv_topl (fun y4 ey4 => ?_)
    replace hF := xj_bz hF ey4
    refine xj_sl (As := [.long y4]) (rest := [.long y3, .int p1, .ref k0, .ref k0]) ⟨hx, hb, hml, hown, hts⟩ (mc_Y_other l y4) (va_cwS 1 hts (gY_other _) rfl rfl rfl (by decide +kernel) ⟨Nat.le_of_ble_eq_true rfl, Nat.le_of_ble_eq_true rfl⟩) hS hA rfl hl.1 rfl (Nat.le_of_ble_eq_true rfl) dY_less_36 ⟨Nat.zero_le _, Nat.zero_le _⟩ (fun H9 locs9 hk9 hS => ?_)
    have hP := xj_kept hP hk9
    refine lv_topl (fun y5 ey5 => ?_)
    replace hF := xj_bz hF ey5
    obtain ⟨q6, eq6⟩ : ∃ z : Int64 × (Nat → Int64) × Int32 × Int32 × Int32 × Int32 × Int64 × Int32 × Int32, z = (mf_Y_added g ak il mi xe bi fa cu p1 y3 y5) := ⟨_, rfl⟩
    replace hF := xj_bz hF eq6
    refine xj_vl (r := q6) (As := [.int p1, .long y3, .long y5]) (rest := [.ref k0]) (Wd := mw_Y k0 k_g cB_g) (wr := []) ⟨hx, hb, hml, hown, hts⟩ (by rw [eq6]; exact mc_Y_added l dC dI k0 k_g cB_g g ak il mi xe bi fa cu p1 y3 y5) (cwV 3 hts (gY_added _) rfl rfl rfl (by decide +kernel) ⟨Nat.le_of_ble_eq_true rfl, Nat.le_of_ble_eq_true rfl⟩) hP hK hD hS hA [0, 1] [] [0] rfl (by decide) rfl (by decide) (by decide) rfl (va_recv hK hP (ci := 1) (q0 := 0) rfl rfl) rfl hl.1 rfl (Nat.le_of_ble_eq_true rfl) dY_less_39 ⟨Nat.zero_le _, Nat.zero_le _⟩ (fun H9 locs9 hP hD hS => ?_)
    have hP : va_P (dC, dI) vwCl [(k0, .inr (1, [.ref k_g, .int q6.2.2.1, .int q6.2.2.2.1, .int q6.2.2.2.2.1, .int q6.2.2.2.2.2.1, .long q6.2.2.2.2.2.2.1, .int q6.2.2.2.2.2.2.2.1, .int q6.2.2.2.2.2.2.2.2])), (k_g, .inl (cB_g, 8, .inr (.inl q6.2.1)))] _ := hP
    have hD : va_D A [(k0, .inr (1, [.ref k_g, .int q6.2.2.1, .int q6.2.2.2.1, .int q6.2.2.2.2.1, .int q6.2.2.2.2.2.1, .long q6.2.2.2.2.2.2.1, .int q6.2.2.2.2.2.2.2.1, .int q6.2.2.2.2.2.2.2.2])), (k_g, .inl (cB_g, 8, .inr (.inl q6.2.1)))] := hD
    refine lv_iload hx hb dY_less_42 (lv_at hl 5 rfl) ?_
    obtain ⟨q7, eq7⟩ : ∃ z : Int32 × (Nat → Int64) × Int32 × Int32 × Int32 × Int32 × Int64 × Int32 × Int32, z = (mf_Y_gives q6.2.1 q6.2.2.1 q6.2.2.2.1 q6.2.2.2.2.1 q6.2.2.2.2.2.1 q6.2.2.2.2.2.2.1 q6.2.2.2.2.2.2.2.1 q6.2.2.2.2.2.2.2.2 q6.1 p4) := ⟨_, rfl⟩
    replace hF := xj_bz hF eq7
    refine xj_vi (r := q7) (As := [.long q6.1, .int p4]) (rest := []) (Wd := mw_Y k0 k_g cB_g) (wr := []) ⟨hx, hb, hml, hown, hts⟩ (by rw [eq7]; exact mc_Y_gives l dC dI k0 k_g cB_g q6.2.1 q6.2.2.1 q6.2.2.2.1 q6.2.2.2.2.1 q6.2.2.2.2.2.1 q6.2.2.2.2.2.2.1 q6.2.2.2.2.2.2.2.1 q6.2.2.2.2.2.2.2.2 q6.1 p4 ((ms_two (xj_ge ey1 c2)).2.2) (by rw [eq6]; exact ms_cut_added)) (cwV 2 hts (gY_gives _) rfl rfl rfl (by decide +kernel) ⟨Nat.le_of_ble_eq_true rfl, Nat.le_of_ble_eq_true rfl⟩) hP hK hD hS hA [0, 1] [] [0] rfl (by decide) rfl (by decide) (by decide) rfl (va_recv hK hP (ci := 1) (q0 := 0) rfl rfl) rfl hl.1 rfl (Nat.le_of_ble_eq_true rfl) dY_less_44 ⟨Nat.zero_le _, Nat.zero_le _⟩ (fun H9 locs9 hP hD hS => ?_)
    have hP : va_P (dC, dI) vwCl [(k0, .inr (1, [.ref k_g, .int q7.2.2.1, .int q7.2.2.2.1, .int q7.2.2.2.2.1, .int q7.2.2.2.2.2.1, .long q7.2.2.2.2.2.2.1, .int q7.2.2.2.2.2.2.2.1, .int q7.2.2.2.2.2.2.2.2])), (k_g, .inl (cB_g, 8, .inr (.inl q7.2.1)))] _ := hP
    have hD : va_D A [(k0, .inr (1, [.ref k_g, .int q7.2.2.1, .int q7.2.2.2.1, .int q7.2.2.2.2.1, .int q7.2.2.2.2.2.1, .long q7.2.2.2.2.2.2.1, .int q7.2.2.2.2.2.2.2.1, .int q7.2.2.2.2.2.2.2.2])), (k_g, .inl (cB_g, 8, .inr (.inl q7.2.1)))] := hD
    exact W.iret (v := q7.1) hx hb hr (fun t ht hW => ⟨⟨_, (q7.2.1, q7.2.2.1, q7.2.2.2.1, q7.2.2.2.2.1, q7.2.2.2.2.2.1, q7.2.2.2.2.2.2.1, q7.2.2.2.2.2.2.2.1, q7.2.2.2.2.2.2.2.2), rfl, hF.symm, by rw [ht]; exact hP, hD⟩, hS.F ht⟩) hS.2.2 dY_less_47
  · replace hF := xj_f hF c2
    refine lv_iload hx hb dY_less_16 (lv_at hl 0 rfl) ?_
    refine lv_goto (tgt := 47) hx hb dY_less_18 (by decide) ?_
    exact W.iret (v := y1) hx hb hr (fun t ht hW => ⟨⟨_, (g, ak, il, mi, xe, bi, fa, cu), rfl, hF.symm, by rw [ht]; exact hP, hD⟩, hS.F ht⟩) hS.2.2 dY_less_47
def mf_Y_negative (g : Nat → Int64) (ak : Int32) (il : Int32) (mi : Int32) (xe : Int32) (bi : Int64) (fa : Int32) (cu : Int32) (p1 : Int32) (p2 : Int32) (p3 : Int32) : Int32 × (Nat → Int64) × Int32 × Int32 × Int32 × Int32 × Int64 × Int32 × Int32 := (xj_bnd (mf_Y_one g ak il mi xe bi fa cu p1 p2 p3) (fun y1 => (if 0 ≤ y1 then (xj_bnd (mf_Y_in g ak il mi xe bi (0 : Int32) (0 : Int32) p1 p2) (fun y3 => (xj_bnd (mf_Y_other y3) (fun y4 => (xj_bnd (mf_Y_gives g ak il mi xe bi (0 : Int32) (0 : Int32) y4 p3) (fun q5 => (q5.1, (q5.2.1, q5.2.2.1, q5.2.2.2.1, q5.2.2.2.2.1, q5.2.2.2.2.2.1, q5.2.2.2.2.2.2.1, q5.2.2.2.2.2.2.2.1, q5.2.2.2.2.2.2.2.2)))))))) else (y1, (g, ak, il, mi, xe, bi, fa, cu)))))
set_option maxHeartbeats 4000000 in
set_option maxRecDepth 100000 in
theorem mc_Y_negative (l : Launch) (dC : Nat → ClassId) (dI : Nat → Nat → Nat) (k0 k_g : Nat) (cB_g : ClassId) (g : Nat → Int64) (ak : Int32) (il : Int32) (mi : Int32) (xe : Int32) (bi : Int64) (fa : Int32) (cu : Int32) (p1 : Int32) (p2 : Int32) (p3 : Int32) : xj_Oi l (dC, dI) vwCl [(cB_g, .long)] (mw_Y k0 k_g cB_g) yY_negative wsY_negative ({ frames := 3, cells := 0, slots := 0, locals := 65 }) [.ref k0, .int p1, .int p2, .int p3] (g, ak, il, mi, xe, bi, fa, cu) (mf_Y_negative g ak il mi xe bi fa cu p1 p2 p3) := by
  intro sz
  refine Met.ofW (cc := cY_negative) (maxL := 5) (ret := (some .int)) (by decide) rfl ?_
  intro p e s m args below meth c s₁ B hml hv
  obtain ⟨rfl, hsz, hP, hK, hD0⟩ := hv
  have hx := B.exec
  have hb := B.bytes
  have hr := B.returns
  have hts := atoms_spec (ws := wsY_negative) B.pre
  have hown : s.vm.findClass RX1 = some m.cls := findClass_of_methodNamed B.named
  have hlocks := B.notSynchronized
  subst hsz
  have hD := hD0.self (sz := s.heap.size)
  generalize hAe : va_A (mw_Y k0 k_g cB_g (g, ak, il, mi, xe, bi, fa, cu)) s.heap.size = A at hD ⊢
  have hA : ∀ q : Nat, s.heap.size ≤ q → A q := fun q h => by rw [← hAe]; exact Or.inr h
  have hS : va_S A s.heap s.heap [] := va_S.rf
  have hP : va_P (dC, dI) vwCl [(k0, .inr (1, [.ref k_g, .int ak, .int il, .int mi, .int xe, .long bi, .int fa, .int cu])), (k_g, .inl (cB_g, 8, .inr (.inl g)))] s.heap := hP
  have hD : va_D A [(k0, .inr (1, [.ref k_g, .int ak, .int il, .int mi, .int xe, .long bi, .int fa, .int cu])), (k_g, .inl (cB_g, 8, .inr (.inl g)))] := hD
  generalize hT : mf_Y_negative g ak il mi xe bi fa cu p1 p2 p3 = T
  have hF := hT.symm
  unfold mf_Y_negative at hF
  have hl := lv_entry ([.ref k0, .int p1, .int p2, .int p3]) (n := 5) (Nat.le_of_ble_eq_true rfl)
  rw [lg_entry_eq]
  generalize (lg_sl ([.ref k0, .int p1, .int p2, .int p3]) ++ List.replicate (5 - (lg_sl ([.ref k0, .int p1, .int p2, .int p3])).length) Slot.unset).toArray = ls at hl ⊢
  have hl : lv_has ls 5 [(0, .ref k0), (1, .int p1), (2, .int p2), (3, .int p3)] := hl
  refine lv_aload_n hx hb dY_negative_0 rfl (lv_at hl 0 rfl) ?_
  refine lv_iload_n hx hb dY_negative_1 rfl (lv_at hl 1 rfl) ?_
  refine lv_iload_n hx hb dY_negative_2 rfl (lv_at hl 2 rfl) ?_
  refine lv_iload_n hx hb dY_negative_3 rfl (lv_at hl 3 rfl) ?_
  refine xj_vi (As := [.int p1, .int p2, .int p3]) (rest := []) (Wd := mw_Y k0 k_g cB_g) (wr := []) ⟨hx, hb, hml, hown, hts⟩ (mc_Y_one l dC dI k0 k_g cB_g g ak il mi xe bi fa cu p1 p2 p3) (cwV 3 hts (gY_one _) rfl rfl rfl (by decide +kernel) ⟨Nat.le_of_ble_eq_true rfl, Nat.le_of_ble_eq_true rfl⟩) hP hK hD hS hA [0, 1] [] [0] rfl (by decide) rfl (by decide) (by decide) rfl (va_recv hK hP (ci := 1) (q0 := 0) rfl rfl) rfl hl.1 rfl (Nat.le_of_ble_eq_true rfl) dY_negative_4 ⟨Nat.zero_le _, Nat.zero_le _⟩ (fun H9 locs9 hP hD hS => ?_)
  have hP : va_P (dC, dI) vwCl [(k0, .inr (1, [.ref k_g, .int ak, .int il, .int mi, .int xe, .long bi, .int fa, .int cu])), (k_g, .inl (cB_g, 8, .inr (.inl g)))] _ := hP
  have hD : va_D A [(k0, .inr (1, [.ref k_g, .int ak, .int il, .int mi, .int xe, .long bi, .int fa, .int cu])), (k_g, .inl (cB_g, 8, .inr (.inl g)))] := hD
  refine lv_topi (fun y1 ey1 => ?_)
  replace hF := xj_bz hF ey1
  refine lv_istore (lv' := [(4, .int y1), (0, .ref k0), (1, .int p1), (2, .int p2), (3, .int p3)]) hx hb dY_negative_7 hl (by decide) rfl (fun ls hl => ?_)
  refine lv_iload hx hb dY_negative_9 (lv_at hl 0 rfl) ?_
  refine lv_if_ge (tgt := 17) hx hb dY_negative_11 (by decide) (fun c2 => ?_) (fun c2 => ?_)
  · replace hF := xj_t hF c2
    refine lv_aload_n hx hb dY_negative_17 rfl (lv_at hl 1 rfl) ?_
    refine lv_iconst (v := (0 : Int32)) hx hb dY_negative_18 (by decide) ?_
    refine va_put (D := (dC, dI)) (ci := 1) (v := .int (0 : Int32)) (ty := .int) (C := RX1) (T := TX1) (N := 8) hx hb hts (fun w9 h9 => List.mem_cons_of_mem _ (inY w9 h9)) tyX1 tyX1_ok nmX1 hown hK hP hD hS 0 rfl rfl 6 (by decide) (hts (.fieldLink RX1 48 "ExactFloatsModel" "fault" "I") (List.mem_cons_of_mem _ mY_44)) (fun _ h9 => h9) rfl (by decide +kernel) rfl rfl (Nat.le_of_ble_eq_true rfl) dY_negative_19 (fun H9 locs9 hP hD hS => ?_)
    have hP : va_P (dC, dI) vwCl [(k0, .inr (1, [.ref k_g, .int ak, .int il, .int mi, .int xe, .long bi, .int (0 : Int32), .int cu])), (k_g, .inl (cB_g, 8, .inr (.inl g)))] _ := hP
    have hD : va_D A [(k0, .inr (1, [.ref k_g, .int ak, .int il, .int mi, .int xe, .long bi, .int (0 : Int32), .int cu])), (k_g, .inl (cB_g, 8, .inr (.inl g)))] := hD
    refine lv_aload_n hx hb dY_negative_22 rfl (lv_at hl 1 rfl) ?_
    refine lv_iconst (v := (0 : Int32)) hx hb dY_negative_23 (by decide) ?_
    refine va_put (D := (dC, dI)) (ci := 1) (v := .int (0 : Int32)) (ty := .boolean) (C := RX1) (T := TX1) (N := 8) hx hb hts (fun w9 h9 => List.mem_cons_of_mem _ (inY w9 h9)) tyX1 tyX1_ok nmX1 hown hK hP hD hS 0 rfl rfl 7 (by decide) (hts (.fieldLink RX1 51 "ExactFloatsModel" "cut" "Z") (List.mem_cons_of_mem _ mY_45)) (fun _ h9 => h9) rfl (by decide +kernel) rfl rfl (Nat.le_of_ble_eq_true rfl) dY_negative_24 (fun H9 locs9 hP hD hS => ?_)
    have hP : va_P (dC, dI) vwCl [(k0, .inr (1, [.ref k_g, .int ak, .int il, .int mi, .int xe, .long bi, .int (0 : Int32), .int (0 : Int32)])), (k_g, .inl (cB_g, 8, .inr (.inl g)))] _ := hP
    have hD : va_D A [(k0, .inr (1, [.ref k_g, .int ak, .int il, .int mi, .int xe, .long bi, .int (0 : Int32), .int (0 : Int32)])), (k_g, .inl (cB_g, 8, .inr (.inl g)))] := hD
    refine lv_aload_n hx hb dY_negative_27 rfl (lv_at hl 1 rfl) ?_
    refine lv_aload_n hx hb dY_negative_28 rfl (lv_at hl 1 rfl) ?_
    refine lv_iload_n hx hb dY_negative_29 rfl (lv_at hl 2 rfl) ?_
    refine lv_iload_n hx hb dY_negative_30 rfl (lv_at hl 3 rfl) ?_
    refine xj_vl (As := [.int p1, .int p2]) (rest := [.ref k0]) (Wd := mw_Y k0 k_g cB_g) (wr := []) ⟨hx, hb, hml, hown, hts⟩ (mc_Y_in l dC dI k0 k_g cB_g g ak il mi xe bi (0 : Int32) (0 : Int32) p1 p2 ((ms_one (xj_ge ey1 c2)).1)) (cwV 2 hts (gY_in _) rfl rfl rfl (by decide +kernel) ⟨Nat.le_of_ble_eq_true rfl, Nat.le_of_ble_eq_true rfl⟩) hP hK hD hS hA [0, 1] [] [0] rfl (by decide) rfl (by decide) (by decide) rfl (va_recv hK hP (ci := 1) (q0 := 0) rfl rfl) rfl hl.1 rfl (Nat.le_of_ble_eq_true rfl) dY_negative_31 ⟨Nat.zero_le _, Nat.zero_le _⟩ (fun H9 locs9 hP hD hS => ?_)
    have hP : va_P (dC, dI) vwCl [(k0, .inr (1, [.ref k_g, .int ak, .int il, .int mi, .int xe, .long bi, .int (0 : Int32), .int (0 : Int32)])), (k_g, .inl (cB_g, 8, .inr (.inl g)))] _ := hP
    have hD : va_D A [(k0, .inr (1, [.ref k_g, .int ak, .int il, .int mi, .int xe, .long bi, .int (0 : Int32), .int (0 : Int32)])), (k_g, .inl (cB_g, 8, .inr (.inl g)))] := hD
    refine lv_topl (fun y3 ey3 => ?_)
    replace hF := xj_bz hF ey3
    refine xj_sl (As := [.long y3]) (rest := [.ref k0]) ⟨hx, hb, hml, hown, hts⟩ (mc_Y_other l y3) (va_cwS 1 hts (gY_other _) rfl rfl rfl (by decide +kernel) ⟨Nat.le_of_ble_eq_true rfl, Nat.le_of_ble_eq_true rfl⟩) hS hA rfl hl.1 rfl (Nat.le_of_ble_eq_true rfl) dY_negative_34 ⟨Nat.zero_le _, Nat.zero_le _⟩ (fun H9 locs9 hk9 hS => ?_)
    have hP := xj_kept hP hk9
    refine lv_topl (fun y4 ey4 => ?_)
    replace hF := xj_bz hF ey4
    refine lv_iload_n hx hb dY_negative_37 rfl (lv_at hl 4 rfl) ?_
    obtain ⟨q5, eq5⟩ : ∃ z : Int32 × (Nat → Int64) × Int32 × Int32 × Int32 × Int32 × Int64 × Int32 × Int32, z = (mf_Y_gives g ak il mi xe bi (0 : Int32) (0 : Int32) y4 p3) := ⟨_, rfl⟩
    replace hF := xj_bz hF eq5
    refine xj_vi (r := q5) (As := [.long y4, .int p3]) (rest := []) (Wd := mw_Y k0 k_g cB_g) (wr := []) ⟨hx, hb, hml, hown, hts⟩ (by rw [eq5]; exact mc_Y_gives l dC dI k0 k_g cB_g g ak il mi xe bi (0 : Int32) (0 : Int32) y4 p3 ((ms_one (xj_ge ey1 c2)).2) (Or.inl rfl)) (cwV 2 hts (gY_gives _) rfl rfl rfl (by decide +kernel) ⟨Nat.le_of_ble_eq_true rfl, Nat.le_of_ble_eq_true rfl⟩) hP hK hD hS hA [0, 1] [] [0] rfl (by decide) rfl (by decide) (by decide) rfl (va_recv hK hP (ci := 1) (q0 := 0) rfl rfl) rfl hl.1 rfl (Nat.le_of_ble_eq_true rfl) dY_negative_38 ⟨Nat.zero_le _, Nat.zero_le _⟩ (fun H9 locs9 hP hD hS => ?_)
    have hP : va_P (dC, dI) vwCl [(k0, .inr (1, [.ref k_g, .int q5.2.2.1, .int q5.2.2.2.1, .int q5.2.2.2.2.1, .int q5.2.2.2.2.2.1, .long q5.2.2.2.2.2.2.1, .int q5.2.2.2.2.2.2.2.1, .int q5.2.2.2.2.2.2.2.2])), (k_g, .inl (cB_g, 8, .inr (.inl q5.2.1)))] _ := hP
    have hD : va_D A [(k0, .inr (1, [.ref k_g, .int q5.2.2.1, .int q5.2.2.2.1, .int q5.2.2.2.2.1, .int q5.2.2.2.2.2.1, .long q5.2.2.2.2.2.2.1, .int q5.2.2.2.2.2.2.2.1, .int q5.2.2.2.2.2.2.2.2])), (k_g, .inl (cB_g, 8, .inr (.inl q5.2.1)))] := hD
    exact W.iret (v := q5.1) hx hb hr (fun t ht hW => ⟨⟨_, (q5.2.1, q5.2.2.1, q5.2.2.2.1, q5.2.2.2.2.1, q5.2.2.2.2.2.1, q5.2.2.2.2.2.2.1, q5.2.2.2.2.2.2.2.1, q5.2.2.2.2.2.2.2.2), rfl, hF.symm, by rw [ht]; exact hP, hD⟩, hS.F ht⟩) hS.2.2 dY_negative_41
  · replace hF := xj_f hF c2
    refine lv_iload hx hb dY_negative_14 (lv_at hl 0 rfl) ?_
    exact W.iret (v := y1) hx hb hr (fun t ht hW => ⟨⟨_, (g, ak, il, mi, xe, bi, fa, cu), rfl, hF.symm, by rw [ht]; exact hP, hD⟩, hS.F ht⟩) hS.2.2 dY_negative_16
def mf_Y_change (g : Nat → Int64) (ak : Int32) (il : Int32) (mi : Int32) (xe : Int32) (bi : Int64) (fa : Int32) (cu : Int32) (p1 : Int32) (p2 : Int32) (p3 : Int32) : Int32 × (Nat → Int64) × Int32 × Int32 × Int32 × Int32 × Int64 × Int32 × Int32 := (xj_bnd (mf_Y_one g ak il mi xe bi fa cu p1 p2 p3) (fun y1 => (if 0 ≤ y1 then (xj_bnd (mf_Y_in g ak il mi xe bi fa cu p1 p2) (fun y3 => (xj_bnd (mf_Y_take g ak il mi xe bi fa cu p1 y3) (fun q4 => (xj_bnd (mf_Y_rounds q4.1 q4.2.1 q4.2.2.1 q4.2.2.2.1 q4.2.2.2.2.1 q4.2.2.2.2.2.1 q4.2.2.2.2.2.2.1 q4.2.2.2.2.2.2.2 ((12 : Int32) - p1) q4.2.2.2.1 q4.2.2.2.2.2.1 ((q4.2.2.2.2.1 - (128 : Int32)) - (56 : Int32)) (0 : Int32)) (fun q5 => (xj_bnd (mf_Y_gives q5.2.1 q5.2.2.1 q5.2.2.2.1 q5.2.2.2.2.1 q5.2.2.2.2.2.1 q5.2.2.2.2.2.2.1 q5.2.2.2.2.2.2.2.1 q5.2.2.2.2.2.2.2.2 q5.1 p3) (fun q6 => (q6.1, (q6.2.1, q6.2.2.1, q6.2.2.2.1, q6.2.2.2.2.1, q6.2.2.2.2.2.1, q6.2.2.2.2.2.2.1, q6.2.2.2.2.2.2.2.1, q6.2.2.2.2.2.2.2.2)))))))))) else (y1, (g, ak, il, mi, xe, bi, fa, cu)))))
set_option maxHeartbeats 4000000 in
set_option maxRecDepth 100000 in
theorem mc_Y_change (l : Launch) (dC : Nat → ClassId) (dI : Nat → Nat → Nat) (k0 k_g : Nat) (cB_g : ClassId) (g : Nat → Int64) (ak : Int32) (il : Int32) (mi : Int32) (xe : Int32) (bi : Int64) (fa : Int32) (cu : Int32) (p1 : Int32) (p2 : Int32) (p3 : Int32) : xj_Oi l (dC, dI) vwCl [(cB_g, .long)] (mw_Y k0 k_g cB_g) yY_change wsY_change ({ frames := 3, cells := 0, slots := 0, locals := 65 }) [.ref k0, .int p1, .int p2, .int p3] (g, ak, il, mi, xe, bi, fa, cu) (mf_Y_change g ak il mi xe bi fa cu p1 p2 p3) := by
  intro sz
  refine Met.ofW (cc := cY_change) (maxL := 5) (ret := (some .int)) (by decide) rfl ?_
  intro p e s m args below meth c s₁ B hml hv
  obtain ⟨rfl, hsz, hP, hK, hD0⟩ := hv
  have hx := B.exec
  have hb := B.bytes
  have hr := B.returns
  have hts := atoms_spec (ws := wsY_change) B.pre
  have hown : s.vm.findClass RX1 = some m.cls := findClass_of_methodNamed B.named
  have hlocks := B.notSynchronized
  subst hsz
  have hD := hD0.self (sz := s.heap.size)
  generalize hAe : va_A (mw_Y k0 k_g cB_g (g, ak, il, mi, xe, bi, fa, cu)) s.heap.size = A at hD ⊢
  have hA : ∀ q : Nat, s.heap.size ≤ q → A q := fun q h => by rw [← hAe]; exact Or.inr h
  have hS : va_S A s.heap s.heap [] := va_S.rf
  have hP : va_P (dC, dI) vwCl [(k0, .inr (1, [.ref k_g, .int ak, .int il, .int mi, .int xe, .long bi, .int fa, .int cu])), (k_g, .inl (cB_g, 8, .inr (.inl g)))] s.heap := hP
  have hD : va_D A [(k0, .inr (1, [.ref k_g, .int ak, .int il, .int mi, .int xe, .long bi, .int fa, .int cu])), (k_g, .inl (cB_g, 8, .inr (.inl g)))] := hD
  generalize hT : mf_Y_change g ak il mi xe bi fa cu p1 p2 p3 = T
  have hF := hT.symm
  unfold mf_Y_change at hF
  have hl := lv_entry ([.ref k0, .int p1, .int p2, .int p3]) (n := 5) (Nat.le_of_ble_eq_true rfl)
  rw [lg_entry_eq]
  generalize (lg_sl ([.ref k0, .int p1, .int p2, .int p3]) ++ List.replicate (5 - (lg_sl ([.ref k0, .int p1, .int p2, .int p3])).length) Slot.unset).toArray = ls at hl ⊢
  have hl : lv_has ls 5 [(0, .ref k0), (1, .int p1), (2, .int p2), (3, .int p3)] := hl
  refine lv_aload_n hx hb dY_change_0 rfl (lv_at hl 0 rfl) ?_
  refine lv_iload_n hx hb dY_change_1 rfl (lv_at hl 1 rfl) ?_
  refine lv_iload_n hx hb dY_change_2 rfl (lv_at hl 2 rfl) ?_
  refine lv_iload_n hx hb dY_change_3 rfl (lv_at hl 3 rfl) ?_
  refine xj_vi (As := [.int p1, .int p2, .int p3]) (rest := []) (Wd := mw_Y k0 k_g cB_g) (wr := []) ⟨hx, hb, hml, hown, hts⟩ (mc_Y_one l dC dI k0 k_g cB_g g ak il mi xe bi fa cu p1 p2 p3) (cwV 3 hts (gY_one _) rfl rfl rfl (by decide +kernel) ⟨Nat.le_of_ble_eq_true rfl, Nat.le_of_ble_eq_true rfl⟩) hP hK hD hS hA [0, 1] [] [0] rfl (by decide) rfl (by decide) (by decide) rfl (va_recv hK hP (ci := 1) (q0 := 0) rfl rfl) rfl hl.1 rfl (Nat.le_of_ble_eq_true rfl) dY_change_4 ⟨Nat.zero_le _, Nat.zero_le _⟩ (fun H9 locs9 hP hD hS => ?_)
  have hP : va_P (dC, dI) vwCl [(k0, .inr (1, [.ref k_g, .int ak, .int il, .int mi, .int xe, .long bi, .int fa, .int cu])), (k_g, .inl (cB_g, 8, .inr (.inl g)))] _ := hP
  have hD : va_D A [(k0, .inr (1, [.ref k_g, .int ak, .int il, .int mi, .int xe, .long bi, .int fa, .int cu])), (k_g, .inl (cB_g, 8, .inr (.inl g)))] := hD
  refine lv_topi (fun y1 ey1 => ?_)
  replace hF := xj_bz hF ey1
  refine lv_istore (lv' := [(4, .int y1), (0, .ref k0), (1, .int p1), (2, .int p2), (3, .int p3)]) hx hb dY_change_7 hl (by decide) rfl (fun ls hl => ?_)
  refine lv_iload hx hb dY_change_9 (lv_at hl 0 rfl) ?_
  refine lv_if_ge (tgt := 17) hx hb dY_change_11 (by decide) (fun c2 => ?_) (fun c2 => ?_)
  · replace hF := xj_t hF c2
    refine lv_aload_n hx hb dY_change_17 rfl (lv_at hl 1 rfl) ?_
    refine lv_iload_n hx hb dY_change_18 rfl (lv_at hl 2 rfl) ?_
    refine lv_aload_n hx hb dY_change_19 rfl (lv_at hl 1 rfl) ?_
    refine lv_iload_n hx hb dY_change_20 rfl (lv_at hl 2 rfl) ?_
    refine lv_iload_n hx hb dY_change_21 rfl (lv_at hl 3 rfl) ?_
    refine xj_vl (As := [.int p1, .int p2]) (rest := [.int p1, .ref k0]) (Wd := mw_Y k0 k_g cB_g) (wr := []) ⟨hx, hb, hml, hown, hts⟩ (mc_Y_in l dC dI k0 k_g cB_g g ak il mi xe bi fa cu p1 p2 ((ms_one (xj_ge ey1 c2)).1)) (cwV 2 hts (gY_in _) rfl rfl rfl (by decide +kernel) ⟨Nat.le_of_ble_eq_true rfl, Nat.le_of_ble_eq_true rfl⟩) hP hK hD hS hA [0, 1] [] [0] rfl (by decide) rfl (by decide) (by decide) rfl (va_recv hK hP (ci := 1) (q0 := 0) rfl rfl) rfl hl.1 rfl (Nat.le_of_ble_eq_true rfl) dY_change_22 ⟨Nat.zero_le _, Nat.zero_le _⟩ (fun H9 locs9 hP hD hS => ?_)
    have hP : va_P (dC, dI) vwCl [(k0, .inr (1, [.ref k_g, .int ak, .int il, .int mi, .int xe, .long bi, .int fa, .int cu])), (k_g, .inl (cB_g, 8, .inr (.inl g)))] _ := hP
    have hD : va_D A [(k0, .inr (1, [.ref k_g, .int ak, .int il, .int mi, .int xe, .long bi, .int fa, .int cu])), (k_g, .inl (cB_g, 8, .inr (.inl g)))] := hD
    refine lv_topl (fun y3 ey3 => ?_)
    replace hF := xj_bz hF ey3
    obtain ⟨q4, eq4⟩ : ∃ z : (Nat → Int64) × Int32 × Int32 × Int32 × Int32 × Int64 × Int32 × Int32, z = (mf_Y_take g ak il mi xe bi fa cu p1 y3) := ⟨_, rfl⟩
    replace hF := xj_bz hF eq4
    refine xj_vv (r := q4) (As := [.int p1, .long y3]) (rest := []) (Wd := mw_Y k0 k_g cB_g) (wr := []) ⟨hx, hb, hml, hown, hts⟩ (by rw [eq4]; exact mc_Y_take l dC dI k0 k_g cB_g g ak il mi xe bi fa cu p1 y3) (cwV 2 hts (gY_take _) rfl rfl rfl (by decide +kernel) ⟨Nat.le_of_ble_eq_true rfl, Nat.le_of_ble_eq_true rfl⟩) hP hK hD hS hA [0, 1] [] [0] rfl (by decide) rfl (by decide) (by decide) rfl (va_recv hK hP (ci := 1) (q0 := 0) rfl rfl) rfl hl.1 rfl (Nat.le_of_ble_eq_true rfl) dY_change_25 ⟨Nat.zero_le _, Nat.zero_le _⟩ (fun H9 locs9 hP hD hS => ?_)
    have hP : va_P (dC, dI) vwCl [(k0, .inr (1, [.ref k_g, .int q4.2.1, .int q4.2.2.1, .int q4.2.2.2.1, .int q4.2.2.2.2.1, .long q4.2.2.2.2.2.1, .int q4.2.2.2.2.2.2.1, .int q4.2.2.2.2.2.2.2])), (k_g, .inl (cB_g, 8, .inr (.inl q4.1)))] _ := hP
    have hD : va_D A [(k0, .inr (1, [.ref k_g, .int q4.2.1, .int q4.2.2.1, .int q4.2.2.2.1, .int q4.2.2.2.2.1, .long q4.2.2.2.2.2.1, .int q4.2.2.2.2.2.2.1, .int q4.2.2.2.2.2.2.2])), (k_g, .inl (cB_g, 8, .inr (.inl q4.1)))] := hD
    refine lv_aload_n hx hb dY_change_28 rfl (lv_at hl 1 rfl) ?_
    refine lv_aload_n hx hb dY_change_29 rfl (lv_at hl 1 rfl) ?_
    refine lv_bipush (v := (12 : Int32)) hx hb dY_change_30 (by decide) ?_
    refine lv_iload_n hx hb dY_change_32 rfl (lv_at hl 2 rfl) ?_
    refine lv_isub hx hb dY_change_33 ?_
    refine lv_aload_n hx hb dY_change_34 rfl (lv_at hl 1 rfl) ?_
    refine va_get (D := (dC, dI)) (ci := 1) (v := .int q4.2.2.2.1) (C := RX1) (T := TX1) (N := 8) hx hb hts (fun w9 h9 => List.mem_cons_of_mem _ (inY w9 h9)) hown hK hP 0 rfl rfl 3 (by decide) (hts (.fieldLink RX1 29 "ExactFloatsModel" "minus" "Z") (List.mem_cons_of_mem _ mY_37)) (fun _ h9 => h9) rfl dY_change_35 ?_
    refine lv_aload_n hx hb dY_change_38 rfl (lv_at hl 1 rfl) ?_
    refine va_get (D := (dC, dI)) (ci := 1) (v := .long q4.2.2.2.2.2.1) (C := RX1) (T := TX1) (N := 8) hx hb hts (fun w9 h9 => List.mem_cons_of_mem _ (inY w9 h9)) hown hK hP 0 rfl rfl 5 (by decide) (hts (.fieldLink RX1 44 "ExactFloatsModel" "bits" "J") (List.mem_cons_of_mem _ mY_43)) (fun _ h9 => h9) rfl dY_change_39 ?_
    refine lv_aload_n hx hb dY_change_42 rfl (lv_at hl 1 rfl) ?_
    refine va_get (D := (dC, dI)) (ci := 1) (v := .int q4.2.2.2.2.1) (C := RX1) (T := TX1) (N := 8) hx hb hts (fun w9 h9 => List.mem_cons_of_mem _ (inY w9 h9)) hown hK hP 0 rfl rfl 4 (by decide) (hts (.fieldLink RX1 34 "ExactFloatsModel" "exponent" "I") (List.mem_cons_of_mem _ mY_39)) (fun _ h9 => h9) rfl dY_change_43 ?_
    refine lv_sipush (v := (128 : Int32)) hx hb dY_change_46 (by decide) ?_
    refine lv_isub hx hb dY_change_49 ?_
    refine lv_bipush (v := (56 : Int32)) hx hb dY_change_50 (by decide) ?_
    refine lv_isub hx hb dY_change_52 ?_
    refine lv_iconst (v := (0 : Int32)) hx hb dY_change_53 (by decide) ?_
    obtain ⟨q5, eq5⟩ : ∃ z : Int64 × (Nat → Int64) × Int32 × Int32 × Int32 × Int32 × Int64 × Int32 × Int32, z = (mf_Y_rounds q4.1 q4.2.1 q4.2.2.1 q4.2.2.2.1 q4.2.2.2.2.1 q4.2.2.2.2.2.1 q4.2.2.2.2.2.2.1 q4.2.2.2.2.2.2.2 ((12 : Int32) - p1) q4.2.2.2.1 q4.2.2.2.2.2.1 ((q4.2.2.2.2.1 - (128 : Int32)) - (56 : Int32)) (0 : Int32)) := ⟨_, rfl⟩
    replace hF := xj_bz hF eq5
    refine xj_vl (r := q5) (As := [.int ((12 : Int32) - p1), .int q4.2.2.2.1, .long q4.2.2.2.2.2.1, .int ((q4.2.2.2.2.1 - (128 : Int32)) - (56 : Int32)), .int (0 : Int32)]) (rest := [.ref k0]) (Wd := mw_Y k0 k_g cB_g) (wr := []) ⟨hx, hb, hml, hown, hts⟩ (by rw [eq5]; exact mc_Y_rounds l dC dI k0 k_g cB_g q4.1 q4.2.1 q4.2.2.1 q4.2.2.2.1 q4.2.2.2.2.1 q4.2.2.2.2.2.1 q4.2.2.2.2.2.2.1 q4.2.2.2.2.2.2.2 ((12 : Int32) - p1) q4.2.2.2.1 q4.2.2.2.2.2.1 ((q4.2.2.2.2.1 - (128 : Int32)) - (56 : Int32)) (0 : Int32) (Or.inl rfl)) (cwV 5 hts (gY_rounds _) rfl rfl rfl (by decide +kernel) ⟨Nat.le_of_ble_eq_true rfl, Nat.le_of_ble_eq_true rfl⟩) hP hK hD hS hA [0, 1] [] [0] rfl (by decide) rfl (by decide) (by decide) rfl (va_recv hK hP (ci := 1) (q0 := 0) rfl rfl) rfl hl.1 rfl (Nat.le_of_ble_eq_true rfl) dY_change_54 ⟨Nat.zero_le _, Nat.zero_le _⟩ (fun H9 locs9 hP hD hS => ?_)
    have hP : va_P (dC, dI) vwCl [(k0, .inr (1, [.ref k_g, .int q5.2.2.1, .int q5.2.2.2.1, .int q5.2.2.2.2.1, .int q5.2.2.2.2.2.1, .long q5.2.2.2.2.2.2.1, .int q5.2.2.2.2.2.2.2.1, .int q5.2.2.2.2.2.2.2.2])), (k_g, .inl (cB_g, 8, .inr (.inl q5.2.1)))] _ := hP
    have hD : va_D A [(k0, .inr (1, [.ref k_g, .int q5.2.2.1, .int q5.2.2.2.1, .int q5.2.2.2.2.1, .int q5.2.2.2.2.2.1, .long q5.2.2.2.2.2.2.1, .int q5.2.2.2.2.2.2.2.1, .int q5.2.2.2.2.2.2.2.2])), (k_g, .inl (cB_g, 8, .inr (.inl q5.2.1)))] := hD
    refine lv_iload_n hx hb dY_change_57 rfl (lv_at hl 4 rfl) ?_
    obtain ⟨q6, eq6⟩ : ∃ z : Int32 × (Nat → Int64) × Int32 × Int32 × Int32 × Int32 × Int64 × Int32 × Int32, z = (mf_Y_gives q5.2.1 q5.2.2.1 q5.2.2.2.1 q5.2.2.2.2.1 q5.2.2.2.2.2.1 q5.2.2.2.2.2.2.1 q5.2.2.2.2.2.2.2.1 q5.2.2.2.2.2.2.2.2 q5.1 p3) := ⟨_, rfl⟩
    replace hF := xj_bz hF eq6
    refine xj_vi (r := q6) (As := [.long q5.1, .int p3]) (rest := []) (Wd := mw_Y k0 k_g cB_g) (wr := []) ⟨hx, hb, hml, hown, hts⟩ (by rw [eq6]; exact mc_Y_gives l dC dI k0 k_g cB_g q5.2.1 q5.2.2.1 q5.2.2.2.1 q5.2.2.2.2.1 q5.2.2.2.2.2.1 q5.2.2.2.2.2.2.1 q5.2.2.2.2.2.2.2.1 q5.2.2.2.2.2.2.2.2 q5.1 p3 ((ms_one (xj_ge ey1 c2)).2) (by rw [eq5]; exact ms_cut_rounds (Or.inl rfl))) (cwV 2 hts (gY_gives _) rfl rfl rfl (by decide +kernel) ⟨Nat.le_of_ble_eq_true rfl, Nat.le_of_ble_eq_true rfl⟩) hP hK hD hS hA [0, 1] [] [0] rfl (by decide) rfl (by decide) (by decide) rfl (va_recv hK hP (ci := 1) (q0 := 0) rfl rfl) rfl hl.1 rfl (Nat.le_of_ble_eq_true rfl) dY_change_58 ⟨Nat.zero_le _, Nat.zero_le _⟩ (fun H9 locs9 hP hD hS => ?_)
    have hP : va_P (dC, dI) vwCl [(k0, .inr (1, [.ref k_g, .int q6.2.2.1, .int q6.2.2.2.1, .int q6.2.2.2.2.1, .int q6.2.2.2.2.2.1, .long q6.2.2.2.2.2.2.1, .int q6.2.2.2.2.2.2.2.1, .int q6.2.2.2.2.2.2.2.2])), (k_g, .inl (cB_g, 8, .inr (.inl q6.2.1)))] _ := hP
    have hD : va_D A [(k0, .inr (1, [.ref k_g, .int q6.2.2.1, .int q6.2.2.2.1, .int q6.2.2.2.2.1, .int q6.2.2.2.2.2.1, .long q6.2.2.2.2.2.2.1, .int q6.2.2.2.2.2.2.2.1, .int q6.2.2.2.2.2.2.2.2])), (k_g, .inl (cB_g, 8, .inr (.inl q6.2.1)))] := hD
    exact W.iret (v := q6.1) hx hb hr (fun t ht hW => ⟨⟨_, (q6.2.1, q6.2.2.1, q6.2.2.2.1, q6.2.2.2.2.1, q6.2.2.2.2.2.1, q6.2.2.2.2.2.2.1, q6.2.2.2.2.2.2.2.1, q6.2.2.2.2.2.2.2.2), rfl, hF.symm, by rw [ht]; exact hP, hD⟩, hS.F ht⟩) hS.2.2 dY_change_61
  · replace hF := xj_f hF c2
    refine lv_iload hx hb dY_change_14 (lv_at hl 0 rfl) ?_
    exact W.iret (v := y1) hx hb hr (fun t ht hW => ⟨⟨_, (g, ak, il, mi, xe, bi, fa, cu), rfl, hF.symm, by rw [ht]; exact hP, hD⟩, hS.F ht⟩) hS.2.2 dY_change_16
def mf_Y_number (g : Nat → Int64) (ak : Int32) (il : Int32) (mi : Int32) (xe : Int32) (bi : Int64) (fa : Int32) (cu : Int32) (p1 : Int32) (p2 : Int32) (p3 : Int32) : Int32 × (Nat → Int64) × Int32 × Int32 × Int32 × Int32 × Int64 × Int32 × Int32 := (xj_bnd (mf_Y_isSize p1) (fun y1 => (if y1 = 0 then ((-5 : Int32), (g, ak, il, mi, xe, bi, fa, cu)) else (xj_bnd (mf_Y_isRegister p3) (fun y3 => (if y3 = 0 then ((-5 : Int32), (g, ak, il, mi, xe, bi, fa, cu)) else (xj_bnd (if 0 ≤ p2 then (Int32.toInt64 p2) else (-(Int32.toInt64 p2))) (fun y6 => (xj_bnd (if 0 ≤ p2 then (0 : Int32) else (1 : Int32)) (fun y8 => (xj_bnd (mf_Y_rounds g ak il mi xe bi fa cu p1 y8 y6 (0 : Int32) (0 : Int32)) (fun q9 => (xj_bnd (mf_Y_gives q9.2.1 q9.2.2.1 q9.2.2.2.1 q9.2.2.2.2.1 q9.2.2.2.2.2.1 q9.2.2.2.2.2.2.1 q9.2.2.2.2.2.2.2.1 q9.2.2.2.2.2.2.2.2 q9.1 p3) (fun q10 => (q10.1, (q10.2.1, q10.2.2.1, q10.2.2.2.1, q10.2.2.2.2.1, q10.2.2.2.2.2.1, q10.2.2.2.2.2.2.1, q10.2.2.2.2.2.2.2.1, q10.2.2.2.2.2.2.2.2))))))))))))))))
set_option maxHeartbeats 4000000 in
set_option maxRecDepth 100000 in
theorem mc_Y_number (l : Launch) (dC : Nat → ClassId) (dI : Nat → Nat → Nat) (k0 k_g : Nat) (cB_g : ClassId) (g : Nat → Int64) (ak : Int32) (il : Int32) (mi : Int32) (xe : Int32) (bi : Int64) (fa : Int32) (cu : Int32) (p1 : Int32) (p2 : Int32) (p3 : Int32) : xj_Oi l (dC, dI) vwCl [(cB_g, .long)] (mw_Y k0 k_g cB_g) yY_number wsY_number ({ frames := 3, cells := 0, slots := 0, locals := 65 }) [.ref k0, .int p1, .int p2, .int p3] (g, ak, il, mi, xe, bi, fa, cu) (mf_Y_number g ak il mi xe bi fa cu p1 p2 p3) := by
  intro sz
  refine Met.ofW (cc := cY_number) (maxL := 6) (ret := (some .int)) (by decide) rfl ?_
  intro p e s m args below meth c s₁ B hml hv
  obtain ⟨rfl, hsz, hP, hK, hD0⟩ := hv
  have hx := B.exec
  have hb := B.bytes
  have hr := B.returns
  have hts := atoms_spec (ws := wsY_number) B.pre
  have hown : s.vm.findClass RX1 = some m.cls := findClass_of_methodNamed B.named
  have hlocks := B.notSynchronized
  subst hsz
  have hD := hD0.self (sz := s.heap.size)
  generalize hAe : va_A (mw_Y k0 k_g cB_g (g, ak, il, mi, xe, bi, fa, cu)) s.heap.size = A at hD ⊢
  have hA : ∀ q : Nat, s.heap.size ≤ q → A q := fun q h => by rw [← hAe]; exact Or.inr h
  have hS : va_S A s.heap s.heap [] := va_S.rf
  have hP : va_P (dC, dI) vwCl [(k0, .inr (1, [.ref k_g, .int ak, .int il, .int mi, .int xe, .long bi, .int fa, .int cu])), (k_g, .inl (cB_g, 8, .inr (.inl g)))] s.heap := hP
  have hD : va_D A [(k0, .inr (1, [.ref k_g, .int ak, .int il, .int mi, .int xe, .long bi, .int fa, .int cu])), (k_g, .inl (cB_g, 8, .inr (.inl g)))] := hD
  generalize hT : mf_Y_number g ak il mi xe bi fa cu p1 p2 p3 = T
  have hF := hT.symm
  unfold mf_Y_number at hF
  have hl := lv_entry ([.ref k0, .int p1, .int p2, .int p3]) (n := 6) (Nat.le_of_ble_eq_true rfl)
  rw [lg_entry_eq]
  generalize (lg_sl ([.ref k0, .int p1, .int p2, .int p3]) ++ List.replicate (6 - (lg_sl ([.ref k0, .int p1, .int p2, .int p3])).length) Slot.unset).toArray = ls at hl ⊢
  have hl : lv_has ls 6 [(0, .ref k0), (1, .int p1), (2, .int p2), (3, .int p3)] := hl
  refine lv_iload_n hx hb dY_number_0 rfl (lv_at hl 1 rfl) ?_
  refine xj_si (As := [.int p1]) (rest := []) ⟨hx, hb, hml, hown, hts⟩ (mc_Y_isSize l p1) (va_cwS 1 hts (gY_isSize _) rfl rfl rfl (by decide +kernel) ⟨Nat.le_of_ble_eq_true rfl, Nat.le_of_ble_eq_true rfl⟩) hS hA rfl hl.1 rfl (Nat.le_of_ble_eq_true rfl) dY_number_1 ⟨Nat.zero_le _, Nat.zero_le _⟩ (fun H9 locs9 hk9 hS => ?_)
  have hP := xj_kept hP hk9
  refine lv_topi (fun y1 ey1 => ?_)
  replace hF := xj_bz hF ey1
  refine lv_if_eq (tgt := 14) hx hb dY_number_4 (by decide) (fun c2 => ?_) (fun c2 => ?_)
  · replace hF := xj_t hF c2
    refine lv_bipush (v := (-5 : Int32)) hx hb dY_number_14 (by decide) ?_
    exact W.iret (v := (-5 : Int32)) hx hb hr (fun t ht hW => ⟨⟨_, (g, ak, il, mi, xe, bi, fa, cu), rfl, hF.symm, by rw [ht]; exact hP, hD⟩, hS.F ht⟩) hS.2.2 dY_number_16
  · replace hF := xj_f hF c2
    refine lv_iload_n hx hb dY_number_7 rfl (lv_at hl 3 rfl) ?_
    refine xj_si (As := [.int p3]) (rest := []) ⟨hx, hb, hml, hown, hts⟩ (mc_Y_isRegister l p3) (va_cwS 1 hts (gY_isRegister _) rfl rfl rfl (by decide +kernel) ⟨Nat.le_of_ble_eq_true rfl, Nat.le_of_ble_eq_true rfl⟩) hS hA rfl hl.1 rfl (Nat.le_of_ble_eq_true rfl) dY_number_8 ⟨Nat.zero_le _, Nat.zero_le _⟩ (fun H9 locs9 hk9 hS => ?_)
    have hP := xj_kept hP hk9
    refine lv_topi (fun y3 ey3 => ?_)
    replace hF := xj_bz hF ey3
    refine lv_if_ne (tgt := 17) hx hb dY_number_11 (by decide) (fun c4 => ?_) (fun c4 => ?_)
    · replace hF := xj_f hF c4
      refine lv_iload_n hx hb dY_number_17 rfl (lv_at hl 2 rfl) ?_
      obtain ⟨y6, ey6⟩ : ∃ z : Int64, z = (if 0 ≤ p2 then (Int32.toInt64 p2) else (-(Int32.toInt64 p2))) := ⟨_, rfl⟩
      replace hF := xj_bz hF ey6
      refine xj_join 29 (fun ls' st' => lv_has ls' 6 [(0, .ref k0), (1, .int p1), (2, .int p2), (3, .int p3)] ∧ st' = [.long y6]) ?_ (fun K29 => ?_)
      · rintro ls st ⟨hl, rfl⟩
        refine lv_lstore (lv' := [(4, .long y6), (0, .ref k0), (1, .int p1), (2, .int p2), (3, .int p3)]) hx hb dY_number_29 hl (by decide) rfl (fun ls hl => ?_)
        refine lv_aload_n hx hb dY_number_31 rfl (lv_at hl 1 rfl) ?_
        refine lv_aload_n hx hb dY_number_32 rfl (lv_at hl 1 rfl) ?_
        refine lv_iload_n hx hb dY_number_33 rfl (lv_at hl 2 rfl) ?_
        refine lv_iload_n hx hb dY_number_34 rfl (lv_at hl 3 rfl) ?_
        obtain ⟨y8, ey8⟩ : ∃ z : Int32, z = (if 0 ≤ p2 then (0 : Int32) else (1 : Int32)) := ⟨_, rfl⟩
        replace hF := xj_bz hF ey8
        refine xj_join 43 (fun ls' st' => lv_has ls' 6 [(4, .long y6), (0, .ref k0), (1, .int p1), (2, .int p2), (3, .int p3)] ∧ st' = [.int y8, .int p1, .ref k0, .ref k0]) ?_ (fun K43 => ?_)
        · rintro ls st ⟨hl, rfl⟩
          refine lv_lload hx hb dY_number_43 (lv_at hl 0 rfl) ?_
          refine lv_iconst (v := (0 : Int32)) hx hb dY_number_45 (by decide) ?_
          refine lv_iconst (v := (0 : Int32)) hx hb dY_number_46 (by decide) ?_
          obtain ⟨q9, eq9⟩ : ∃ z : Int64 × (Nat → Int64) × Int32 × Int32 × Int32 × Int32 × Int64 × Int32 × Int32, z = (mf_Y_rounds g ak il mi xe bi fa cu p1 y8 y6 (0 : Int32) (0 : Int32)) := ⟨_, rfl⟩
          replace hF := xj_bz hF eq9
          refine xj_vl (r := q9) (As := [.int p1, .int y8, .long y6, .int (0 : Int32), .int (0 : Int32)]) (rest := [.ref k0]) (Wd := mw_Y k0 k_g cB_g) (wr := []) ⟨hx, hb, hml, hown, hts⟩ (by rw [eq9]; exact mc_Y_rounds l dC dI k0 k_g cB_g g ak il mi xe bi fa cu p1 y8 y6 (0 : Int32) (0 : Int32) (Or.inl rfl)) (cwV 5 hts (gY_rounds _) rfl rfl rfl (by decide +kernel) ⟨Nat.le_of_ble_eq_true rfl, Nat.le_of_ble_eq_true rfl⟩) hP hK hD hS hA [0, 1] [] [0] rfl (by decide) rfl (by decide) (by decide) rfl (va_recv hK hP (ci := 1) (q0 := 0) rfl rfl) rfl hl.1 rfl (Nat.le_of_ble_eq_true rfl) dY_number_47 ⟨Nat.zero_le _, Nat.zero_le _⟩ (fun H9 locs9 hP hD hS => ?_)
          have hP : va_P (dC, dI) vwCl [(k0, .inr (1, [.ref k_g, .int q9.2.2.1, .int q9.2.2.2.1, .int q9.2.2.2.2.1, .int q9.2.2.2.2.2.1, .long q9.2.2.2.2.2.2.1, .int q9.2.2.2.2.2.2.2.1, .int q9.2.2.2.2.2.2.2.2])), (k_g, .inl (cB_g, 8, .inr (.inl q9.2.1)))] _ := hP
          have hD : va_D A [(k0, .inr (1, [.ref k_g, .int q9.2.2.1, .int q9.2.2.2.1, .int q9.2.2.2.2.1, .int q9.2.2.2.2.2.1, .long q9.2.2.2.2.2.2.1, .int q9.2.2.2.2.2.2.2.1, .int q9.2.2.2.2.2.2.2.2])), (k_g, .inl (cB_g, 8, .inr (.inl q9.2.1)))] := hD
          refine lv_iload_n hx hb dY_number_50 rfl (lv_at hl 4 rfl) ?_
          obtain ⟨q10, eq10⟩ : ∃ z : Int32 × (Nat → Int64) × Int32 × Int32 × Int32 × Int32 × Int64 × Int32 × Int32, z = (mf_Y_gives q9.2.1 q9.2.2.1 q9.2.2.2.1 q9.2.2.2.2.1 q9.2.2.2.2.2.1 q9.2.2.2.2.2.2.1 q9.2.2.2.2.2.2.2.1 q9.2.2.2.2.2.2.2.2 q9.1 p3) := ⟨_, rfl⟩
          replace hF := xj_bz hF eq10
          refine xj_vi (r := q10) (As := [.long q9.1, .int p3]) (rest := []) (Wd := mw_Y k0 k_g cB_g) (wr := []) ⟨hx, hb, hml, hown, hts⟩ (by rw [eq10]; exact mc_Y_gives l dC dI k0 k_g cB_g q9.2.1 q9.2.2.1 q9.2.2.2.1 q9.2.2.2.2.1 q9.2.2.2.2.2.1 q9.2.2.2.2.2.2.1 q9.2.2.2.2.2.2.2.1 q9.2.2.2.2.2.2.2.2 q9.1 p3 (ms_reg (fun h9 => c4 (ey3.trans h9))) (by rw [eq9]; exact ms_cut_rounds (Or.inl rfl))) (cwV 2 hts (gY_gives _) rfl rfl rfl (by decide +kernel) ⟨Nat.le_of_ble_eq_true rfl, Nat.le_of_ble_eq_true rfl⟩) hP hK hD hS hA [0, 1] [] [0] rfl (by decide) rfl (by decide) (by decide) rfl (va_recv hK hP (ci := 1) (q0 := 0) rfl rfl) rfl hl.1 rfl (Nat.le_of_ble_eq_true rfl) dY_number_51 ⟨Nat.zero_le _, Nat.zero_le _⟩ (fun H9 locs9 hP hD hS => ?_)
          have hP : va_P (dC, dI) vwCl [(k0, .inr (1, [.ref k_g, .int q10.2.2.1, .int q10.2.2.2.1, .int q10.2.2.2.2.1, .int q10.2.2.2.2.2.1, .long q10.2.2.2.2.2.2.1, .int q10.2.2.2.2.2.2.2.1, .int q10.2.2.2.2.2.2.2.2])), (k_g, .inl (cB_g, 8, .inr (.inl q10.2.1)))] _ := hP
          have hD : va_D A [(k0, .inr (1, [.ref k_g, .int q10.2.2.1, .int q10.2.2.2.1, .int q10.2.2.2.2.1, .int q10.2.2.2.2.2.1, .long q10.2.2.2.2.2.2.1, .int q10.2.2.2.2.2.2.2.1, .int q10.2.2.2.2.2.2.2.2])), (k_g, .inl (cB_g, 8, .inr (.inl q10.2.1)))] := hD
          exact W.iret (v := q10.1) hx hb hr (fun t ht hW => ⟨⟨_, (q10.2.1, q10.2.2.1, q10.2.2.2.1, q10.2.2.2.2.1, q10.2.2.2.2.2.1, q10.2.2.2.2.2.2.1, q10.2.2.2.2.2.2.2.1, q10.2.2.2.2.2.2.2.2), rfl, hF.symm, by rw [ht]; exact hP, hD⟩, hS.F ht⟩) hS.2.2 dY_number_54
        · refine lv_if_ge (tgt := 42) hx hb dY_number_35 (by decide) (fun c7 => ?_) (fun c7 => ?_)
          · replace ey8 := xj_t ey8 c7
            refine lv_iconst (v := (0 : Int32)) hx hb dY_number_42 (by decide) ?_
            subst ey8
            exact K43 _ _ ⟨lv_sub hl [0, 1, 2, 3, 4] rfl, rfl⟩
          · replace ey8 := xj_f ey8 c7
            refine lv_iconst (v := (1 : Int32)) hx hb dY_number_38 (by decide) ?_
            refine lv_goto (tgt := 43) hx hb dY_number_39 (by decide) ?_
            subst ey8
            exact K43 _ _ ⟨lv_sub hl [0, 1, 2, 3, 4] rfl, rfl⟩
      · refine lv_if_ge (tgt := 27) hx hb dY_number_18 (by decide) (fun c5 => ?_) (fun c5 => ?_)
        · replace ey6 := xj_t ey6 c5
          refine lv_iload_n hx hb dY_number_27 rfl (lv_at hl 2 rfl) ?_
          refine lv_i2l (v := (Int32.toInt64 p2)) hx hb dY_number_28 rfl ?_
          subst ey6
          exact K29 _ _ ⟨lv_sub hl [0, 1, 2, 3] rfl, rfl⟩
        · replace ey6 := xj_f ey6 c5
          refine lv_iload_n hx hb dY_number_21 rfl (lv_at hl 2 rfl) ?_
          refine lv_i2l (v := (Int32.toInt64 p2)) hx hb dY_number_22 rfl ?_
          refine lv_lneg hx hb dY_number_23 ?_
          refine lv_goto (tgt := 29) hx hb dY_number_24 (by decide) ?_
          subst ey6
          exact K29 _ _ ⟨lv_sub hl [0, 1, 2, 3] rfl, rfl⟩
    · replace hF := xj_t hF c4
      refine lv_bipush (v := (-5 : Int32)) hx hb dY_number_14 (by decide) ?_
      exact W.iret (v := (-5 : Int32)) hx hb hr (fun t ht hW => ⟨⟨_, (g, ak, il, mi, xe, bi, fa, cu), rfl, hF.symm, by rw [ht]; exact hP, hD⟩, hS.F ht⟩) hS.2.2 dY_number_16
def mf_Y_lost (g : Nat → Int64) (ak : Int32) (il : Int32) (mi : Int32) (xe : Int32) (bi : Int64) (fa : Int32) (cu : Int32)  : Int32 := il
set_option maxHeartbeats 4000000 in
set_option maxRecDepth 100000 in
theorem mc_Y_lost (l : Launch) (dC : Nat → ClassId) (dI : Nat → Nat → Nat) (k0 k_g : Nat) (cB_g : ClassId) (g : Nat → Int64) (ak : Int32) (il : Int32) (mi : Int32) (xe : Int32) (bi : Int64) (fa : Int32) (cu : Int32)  (hil : il = 0 ∨ il = 1) : xj_Oi l (dC, dI) vwCl [(cB_g, .long)] (mw_Y k0 k_g cB_g) yY_lost wsY_lost ({ frames := 0, cells := 0, slots := 0, locals := 0 }) [.ref k0] (g, ak, il, mi, xe, bi, fa, cu) (mf_Y_lost g ak il mi xe bi fa cu, (g, ak, il, mi, xe, bi, fa, cu)) := by
  intro sz
  refine Met.ofW (cc := cY_lost) (maxL := 1) (ret := (some .boolean)) (by decide) rfl ?_
  intro p e s m args below meth c s₁ B hml hv
  obtain ⟨rfl, hsz, hP, hK, hD0⟩ := hv
  have hx := B.exec
  have hb := B.bytes
  have hr := B.returns
  have hts := atoms_spec (ws := wsY_lost) B.pre
  have hown : s.vm.findClass RX1 = some m.cls := findClass_of_methodNamed B.named
  have hlocks := B.notSynchronized
  subst hsz
  have hD := hD0.self (sz := s.heap.size)
  generalize hAe : va_A (mw_Y k0 k_g cB_g (g, ak, il, mi, xe, bi, fa, cu)) s.heap.size = A at hD ⊢
  have hA : ∀ q : Nat, s.heap.size ≤ q → A q := fun q h => by rw [← hAe]; exact Or.inr h
  have hS : va_S A s.heap s.heap [] := va_S.rf
  have hP : va_P (dC, dI) vwCl [(k0, .inr (1, [.ref k_g, .int ak, .int il, .int mi, .int xe, .long bi, .int fa, .int cu])), (k_g, .inl (cB_g, 8, .inr (.inl g)))] s.heap := hP
  have hD : va_D A [(k0, .inr (1, [.ref k_g, .int ak, .int il, .int mi, .int xe, .long bi, .int fa, .int cu])), (k_g, .inl (cB_g, 8, .inr (.inl g)))] := hD
  generalize hT : mf_Y_lost g ak il mi xe bi fa cu = T
  have hF := hT.symm
  unfold mf_Y_lost at hF
  have hl := lv_entry ([.ref k0]) (n := 1) (Nat.le_of_ble_eq_true rfl)
  rw [lg_entry_eq]
  generalize (lg_sl ([.ref k0]) ++ List.replicate (1 - (lg_sl ([.ref k0])).length) Slot.unset).toArray = ls at hl ⊢
  have hl : lv_has ls 1 [(0, .ref k0)] := hl
  refine lv_aload_n hx hb dY_lost_0 rfl (lv_at hl 0 rfl) ?_
  refine va_get (D := (dC, dI)) (ci := 1) (v := .int il) (C := RX1) (T := TX1) (N := 8) hx hb hts (fun w9 h9 => List.mem_cons_of_mem _ (inY w9 h9)) hown hK hP 0 rfl rfl 2 (by decide) (hts (.fieldLink RX1 63 "ExactFloatsModel" "isLost" "Z") (List.mem_cons_of_mem _ mY_51)) (fun _ h9 => h9) rfl dY_lost_1 ?_
  exact W.zret (v := il) hx hb hr (xj_nb (hil)) (fun t ht hW => ⟨⟨_, (g, ak, il, mi, xe, bi, fa, cu), rfl, by rw [hF], by rw [ht]; exact hP, hD⟩, hS.F ht⟩) hS.2.2 dY_lost_4
end
section
def mf_Y_product (g : Nat → Int64) (ak : Int32) (il : Int32) (mi : Int32) (xe : Int32) (bi : Int64) (fa : Int32) (cu : Int32) (p1 : Int32) (p2 : Int32) (p3 : Int32) (p4 : Int32) : Int32 × (Nat → Int64) × Int32 × Int32 × Int32 × Int32 × Int64 × Int32 × Int32 := (xj_bnd (mf_Y_two g ak il mi xe bi fa cu p1 p2 p3 p4) (fun y1 => (if 0 ≤ y1 then (xj_bnd (mf_Y_in g ak il mi xe bi fa cu p1 p2) (fun y3 => (xj_bnd (mf_Y_take g ak il mi xe bi fa cu p1 y3) (fun q4 => (xj_bnd (mf_Y_in q4.1 q4.2.1 q4.2.2.1 q4.2.2.2.1 q4.2.2.2.2.1 q4.2.2.2.2.2.1 q4.2.2.2.2.2.2.1 q4.2.2.2.2.2.2.2 p1 p3) (fun y5 => (xj_bnd (mf_Y_take q4.1 q4.2.1 q4.2.2.1 q4.2.2.2.1 q4.2.2.2.2.1 q4.2.2.2.2.2.1 q4.2.2.2.2.2.2.1 q4.2.2.2.2.2.2.2 p1 y5) (fun q6 => (if q4.2.2.2.2.2.1 = (0 : Int64) then (xj_bnd (mf_Y_gives q6.1 q6.2.1 q6.2.2.1 q6.2.2.2.1 q6.2.2.2.2.1 q6.2.2.2.2.2.1 (0 : Int32) (0 : Int32) (0 : Int64) p4) (fun q8 => (q8.1, (q8.2.1, q8.2.2.1, q8.2.2.2.1, q8.2.2.2.2.1, q8.2.2.2.2.2.1, q8.2.2.2.2.2.2.1, q8.2.2.2.2.2.2.2.1, q8.2.2.2.2.2.2.2.2)))) else (if q6.2.2.2.2.2.1 = (0 : Int64) then (xj_bnd (mf_Y_gives q6.1 q6.2.1 q6.2.2.1 q6.2.2.2.1 q6.2.2.2.2.1 q6.2.2.2.2.2.1 (0 : Int32) (0 : Int32) (0 : Int64) p4) (fun q24 => (q24.1, (q24.2.1, q24.2.2.1, q24.2.2.2.1, q24.2.2.2.2.1, q24.2.2.2.2.2.1, q24.2.2.2.2.2.2.1, q24.2.2.2.2.2.2.2.1, q24.2.2.2.2.2.2.2.2)))) else (xj_bnd (if q4.2.2.2.1 = q6.2.2.2.1 then (0 : Int32) else (1 : Int32)) (fun y11 => (xj_bnd ((q4.2.2.2.2.1 + q6.2.2.2.2.1) - (256 : Int32)) (fun y12 => (if p1 = (4 : Int32) then (xj_bnd (mf_Y_rounds q6.1 q6.2.1 q6.2.2.1 q6.2.2.2.1 q6.2.2.2.2.1 q6.2.2.2.2.2.1 (0 : Int32) (0 : Int32) (4 : Int32) y11 ((xj_shr q4.2.2.2.2.2.1 (32 : Int32)) * (xj_shr q6.2.2.2.2.2.1 (32 : Int32))) (y12 - (48 : Int32)) (0 : Int32)) (fun q22 => (xj_bnd (mf_Y_gives q22.2.1 q22.2.2.1 q22.2.2.2.1 q22.2.2.2.2.1 q22.2.2.2.2.2.1 q22.2.2.2.2.2.2.1 q22.2.2.2.2.2.2.2.1 q22.2.2.2.2.2.2.2.2 q22.1 p4) (fun q23 => (q23.1, (q23.2.1, q23.2.2.1, q23.2.2.2.1, q23.2.2.2.2.1, q23.2.2.2.2.2.1, q23.2.2.2.2.2.2.1, q23.2.2.2.2.2.2.2.1, q23.2.2.2.2.2.2.2.2)))))) else (xj_bnd ((q4.2.2.2.2.2.1 &&& (268435455 : Int64)) * (q6.2.2.2.2.2.1 &&& (268435455 : Int64))) (fun y14 => (xj_bnd ((((xj_shr q4.2.2.2.2.2.1 (28 : Int32)) * (q6.2.2.2.2.2.1 &&& (268435455 : Int64))) + ((q4.2.2.2.2.2.1 &&& (268435455 : Int64)) * (xj_shr q6.2.2.2.2.2.1 (28 : Int32)))) + (xj_shr y14 (28 : Int32))) (fun y15 => (xj_bnd ((xj_shr q4.2.2.2.2.2.1 (28 : Int32)) * (xj_shr q6.2.2.2.2.2.1 (28 : Int32))) (fun y16 => (xj_bnd (if (y14 &&& (268435455 : Int64)) = (0 : Int64) then (if (y15 &&& (4194303 : Int64)) = (0 : Int64) then (0 : Int32) else (1 : Int32)) else (1 : Int32)) (fun y18 => (xj_bnd (mf_Y_rounds q6.1 q6.2.1 q6.2.2.1 q6.2.2.2.1 q6.2.2.2.2.1 q6.2.2.2.2.2.1 (0 : Int32) (0 : Int32) (8 : Int32) y11 ((xj_shl y16 (6 : Int32)) + (xj_shr y15 (22 : Int32))) ((y12 - (112 : Int32)) + (50 : Int32)) y18) (fun q19 => (xj_bnd (mf_Y_gives q19.2.1 q19.2.2.1 q19.2.2.2.1 q19.2.2.2.2.1 q19.2.2.2.2.2.1 q19.2.2.2.2.2.2.1 q19.2.2.2.2.2.2.2.1 q19.2.2.2.2.2.2.2.2 q19.1 p4) (fun q20 => (q20.1, (q20.2.1, q20.2.2.1, q20.2.2.2.1, q20.2.2.2.2.1, q20.2.2.2.2.2.1, q20.2.2.2.2.2.2.1, q20.2.2.2.2.2.2.2.1, q20.2.2.2.2.2.2.2.2))))))))))))))))))))))))))))) else (y1, (g, ak, il, mi, xe, bi, fa, cu)))))
set_option maxHeartbeats 4000000 in
set_option maxRecDepth 100000 in
theorem mc_Y_product (l : Launch) (dC : Nat → ClassId) (dI : Nat → Nat → Nat) (k0 k_g : Nat) (cB_g : ClassId) (g : Nat → Int64) (ak : Int32) (il : Int32) (mi : Int32) (xe : Int32) (bi : Int64) (fa : Int32) (cu : Int32) (p1 : Int32) (p2 : Int32) (p3 : Int32) (p4 : Int32) : xj_Oi l (dC, dI) vwCl [(cB_g, .long)] (mw_Y k0 k_g cB_g) yY_product wsY_product ({ frames := 3, cells := 0, slots := 0, locals := 65 }) [.ref k0, .int p1, .int p2, .int p3, .int p4] (g, ak, il, mi, xe, bi, fa, cu) (mf_Y_product g ak il mi xe bi fa cu p1 p2 p3 p4) := by
  intro sz
  refine Met.ofW (cc := cY_product) (maxL := 20) (ret := (some .int)) (by decide) rfl ?_
  intro p e s m args below meth c s₁ B hml hv
  obtain ⟨rfl, hsz, hP, hK, hD0⟩ := hv
  have hx := B.exec
  have hb := B.bytes
  have hr := B.returns
  have hts := atoms_spec (ws := wsY_product) B.pre
  have hown : s.vm.findClass RX1 = some m.cls := findClass_of_methodNamed B.named
  have hlocks := B.notSynchronized
  subst hsz
  have hD := hD0.self (sz := s.heap.size)
  generalize hAe : va_A (mw_Y k0 k_g cB_g (g, ak, il, mi, xe, bi, fa, cu)) s.heap.size = A at hD ⊢
  have hA : ∀ q : Nat, s.heap.size ≤ q → A q := fun q h => by rw [← hAe]; exact Or.inr h
  have hS : va_S A s.heap s.heap [] := va_S.rf
  have hP : va_P (dC, dI) vwCl [(k0, .inr (1, [.ref k_g, .int ak, .int il, .int mi, .int xe, .long bi, .int fa, .int cu])), (k_g, .inl (cB_g, 8, .inr (.inl g)))] s.heap := hP
  have hD : va_D A [(k0, .inr (1, [.ref k_g, .int ak, .int il, .int mi, .int xe, .long bi, .int fa, .int cu])), (k_g, .inl (cB_g, 8, .inr (.inl g)))] := hD
  generalize hT : mf_Y_product g ak il mi xe bi fa cu p1 p2 p3 p4 = T
  have hF := hT.symm
  unfold mf_Y_product at hF
  have hl := lv_entry ([.ref k0, .int p1, .int p2, .int p3, .int p4]) (n := 20) (Nat.le_of_ble_eq_true rfl)
  rw [lg_entry_eq]
  generalize (lg_sl ([.ref k0, .int p1, .int p2, .int p3, .int p4]) ++ List.replicate (20 - (lg_sl ([.ref k0, .int p1, .int p2, .int p3, .int p4])).length) Slot.unset).toArray = ls at hl ⊢
  have hl : lv_has ls 20 [(0, .ref k0), (1, .int p1), (2, .int p2), (3, .int p3), (4, .int p4)] := hl
  refine lv_aload_n hx hb dY_product_0 rfl (lv_at hl 0 rfl) ?_
  refine lv_iload_n hx hb dY_product_1 rfl (lv_at hl 1 rfl) ?_
  refine lv_iload_n hx hb dY_product_2 rfl (lv_at hl 2 rfl) ?_
  refine lv_iload_n hx hb dY_product_3 rfl (lv_at hl 3 rfl) ?_
  refine lv_iload hx hb dY_product_4 (lv_at hl 4 rfl) ?_
  refine xj_vi (As := [.int p1, .int p2, .int p3, .int p4]) (rest := []) (Wd := mw_Y k0 k_g cB_g) (wr := []) ⟨hx, hb, hml, hown, hts⟩ (mc_Y_two l dC dI k0 k_g cB_g g ak il mi xe bi fa cu p1 p2 p3 p4) (cwV 4 hts (gY_two _) rfl rfl rfl (by decide +kernel) ⟨Nat.le_of_ble_eq_true rfl, Nat.le_of_ble_eq_true rfl⟩) hP hK hD hS hA [0, 1] [] [0] rfl (by decide) rfl (by decide) (by decide) rfl (va_recv hK hP (ci := 1) (q0 := 0) rfl rfl) rfl hl.1 rfl (Nat.le_of_ble_eq_true rfl) dY_product_6 ⟨Nat.zero_le _, Nat.zero_le _⟩ (fun H9 locs9 hP hD hS => ?_)
  have hP : va_P (dC, dI) vwCl [(k0, .inr (1, [.ref k_g, .int ak, .int il, .int mi, .int xe, .long bi, .int fa, .int cu])), (k_g, .inl (cB_g, 8, .inr (.inl g)))] _ := hP
  have hD : va_D A [(k0, .inr (1, [.ref k_g, .int ak, .int il, .int mi, .int xe, .long bi, .int fa, .int cu])), (k_g, .inl (cB_g, 8, .inr (.inl g)))] := hD
  refine lv_topi (fun y1 ey1 => ?_)
  replace hF := xj_bz hF ey1
  refine lv_istore (lv' := [(5, .int y1), (0, .ref k0), (1, .int p1), (2, .int p2), (3, .int p3), (4, .int p4)]) hx hb dY_product_9 hl (by decide) rfl (fun ls hl => ?_)
  refine lv_iload hx hb dY_product_11 (lv_at hl 0 rfl) ?_
  refine lv_if_ge (tgt := 19) hx hb dY_product_13 (by decide) (fun c2 => ?_) (fun c2 => ?_)
  · replace hF := xj_t hF c2
    refine lv_aload_n hx hb dY_product_19 rfl (lv_at hl 1 rfl) ?_
    refine lv_iload_n hx hb dY_product_20 rfl (lv_at hl 2 rfl) ?_
    refine lv_aload_n hx hb dY_product_21 rfl (lv_at hl 1 rfl) ?_
    refine lv_iload_n hx hb dY_product_22 rfl (lv_at hl 2 rfl) ?_
    refine lv_iload_n hx hb dY_product_23 rfl (lv_at hl 3 rfl) ?_
    refine xj_vl (As := [.int p1, .int p2]) (rest := [.int p1, .ref k0]) (Wd := mw_Y k0 k_g cB_g) (wr := []) ⟨hx, hb, hml, hown, hts⟩ (mc_Y_in l dC dI k0 k_g cB_g g ak il mi xe bi fa cu p1 p2 ((ms_two (xj_ge ey1 c2)).1)) (cwV 2 hts (gY_in _) rfl rfl rfl (by decide +kernel) ⟨Nat.le_of_ble_eq_true rfl, Nat.le_of_ble_eq_true rfl⟩) hP hK hD hS hA [0, 1] [] [0] rfl (by decide) rfl (by decide) (by decide) rfl (va_recv hK hP (ci := 1) (q0 := 0) rfl rfl) rfl hl.1 rfl (Nat.le_of_ble_eq_true rfl) dY_product_24 ⟨Nat.zero_le _, Nat.zero_le _⟩ (fun H9 locs9 hP hD hS => ?_)
    have hP : va_P (dC, dI) vwCl [(k0, .inr (1, [.ref k_g, .int ak, .int il, .int mi, .int xe, .long bi, .int fa, .int cu])), (k_g, .inl (cB_g, 8, .inr (.inl g)))] _ := hP
    have hD : va_D A [(k0, .inr (1, [.ref k_g, .int ak, .int il, .int mi, .int xe, .long bi, .int fa, .int cu])), (k_g, .inl (cB_g, 8, .inr (.inl g)))] := hD
    refine lv_topl (fun y3 ey3 => ?_)
    replace hF := xj_bz hF ey3
    obtain ⟨q4, eq4⟩ : ∃ z : (Nat → Int64) × Int32 × Int32 × Int32 × Int32 × Int64 × Int32 × Int32, z = (mf_Y_take g ak il mi xe bi fa cu p1 y3) := ⟨_, rfl⟩
    replace hF := xj_bz hF eq4
    refine xj_vv (r := q4) (As := [.int p1, .long y3]) (rest := []) (Wd := mw_Y k0 k_g cB_g) (wr := []) ⟨hx, hb, hml, hown, hts⟩ (by rw [eq4]; exact mc_Y_take l dC dI k0 k_g cB_g g ak il mi xe bi fa cu p1 y3) (cwV 2 hts (gY_take _) rfl rfl rfl (by decide +kernel) ⟨Nat.le_of_ble_eq_true rfl, Nat.le_of_ble_eq_true rfl⟩) hP hK hD hS hA [0, 1] [] [0] rfl (by decide) rfl (by decide) (by decide) rfl (va_recv hK hP (ci := 1) (q0 := 0) rfl rfl) rfl hl.1 rfl (Nat.le_of_ble_eq_true rfl) dY_product_27 ⟨Nat.zero_le _, Nat.zero_le _⟩ (fun H9 locs9 hP hD hS => ?_)
    have hP : va_P (dC, dI) vwCl [(k0, .inr (1, [.ref k_g, .int q4.2.1, .int q4.2.2.1, .int q4.2.2.2.1, .int q4.2.2.2.2.1, .long q4.2.2.2.2.2.1, .int q4.2.2.2.2.2.2.1, .int q4.2.2.2.2.2.2.2])), (k_g, .inl (cB_g, 8, .inr (.inl q4.1)))] _ := hP
    have hD : va_D A [(k0, .inr (1, [.ref k_g, .int q4.2.1, .int q4.2.2.1, .int q4.2.2.2.1, .int q4.2.2.2.2.1, .long q4.2.2.2.2.2.1, .int q4.2.2.2.2.2.2.1, .int q4.2.2.2.2.2.2.2])), (k_g, .inl (cB_g, 8, .inr (.inl q4.1)))] := hD
    refine lv_aload_n hx hb dY_product_30 rfl (lv_at hl 1 rfl) ?_
    refine va_get (D := (dC, dI)) (ci := 1) (v := .long q4.2.2.2.2.2.1) (C := RX1) (T := TX1) (N := 8) hx hb hts (fun w9 h9 => List.mem_cons_of_mem _ (inY w9 h9)) hown hK hP 0 rfl rfl 5 (by decide) (hts (.fieldLink RX1 44 "ExactFloatsModel" "bits" "J") (List.mem_cons_of_mem _ mY_43)) (fun _ h9 => h9) rfl dY_product_31 ?_
    refine lv_lstore (lv' := [(6, .long q4.2.2.2.2.2.1), (5, .int y1), (0, .ref k0), (1, .int p1), (2, .int p2), (3, .int p3), (4, .int p4)]) hx hb dY_product_34 hl (by decide) rfl (fun ls hl => ?_)
    refine lv_aload_n hx hb dY_product_36 rfl (lv_at hl 2 rfl) ?_
    refine va_get (D := (dC, dI)) (ci := 1) (v := .int q4.2.2.2.2.1) (C := RX1) (T := TX1) (N := 8) hx hb hts (fun w9 h9 => List.mem_cons_of_mem _ (inY w9 h9)) hown hK hP 0 rfl rfl 4 (by decide) (hts (.fieldLink RX1 34 "ExactFloatsModel" "exponent" "I") (List.mem_cons_of_mem _ mY_39)) (fun _ h9 => h9) rfl dY_product_37 ?_
    refine lv_istore (lv' := [(8, .int q4.2.2.2.2.1), (6, .long q4.2.2.2.2.2.1), (5, .int y1), (0, .ref k0), (1, .int p1), (2, .int p2), (3, .int p3), (4, .int p4)]) hx hb dY_product_40 hl (by decide) rfl (fun ls hl => ?_)
    refine lv_aload_n hx hb dY_product_42 rfl (lv_at hl 3 rfl) ?_
    refine va_get (D := (dC, dI)) (ci := 1) (v := .int q4.2.2.2.1) (C := RX1) (T := TX1) (N := 8) hx hb hts (fun w9 h9 => List.mem_cons_of_mem _ (inY w9 h9)) hown hK hP 0 rfl rfl 3 (by decide) (hts (.fieldLink RX1 29 "ExactFloatsModel" "minus" "Z") (List.mem_cons_of_mem _ mY_37)) (fun _ h9 => h9) rfl dY_product_43 ?_
    refine lv_istore (lv' := [(9, .int q4.2.2.2.1), (8, .int q4.2.2.2.2.1), (6, .long q4.2.2.2.2.2.1), (5, .int y1), (0, .ref k0), (1, .int p1), (2, .int p2), (3, .int p3), (4, .int p4)]) hx hb dY_product_46 hl (by decide) rfl (fun ls hl => ?_)
    refine lv_aload_n hx hb dY_product_48 rfl (lv_at hl 4 rfl) ?_
    refine lv_iload_n hx hb dY_product_49 rfl (lv_at hl 5 rfl) ?_
    refine lv_aload_n hx hb dY_product_50 rfl (lv_at hl 4 rfl) ?_
    refine lv_iload_n hx hb dY_product_51 rfl (lv_at hl 5 rfl) ?_
    refine lv_iload_n hx hb dY_product_52 rfl (lv_at hl 7 rfl) ?_
    refine xj_vl (As := [.int p1, .int p3]) (rest := [.int p1, .ref k0]) (Wd := mw_Y k0 k_g cB_g) (wr := []) ⟨hx, hb, hml, hown, hts⟩ (mc_Y_in l dC dI k0 k_g cB_g q4.1 q4.2.1 q4.2.2.1 q4.2.2.2.1 q4.2.2.2.2.1 q4.2.2.2.2.2.1 q4.2.2.2.2.2.2.1 q4.2.2.2.2.2.2.2 p1 p3 ((ms_two (xj_ge ey1 c2)).2.1)) (cwV 2 hts (gY_in _) rfl rfl rfl (by decide +kernel) ⟨Nat.le_of_ble_eq_true rfl, Nat.le_of_ble_eq_true rfl⟩) hP hK hD hS hA [0, 1] [] [0] rfl (by decide) rfl (by decide) (by decide) rfl (va_recv hK hP (ci := 1) (q0 := 0) rfl rfl) rfl hl.1 rfl (Nat.le_of_ble_eq_true rfl) dY_product_53 ⟨Nat.zero_le _, Nat.zero_le _⟩ (fun H9 locs9 hP hD hS => ?_)
    have hP : va_P (dC, dI) vwCl [(k0, .inr (1, [.ref k_g, .int q4.2.1, .int q4.2.2.1, .int q4.2.2.2.1, .int q4.2.2.2.2.1, .long q4.2.2.2.2.2.1, .int q4.2.2.2.2.2.2.1, .int q4.2.2.2.2.2.2.2])), (k_g, .inl (cB_g, 8, .inr (.inl q4.1)))] _ := hP
    have hD : va_D A [(k0, .inr (1, [.ref k_g, .int q4.2.1, .int q4.2.2.1, .int q4.2.2.2.1, .int q4.2.2.2.2.1, .long q4.2.2.2.2.2.1, .int q4.2.2.2.2.2.2.1, .int q4.2.2.2.2.2.2.2])), (k_g, .inl (cB_g, 8, .inr (.inl q4.1)))] := hD
    refine lv_topl (fun y5 ey5 => ?_)
    replace hF := xj_bz hF ey5
    obtain ⟨q6, eq6⟩ : ∃ z : (Nat → Int64) × Int32 × Int32 × Int32 × Int32 × Int64 × Int32 × Int32, z = (mf_Y_take q4.1 q4.2.1 q4.2.2.1 q4.2.2.2.1 q4.2.2.2.2.1 q4.2.2.2.2.2.1 q4.2.2.2.2.2.2.1 q4.2.2.2.2.2.2.2 p1 y5) := ⟨_, rfl⟩
    replace hF := xj_bz hF eq6
    refine xj_vv (r := q6) (As := [.int p1, .long y5]) (rest := []) (Wd := mw_Y k0 k_g cB_g) (wr := []) ⟨hx, hb, hml, hown, hts⟩ (by rw [eq6]; exact mc_Y_take l dC dI k0 k_g cB_g q4.1 q4.2.1 q4.2.2.1 q4.2.2.2.1 q4.2.2.2.2.1 q4.2.2.2.2.2.1 q4.2.2.2.2.2.2.1 q4.2.2.2.2.2.2.2 p1 y5) (cwV 2 hts (gY_take _) rfl rfl rfl (by decide +kernel) ⟨Nat.le_of_ble_eq_true rfl, Nat.le_of_ble_eq_true rfl⟩) hP hK hD hS hA [0, 1] [] [0] rfl (by decide) rfl (by decide) (by decide) rfl (va_recv hK hP (ci := 1) (q0 := 0) rfl rfl) rfl hl.1 rfl (Nat.le_of_ble_eq_true rfl) dY_product_56 ⟨Nat.zero_le _, Nat.zero_le _⟩ (fun H9 locs9 hP hD hS => ?_)
    have hP : va_P (dC, dI) vwCl [(k0, .inr (1, [.ref k_g, .int q6.2.1, .int q6.2.2.1, .int q6.2.2.2.1, .int q6.2.2.2.2.1, .long q6.2.2.2.2.2.1, .int q6.2.2.2.2.2.2.1, .int q6.2.2.2.2.2.2.2])), (k_g, .inl (cB_g, 8, .inr (.inl q6.1)))] _ := hP
    have hD : va_D A [(k0, .inr (1, [.ref k_g, .int q6.2.1, .int q6.2.2.1, .int q6.2.2.2.1, .int q6.2.2.2.2.1, .long q6.2.2.2.2.2.1, .int q6.2.2.2.2.2.2.1, .int q6.2.2.2.2.2.2.2])), (k_g, .inl (cB_g, 8, .inr (.inl q6.1)))] := hD
    refine lv_aload_n hx hb dY_product_59 rfl (lv_at hl 4 rfl) ?_
    refine lv_iconst (v := (0 : Int32)) hx hb dY_product_60 (by decide) ?_
    refine va_put (D := (dC, dI)) (ci := 1) (v := .int (0 : Int32)) (ty := .int) (C := RX1) (T := TX1) (N := 8) hx hb hts (fun w9 h9 => List.mem_cons_of_mem _ (inY w9 h9)) tyX1 tyX1_ok nmX1 hown hK hP hD hS 0 rfl rfl 6 (by decide) (hts (.fieldLink RX1 48 "ExactFloatsModel" "fault" "I") (List.mem_cons_of_mem _ mY_44)) (fun _ h9 => h9) rfl (by decide +kernel) rfl rfl (Nat.le_of_ble_eq_true rfl) dY_product_61 (fun H9 locs9 hP hD hS => ?_)
    have hP : va_P (dC, dI) vwCl [(k0, .inr (1, [.ref k_g, .int q6.2.1, .int q6.2.2.1, .int q6.2.2.2.1, .int q6.2.2.2.2.1, .long q6.2.2.2.2.2.1, .int (0 : Int32), .int q6.2.2.2.2.2.2.2])), (k_g, .inl (cB_g, 8, .inr (.inl q6.1)))] _ := hP
    have hD : va_D A [(k0, .inr (1, [.ref k_g, .int q6.2.1, .int q6.2.2.1, .int q6.2.2.2.1, .int q6.2.2.2.2.1, .long q6.2.2.2.2.2.1, .int (0 : Int32), .int q6.2.2.2.2.2.2.2])), (k_g, .inl (cB_g, 8, .inr (.inl q6.1)))] := hD
    refine lv_aload_n hx hb dY_product_64 rfl (lv_at hl 4 rfl) ?_
    refine lv_iconst (v := (0 : Int32)) hx hb dY_product_65 (by decide) ?_
    refine va_put (D := (dC, dI)) (ci := 1) (v := .int (0 : Int32)) (ty := .boolean) (C := RX1) (T := TX1) (N := 8) hx hb hts (fun w9 h9 => List.mem_cons_of_mem _ (inY w9 h9)) tyX1 tyX1_ok nmX1 hown hK hP hD hS 0 rfl rfl 7 (by decide) (hts (.fieldLink RX1 51 "ExactFloatsModel" "cut" "Z") (List.mem_cons_of_mem _ mY_45)) (fun _ h9 => h9) rfl (by decide +kernel) rfl rfl (Nat.le_of_ble_eq_true rfl) dY_product_66 (fun H9 locs9 hP hD hS => ?_)
    have hP : va_P (dC, dI) vwCl [(k0, .inr (1, [.ref k_g, .int q6.2.1, .int q6.2.2.1, .int q6.2.2.2.1, .int q6.2.2.2.2.1, .long q6.2.2.2.2.2.1, .int (0 : Int32), .int (0 : Int32)])), (k_g, .inl (cB_g, 8, .inr (.inl q6.1)))] _ := hP
    have hD : va_D A [(k0, .inr (1, [.ref k_g, .int q6.2.1, .int q6.2.2.1, .int q6.2.2.2.1, .int q6.2.2.2.2.1, .long q6.2.2.2.2.2.1, .int (0 : Int32), .int (0 : Int32)])), (k_g, .inl (cB_g, 8, .inr (.inl q6.1)))] := hD
    refine lv_lload hx hb dY_product_69 (lv_at hl 2 rfl) ?_
    refine lv_lconst (v := (0 : Int64)) hx hb dY_product_71 (by decide) ?_
    refine xj_l_eq (tgt := 85) hx hb dY_product_72 dY_product_73 (by decide) (fun c7 => ?_) (fun c7 => ?_)
    · replace hF := xj_t hF c7
      refine lv_aload_n hx hb dY_product_85 rfl (lv_at hl 4 rfl) ?_
      refine lv_lconst (v := (0 : Int64)) hx hb dY_product_86 (by decide) ?_
      refine lv_iload hx hb dY_product_87 (lv_at hl 8 rfl) ?_
      obtain ⟨q8, eq8⟩ : ∃ z : Int32 × (Nat → Int64) × Int32 × Int32 × Int32 × Int32 × Int64 × Int32 × Int32, z = (mf_Y_gives q6.1 q6.2.1 q6.2.2.1 q6.2.2.2.1 q6.2.2.2.2.1 q6.2.2.2.2.2.1 (0 : Int32) (0 : Int32) (0 : Int64) p4) := ⟨_, rfl⟩
      replace hF := xj_bz hF eq8
      refine xj_vi (r := q8) (As := [.long (0 : Int64), .int p4]) (rest := []) (Wd := mw_Y k0 k_g cB_g) (wr := []) ⟨hx, hb, hml, hown, hts⟩ (by rw [eq8]; exact mc_Y_gives l dC dI k0 k_g cB_g q6.1 q6.2.1 q6.2.2.1 q6.2.2.2.1 q6.2.2.2.2.1 q6.2.2.2.2.2.1 (0 : Int32) (0 : Int32) (0 : Int64) p4 ((ms_two (xj_ge ey1 c2)).2.2) (Or.inl rfl)) (cwV 2 hts (gY_gives _) rfl rfl rfl (by decide +kernel) ⟨Nat.le_of_ble_eq_true rfl, Nat.le_of_ble_eq_true rfl⟩) hP hK hD hS hA [0, 1] [] [0] rfl (by decide) rfl (by decide) (by decide) rfl (va_recv hK hP (ci := 1) (q0 := 0) rfl rfl) rfl hl.1 rfl (Nat.le_of_ble_eq_true rfl) dY_product_89 ⟨Nat.zero_le _, Nat.zero_le _⟩ (fun H9 locs9 hP hD hS => ?_)
      have hP : va_P (dC, dI) vwCl [(k0, .inr (1, [.ref k_g, .int q8.2.2.1, .int q8.2.2.2.1, .int q8.2.2.2.2.1, .int q8.2.2.2.2.2.1, .long q8.2.2.2.2.2.2.1, .int q8.2.2.2.2.2.2.2.1, .int q8.2.2.2.2.2.2.2.2])), (k_g, .inl (cB_g, 8, .inr (.inl q8.2.1)))] _ := hP
      have hD : va_D A [(k0, .inr (1, [.ref k_g, .int q8.2.2.1, .int q8.2.2.2.1, .int q8.2.2.2.2.1, .int q8.2.2.2.2.2.1, .long q8.2.2.2.2.2.2.1, .int q8.2.2.2.2.2.2.2.1, .int q8.2.2.2.2.2.2.2.2])), (k_g, .inl (cB_g, 8, .inr (.inl q8.2.1)))] := hD
      exact W.iret (v := q8.1) hx hb hr (fun t ht hW => ⟨⟨_, (q8.2.1, q8.2.2.1, q8.2.2.2.1, q8.2.2.2.2.1, q8.2.2.2.2.2.1, q8.2.2.2.2.2.2.1, q8.2.2.2.2.2.2.2.1, q8.2.2.2.2.2.2.2.2), rfl, hF.symm, by rw [ht]; exact hP, hD⟩, hS.F ht⟩) hS.2.2 dY_product_92
    · replace hF := xj_f hF c7
      refine lv_aload_n hx hb dY_product_76 rfl (lv_at hl 4 rfl) ?_
      refine va_get (D := (dC, dI)) (ci := 1) (v := .long q6.2.2.2.2.2.1) (C := RX1) (T := TX1) (N := 8) hx hb hts (fun w9 h9 => List.mem_cons_of_mem _ (inY w9 h9)) hown hK hP 0 rfl rfl 5 (by decide) (hts (.fieldLink RX1 44 "ExactFloatsModel" "bits" "J") (List.mem_cons_of_mem _ mY_43)) (fun _ h9 => h9) rfl dY_product_77 ?_
      refine lv_lconst (v := (0 : Int64)) hx hb dY_product_80 (by decide) ?_
      refine xj_l_ne (tgt := 93) hx hb dY_product_81 dY_product_82 (by decide) (fun c9 => ?_) (fun c9 => ?_)
      · replace hF := xj_f hF c9
        refine lv_iload hx hb dY_product_93 (lv_at hl 0 rfl) ?_
        refine lv_aload_n hx hb dY_product_95 rfl (lv_at hl 4 rfl) ?_
        refine va_get (D := (dC, dI)) (ci := 1) (v := .int q6.2.2.2.1) (C := RX1) (T := TX1) (N := 8) hx hb hts (fun w9 h9 => List.mem_cons_of_mem _ (inY w9 h9)) hown hK hP 0 rfl rfl 3 (by decide) (hts (.fieldLink RX1 29 "ExactFloatsModel" "minus" "Z") (List.mem_cons_of_mem _ mY_37)) (fun _ h9 => h9) rfl dY_product_96 ?_
        obtain ⟨y11, ey11⟩ : ∃ z : Int32, z = (if q4.2.2.2.1 = q6.2.2.2.1 then (0 : Int32) else (1 : Int32)) := ⟨_, rfl⟩
        replace hF := xj_bz hF ey11
        refine xj_join 107 (fun ls' st' => lv_has ls' 20 [(9, .int q4.2.2.2.1), (8, .int q4.2.2.2.2.1), (6, .long q4.2.2.2.2.2.1), (5, .int y1), (0, .ref k0), (1, .int p1), (2, .int p2), (3, .int p3), (4, .int p4)] ∧ st' = [.int y11]) ?_ (fun K107 => ?_)
        · rintro ls st ⟨hl, rfl⟩
          refine lv_istore (lv' := [(10, .int y11), (9, .int q4.2.2.2.1), (8, .int q4.2.2.2.2.1), (6, .long q4.2.2.2.2.2.1), (5, .int y1), (0, .ref k0), (1, .int p1), (2, .int p2), (3, .int p3), (4, .int p4)]) hx hb dY_product_107 hl (by decide) rfl (fun ls hl => ?_)
          refine lv_iload hx hb dY_product_109 (lv_at hl 2 rfl) ?_
          refine lv_aload_n hx hb dY_product_111 rfl (lv_at hl 5 rfl) ?_
          refine va_get (D := (dC, dI)) (ci := 1) (v := .int q6.2.2.2.2.1) (C := RX1) (T := TX1) (N := 8) hx hb hts (fun w9 h9 => List.mem_cons_of_mem _ (inY w9 h9)) hown hK hP 0 rfl rfl 4 (by decide) (hts (.fieldLink RX1 34 "ExactFloatsModel" "exponent" "I") (List.mem_cons_of_mem _ mY_39)) (fun _ h9 => h9) rfl dY_product_112 ?_
          refine lv_iadd hx hb dY_product_115 ?_
          refine lv_sipush (v := (256 : Int32)) hx hb dY_product_116 (by decide) ?_
          refine lv_isub hx hb dY_product_119 ?_
          refine lv_topi (fun y12 ey12 => ?_)
          replace hF := xj_bz hF ey12
          refine lv_istore (lv' := [(8, .int y12), (10, .int y11), (9, .int q4.2.2.2.1), (6, .long q4.2.2.2.2.2.1), (5, .int y1), (0, .ref k0), (1, .int p1), (2, .int p2), (3, .int p3), (4, .int p4)]) hx hb dY_product_120 hl (by decide) rfl (fun ls hl => ?_)
          refine lv_iload_n hx hb dY_product_122 rfl (lv_at hl 6 rfl) ?_
          refine lv_iconst (v := (4 : Int32)) hx hb dY_product_123 (by decide) ?_
          refine lv_icmp_ne (tgt := 160) hx hb dY_product_124 (by decide) (fun c13 => ?_) (fun c13 => ?_)
          · replace hF := xj_f hF c13
            refine lv_ldc2 (own := RX1) (v := (268435455 : Int64)) hx hb hown (hts (.constantLong RX1 108 (268435455 : Int64)) (List.mem_cons_of_mem _ mY_80)) dY_product_160 ?_
            refine lv_lstore (lv' := [(11, .long (268435455 : Int64)), (8, .int y12), (10, .int y11), (9, .int q4.2.2.2.1), (6, .long q4.2.2.2.2.2.1), (5, .int y1), (0, .ref k0), (1, .int p1), (2, .int p2), (3, .int p3), (4, .int p4)]) hx hb dY_product_163 hl (by decide) rfl (fun ls hl => ?_)
            refine lv_lload hx hb dY_product_165 (lv_at hl 4 rfl) ?_
            refine lv_lload hx hb dY_product_167 (lv_at hl 0 rfl) ?_
            refine lv_land hx hb dY_product_169 ?_
            refine lv_aload_n hx hb dY_product_170 rfl (lv_at hl 6 rfl) ?_
            refine va_get (D := (dC, dI)) (ci := 1) (v := .long q6.2.2.2.2.2.1) (C := RX1) (T := TX1) (N := 8) hx hb hts (fun w9 h9 => List.mem_cons_of_mem _ (inY w9 h9)) hown hK hP 0 rfl rfl 5 (by decide) (hts (.fieldLink RX1 44 "ExactFloatsModel" "bits" "J") (List.mem_cons_of_mem _ mY_43)) (fun _ h9 => h9) rfl dY_product_171 ?_
            refine lv_lload hx hb dY_product_174 (lv_at hl 0 rfl) ?_
            refine lv_land hx hb dY_product_176 ?_
            refine lv_lmul hx hb dY_product_177 ?_
            refine lv_topl (fun y14 ey14 => ?_)
            replace hF := xj_bz hF ey14
            refine lv_lstore (lv' := [(13, .long y14), (11, .long (268435455 : Int64)), (8, .int y12), (10, .int y11), (9, .int q4.2.2.2.1), (6, .long q4.2.2.2.2.2.1), (5, .int y1), (0, .ref k0), (1, .int p1), (2, .int p2), (3, .int p3), (4, .int p4)]) hx hb dY_product_178 hl (by decide) rfl (fun ls hl => ?_)
            refine lv_lload hx hb dY_product_180 (lv_at hl 5 rfl) ?_
            refine lv_bipush (v := (28 : Int32)) hx hb dY_product_182 (by decide) ?_
            refine lv_lshr (v := (xj_shr q4.2.2.2.2.2.1 (28 : Int32))) hx hb dY_product_184 rfl ?_
            refine lv_aload_n hx hb dY_product_185 rfl (lv_at hl 7 rfl) ?_
            refine va_get (D := (dC, dI)) (ci := 1) (v := .long q6.2.2.2.2.2.1) (C := RX1) (T := TX1) (N := 8) hx hb hts (fun w9 h9 => List.mem_cons_of_mem _ (inY w9 h9)) hown hK hP 0 rfl rfl 5 (by decide) (hts (.fieldLink RX1 44 "ExactFloatsModel" "bits" "J") (List.mem_cons_of_mem _ mY_43)) (fun _ h9 => h9) rfl dY_product_186 ?_
            refine lv_lload hx hb dY_product_189 (lv_at hl 1 rfl) ?_
            refine lv_land hx hb dY_product_191 ?_
            refine lv_lmul hx hb dY_product_192 ?_
            refine lv_lload hx hb dY_product_193 (lv_at hl 5 rfl) ?_
            refine lv_lload hx hb dY_product_195 (lv_at hl 1 rfl) ?_
            refine lv_land hx hb dY_product_197 ?_
            refine lv_aload_n hx hb dY_product_198 rfl (lv_at hl 7 rfl) ?_
            refine va_get (D := (dC, dI)) (ci := 1) (v := .long q6.2.2.2.2.2.1) (C := RX1) (T := TX1) (N := 8) hx hb hts (fun w9 h9 => List.mem_cons_of_mem _ (inY w9 h9)) hown hK hP 0 rfl rfl 5 (by decide) (hts (.fieldLink RX1 44 "ExactFloatsModel" "bits" "J") (List.mem_cons_of_mem _ mY_43)) (fun _ h9 => h9) rfl dY_product_199 ?_
            refine lv_bipush (v := (28 : Int32)) hx hb dY_product_202 (by decide) ?_
            refine lv_lshr (v := (xj_shr q6.2.2.2.2.2.1 (28 : Int32))) hx hb dY_product_204 rfl ?_
            refine lv_lmul hx hb dY_product_205 ?_
            refine lv_ladd hx hb dY_product_206 ?_
            refine lv_lload hx hb dY_product_207 (lv_at hl 0 rfl) ?_
            refine lv_bipush (v := (28 : Int32)) hx hb dY_product_209 (by decide) ?_
            refine lv_lshr (v := (xj_shr y14 (28 : Int32))) hx hb dY_product_211 rfl ?_
            refine lv_ladd hx hb dY_product_212 ?_
            refine lv_topl (fun y15 ey15 => ?_)
            replace hF := xj_bz hF ey15
            refine lv_lstore (lv' := [(15, .long y15), (13, .long y14), (11, .long (268435455 : Int64)), (8, .int y12), (10, .int y11), (9, .int q4.2.2.2.1), (6, .long q4.2.2.2.2.2.1), (5, .int y1), (0, .ref k0), (1, .int p1), (2, .int p2), (3, .int p3), (4, .int p4)]) hx hb dY_product_213 hl (by decide) rfl (fun ls hl => ?_)
            refine lv_lload hx hb dY_product_215 (lv_at hl 6 rfl) ?_
            refine lv_bipush (v := (28 : Int32)) hx hb dY_product_217 (by decide) ?_
            refine lv_lshr (v := (xj_shr q4.2.2.2.2.2.1 (28 : Int32))) hx hb dY_product_219 rfl ?_
            refine lv_aload_n hx hb dY_product_220 rfl (lv_at hl 8 rfl) ?_
            refine va_get (D := (dC, dI)) (ci := 1) (v := .long q6.2.2.2.2.2.1) (C := RX1) (T := TX1) (N := 8) hx hb hts (fun w9 h9 => List.mem_cons_of_mem _ (inY w9 h9)) hown hK hP 0 rfl rfl 5 (by decide) (hts (.fieldLink RX1 44 "ExactFloatsModel" "bits" "J") (List.mem_cons_of_mem _ mY_43)) (fun _ h9 => h9) rfl dY_product_221 ?_
            refine lv_bipush (v := (28 : Int32)) hx hb dY_product_224 (by decide) ?_
            refine lv_lshr (v := (xj_shr q6.2.2.2.2.2.1 (28 : Int32))) hx hb dY_product_226 rfl ?_
            refine lv_lmul hx hb dY_product_227 ?_
            refine lv_topl (fun y16 ey16 => ?_)
            replace hF := xj_bz hF ey16
            refine lv_lstore (lv' := [(17, .long y16), (15, .long y15), (13, .long y14), (11, .long (268435455 : Int64)), (8, .int y12), (10, .int y11), (9, .int q4.2.2.2.1), (6, .long q4.2.2.2.2.2.1), (5, .int y1), (0, .ref k0), (1, .int p1), (2, .int p2), (3, .int p3), (4, .int p4)]) hx hb dY_product_228 hl (by decide) rfl (fun ls hl => ?_)
            refine lv_lload hx hb dY_product_230 (lv_at hl 2 rfl) ?_
            refine lv_lload hx hb dY_product_232 (lv_at hl 3 rfl) ?_
            refine lv_land hx hb dY_product_234 ?_
            refine lv_lconst (v := (0 : Int64)) hx hb dY_product_235 (by decide) ?_
            obtain ⟨y18, ey18⟩ : ∃ z : Int32, z = (if (y14 &&& (268435455 : Int64)) = (0 : Int64) then (if (y15 &&& (4194303 : Int64)) = (0 : Int64) then (0 : Int32) else (1 : Int32)) else (1 : Int32)) := ⟨_, rfl⟩
            replace hF := xj_bz hF ey18
            refine xj_join 256 (fun ls' st' => lv_has ls' 20 [(17, .long y16), (15, .long y15), (13, .long y14), (11, .long (268435455 : Int64)), (8, .int y12), (10, .int y11), (9, .int q4.2.2.2.1), (6, .long q4.2.2.2.2.2.1), (5, .int y1), (0, .ref k0), (1, .int p1), (2, .int p2), (3, .int p3), (4, .int p4)] ∧ st' = [.int y18]) ?_ (fun K256 => ?_)
            · rintro ls st ⟨hl, rfl⟩
              refine lv_istore (lv' := [(19, .int y18), (17, .long y16), (15, .long y15), (13, .long y14), (11, .long (268435455 : Int64)), (8, .int y12), (10, .int y11), (9, .int q4.2.2.2.1), (6, .long q4.2.2.2.2.2.1), (5, .int y1), (0, .ref k0), (1, .int p1), (2, .int p2), (3, .int p3), (4, .int p4)]) hx hb dY_product_256 hl (by decide) rfl (fun ls hl => ?_)
              refine lv_aload_n hx hb dY_product_258 rfl (lv_at hl 10 rfl) ?_
              refine lv_aload_n hx hb dY_product_259 rfl (lv_at hl 10 rfl) ?_
              refine lv_bipush (v := (8 : Int32)) hx hb dY_product_260 (by decide) ?_
              refine lv_iload hx hb dY_product_262 (lv_at hl 6 rfl) ?_
              refine lv_lload hx hb dY_product_264 (lv_at hl 1 rfl) ?_
              refine lv_bipush (v := (6 : Int32)) hx hb dY_product_266 (by decide) ?_
              refine lv_lshl (v := (xj_shl y16 (6 : Int32))) hx hb dY_product_268 rfl ?_
              refine lv_lload hx hb dY_product_269 (lv_at hl 2 rfl) ?_
              refine lv_bipush (v := (22 : Int32)) hx hb dY_product_271 (by decide) ?_
              refine lv_lshr (v := (xj_shr y15 (22 : Int32))) hx hb dY_product_273 rfl ?_
              refine lv_ladd hx hb dY_product_274 ?_
              refine lv_iload hx hb dY_product_275 (lv_at hl 5 rfl) ?_
              refine lv_bipush (v := (112 : Int32)) hx hb dY_product_277 (by decide) ?_
              refine lv_isub hx hb dY_product_279 ?_
              refine lv_bipush (v := (50 : Int32)) hx hb dY_product_280 (by decide) ?_
              refine lv_iadd hx hb dY_product_282 ?_
              refine lv_iload hx hb dY_product_283 (lv_at hl 0 rfl) ?_
              obtain ⟨q19, eq19⟩ : ∃ z : Int64 × (Nat → Int64) × Int32 × Int32 × Int32 × Int32 × Int64 × Int32 × Int32, z = (mf_Y_rounds q6.1 q6.2.1 q6.2.2.1 q6.2.2.2.1 q6.2.2.2.2.1 q6.2.2.2.2.2.1 (0 : Int32) (0 : Int32) (8 : Int32) y11 ((xj_shl y16 (6 : Int32)) + (xj_shr y15 (22 : Int32))) ((y12 - (112 : Int32)) + (50 : Int32)) y18) := ⟨_, rfl⟩
              replace hF := xj_bz hF eq19
              refine xj_vl (r := q19) (As := [.int (8 : Int32), .int y11, .long ((xj_shl y16 (6 : Int32)) + (xj_shr y15 (22 : Int32))), .int ((y12 - (112 : Int32)) + (50 : Int32)), .int y18]) (rest := [.ref k0]) (Wd := mw_Y k0 k_g cB_g) (wr := []) ⟨hx, hb, hml, hown, hts⟩ (by rw [eq19]; exact mc_Y_rounds l dC dI k0 k_g cB_g q6.1 q6.2.1 q6.2.2.1 q6.2.2.2.1 q6.2.2.2.2.1 q6.2.2.2.2.2.1 (0 : Int32) (0 : Int32) (8 : Int32) y11 ((xj_shl y16 (6 : Int32)) + (xj_shr y15 (22 : Int32))) ((y12 - (112 : Int32)) + (50 : Int32)) y18 (by rw [ey18]; (repeat' split) <;> simp)) (cwV 5 hts (gY_rounds _) rfl rfl rfl (by decide +kernel) ⟨Nat.le_of_ble_eq_true rfl, Nat.le_of_ble_eq_true rfl⟩) hP hK hD hS hA [0, 1] [] [0] rfl (by decide) rfl (by decide) (by decide) rfl (va_recv hK hP (ci := 1) (q0 := 0) rfl rfl) rfl hl.1 rfl (Nat.le_of_ble_eq_true rfl) dY_product_285 ⟨Nat.zero_le _, Nat.zero_le _⟩ (fun H9 locs9 hP hD hS => ?_)
              have hP : va_P (dC, dI) vwCl [(k0, .inr (1, [.ref k_g, .int q19.2.2.1, .int q19.2.2.2.1, .int q19.2.2.2.2.1, .int q19.2.2.2.2.2.1, .long q19.2.2.2.2.2.2.1, .int q19.2.2.2.2.2.2.2.1, .int q19.2.2.2.2.2.2.2.2])), (k_g, .inl (cB_g, 8, .inr (.inl q19.2.1)))] _ := hP
              have hD : va_D A [(k0, .inr (1, [.ref k_g, .int q19.2.2.1, .int q19.2.2.2.1, .int q19.2.2.2.2.1, .int q19.2.2.2.2.2.1, .long q19.2.2.2.2.2.2.1, .int q19.2.2.2.2.2.2.2.1, .int q19.2.2.2.2.2.2.2.2])), (k_g, .inl (cB_g, 8, .inr (.inl q19.2.1)))] := hD
              refine lv_iload hx hb dY_product_288 (lv_at hl 14 rfl) ?_
              obtain ⟨q20, eq20⟩ : ∃ z : Int32 × (Nat → Int64) × Int32 × Int32 × Int32 × Int32 × Int64 × Int32 × Int32, z = (mf_Y_gives q19.2.1 q19.2.2.1 q19.2.2.2.1 q19.2.2.2.2.1 q19.2.2.2.2.2.1 q19.2.2.2.2.2.2.1 q19.2.2.2.2.2.2.2.1 q19.2.2.2.2.2.2.2.2 q19.1 p4) := ⟨_, rfl⟩
              replace hF := xj_bz hF eq20
              refine xj_vi (r := q20) (As := [.long q19.1, .int p4]) (rest := []) (Wd := mw_Y k0 k_g cB_g) (wr := []) ⟨hx, hb, hml, hown, hts⟩ (by rw [eq20]; exact mc_Y_gives l dC dI k0 k_g cB_g q19.2.1 q19.2.2.1 q19.2.2.2.1 q19.2.2.2.2.1 q19.2.2.2.2.2.1 q19.2.2.2.2.2.2.1 q19.2.2.2.2.2.2.2.1 q19.2.2.2.2.2.2.2.2 q19.1 p4 ((ms_two (xj_ge ey1 c2)).2.2) (by rw [eq19]; exact ms_cut_rounds (by rw [ey18]; (repeat' split) <;> simp))) (cwV 2 hts (gY_gives _) rfl rfl rfl (by decide +kernel) ⟨Nat.le_of_ble_eq_true rfl, Nat.le_of_ble_eq_true rfl⟩) hP hK hD hS hA [0, 1] [] [0] rfl (by decide) rfl (by decide) (by decide) rfl (va_recv hK hP (ci := 1) (q0 := 0) rfl rfl) rfl hl.1 rfl (Nat.le_of_ble_eq_true rfl) dY_product_290 ⟨Nat.zero_le _, Nat.zero_le _⟩ (fun H9 locs9 hP hD hS => ?_)
              have hP : va_P (dC, dI) vwCl [(k0, .inr (1, [.ref k_g, .int q20.2.2.1, .int q20.2.2.2.1, .int q20.2.2.2.2.1, .int q20.2.2.2.2.2.1, .long q20.2.2.2.2.2.2.1, .int q20.2.2.2.2.2.2.2.1, .int q20.2.2.2.2.2.2.2.2])), (k_g, .inl (cB_g, 8, .inr (.inl q20.2.1)))] _ := hP
              have hD : va_D A [(k0, .inr (1, [.ref k_g, .int q20.2.2.1, .int q20.2.2.2.1, .int q20.2.2.2.2.1, .int q20.2.2.2.2.2.1, .long q20.2.2.2.2.2.2.1, .int q20.2.2.2.2.2.2.2.1, .int q20.2.2.2.2.2.2.2.2])), (k_g, .inl (cB_g, 8, .inr (.inl q20.2.1)))] := hD
              exact W.iret (v := q20.1) hx hb hr (fun t ht hW => ⟨⟨_, (q20.2.1, q20.2.2.1, q20.2.2.2.1, q20.2.2.2.2.1, q20.2.2.2.2.2.1, q20.2.2.2.2.2.2.1, q20.2.2.2.2.2.2.2.1, q20.2.2.2.2.2.2.2.2), rfl, hF.symm, by rw [ht]; exact hP, hD⟩, hS.F ht⟩) hS.2.2 dY_product_293
            · refine xj_l_ne (tgt := 251) hx hb dY_product_236 dY_product_237 (by decide) (fun c17 => ?_) (fun c17 => ?_)
              · replace ey18 := xj_f ey18 c17
                refine lv_iconst (v := (1 : Int32)) hx hb dY_product_251 (by decide) ?_
                refine lv_goto (tgt := 256) hx hb dY_product_252 (by decide) ?_
                subst ey18
                exact K256 _ _ ⟨lv_sub hl [0, 1, 2, 3, 4, 5, 6, 7, 8, 9, 10, 11, 12, 13] rfl, rfl⟩
              · replace ey18 := xj_t ey18 c17
                refine lv_lload hx hb dY_product_240 (lv_at hl 1 rfl) ?_
                refine lv_ldc2 (own := RX1) (v := (4194303 : Int64)) hx hb hown (hts (.constantLong RX1 110 (4194303 : Int64)) (List.mem_cons_of_mem _ mY_81)) dY_product_242 ?_
                refine lv_land hx hb dY_product_245 ?_
                refine lv_lconst (v := (0 : Int64)) hx hb dY_product_246 (by decide) ?_
                refine xj_l_eq (tgt := 255) hx hb dY_product_247 dY_product_248 (by decide) (fun c21 => ?_) (fun c21 => ?_)
                · replace ey18 := xj_t ey18 c21
                  refine lv_iconst (v := (0 : Int32)) hx hb dY_product_255 (by decide) ?_
                  subst ey18
                  exact K256 _ _ ⟨lv_sub hl [0, 1, 2, 3, 4, 5, 6, 7, 8, 9, 10, 11, 12, 13] rfl, rfl⟩
                · replace ey18 := xj_f ey18 c21
                  refine lv_iconst (v := (1 : Int32)) hx hb dY_product_251 (by decide) ?_
                  refine lv_goto (tgt := 256) hx hb dY_product_252 (by decide) ?_
                  subst ey18
                  exact K256 _ _ ⟨lv_sub hl [0, 1, 2, 3, 4, 5, 6, 7, 8, 9, 10, 11, 12, 13] rfl, rfl⟩
          · replace hF := xj_t hF c13
            refine lv_aload_n hx hb dY_product_127 rfl (lv_at hl 5 rfl) ?_
            refine lv_aload_n hx hb dY_product_128 rfl (lv_at hl 5 rfl) ?_
            refine lv_iconst (v := (4 : Int32)) hx hb dY_product_129 (by decide) ?_
            refine lv_iload hx hb dY_product_130 (lv_at hl 1 rfl) ?_
            refine lv_lload hx hb dY_product_132 (lv_at hl 3 rfl) ?_
            refine lv_bipush (v := (32 : Int32)) hx hb dY_product_134 (by decide) ?_
            refine lv_lshr (v := (xj_shr q4.2.2.2.2.2.1 (32 : Int32))) hx hb dY_product_136 rfl ?_
            refine lv_aload_n hx hb dY_product_137 rfl (lv_at hl 5 rfl) ?_
            refine va_get (D := (dC, dI)) (ci := 1) (v := .long q6.2.2.2.2.2.1) (C := RX1) (T := TX1) (N := 8) hx hb hts (fun w9 h9 => List.mem_cons_of_mem _ (inY w9 h9)) hown hK hP 0 rfl rfl 5 (by decide) (hts (.fieldLink RX1 44 "ExactFloatsModel" "bits" "J") (List.mem_cons_of_mem _ mY_43)) (fun _ h9 => h9) rfl dY_product_138 ?_
            refine lv_bipush (v := (32 : Int32)) hx hb dY_product_141 (by decide) ?_
            refine lv_lshr (v := (xj_shr q6.2.2.2.2.2.1 (32 : Int32))) hx hb dY_product_143 rfl ?_
            refine lv_lmul hx hb dY_product_144 ?_
            refine lv_iload hx hb dY_product_145 (lv_at hl 0 rfl) ?_
            refine lv_bipush (v := (48 : Int32)) hx hb dY_product_147 (by decide) ?_
            refine lv_isub hx hb dY_product_149 ?_
            refine lv_iconst (v := (0 : Int32)) hx hb dY_product_150 (by decide) ?_
            obtain ⟨q22, eq22⟩ : ∃ z : Int64 × (Nat → Int64) × Int32 × Int32 × Int32 × Int32 × Int64 × Int32 × Int32, z = (mf_Y_rounds q6.1 q6.2.1 q6.2.2.1 q6.2.2.2.1 q6.2.2.2.2.1 q6.2.2.2.2.2.1 (0 : Int32) (0 : Int32) (4 : Int32) y11 ((xj_shr q4.2.2.2.2.2.1 (32 : Int32)) * (xj_shr q6.2.2.2.2.2.1 (32 : Int32))) (y12 - (48 : Int32)) (0 : Int32)) := ⟨_, rfl⟩
            replace hF := xj_bz hF eq22
            refine xj_vl (r := q22) (As := [.int (4 : Int32), .int y11, .long ((xj_shr q4.2.2.2.2.2.1 (32 : Int32)) * (xj_shr q6.2.2.2.2.2.1 (32 : Int32))), .int (y12 - (48 : Int32)), .int (0 : Int32)]) (rest := [.ref k0]) (Wd := mw_Y k0 k_g cB_g) (wr := []) ⟨hx, hb, hml, hown, hts⟩ (by rw [eq22]; exact mc_Y_rounds l dC dI k0 k_g cB_g q6.1 q6.2.1 q6.2.2.1 q6.2.2.2.1 q6.2.2.2.2.1 q6.2.2.2.2.2.1 (0 : Int32) (0 : Int32) (4 : Int32) y11 ((xj_shr q4.2.2.2.2.2.1 (32 : Int32)) * (xj_shr q6.2.2.2.2.2.1 (32 : Int32))) (y12 - (48 : Int32)) (0 : Int32) (Or.inl rfl)) (cwV 5 hts (gY_rounds _) rfl rfl rfl (by decide +kernel) ⟨Nat.le_of_ble_eq_true rfl, Nat.le_of_ble_eq_true rfl⟩) hP hK hD hS hA [0, 1] [] [0] rfl (by decide) rfl (by decide) (by decide) rfl (va_recv hK hP (ci := 1) (q0 := 0) rfl rfl) rfl hl.1 rfl (Nat.le_of_ble_eq_true rfl) dY_product_151 ⟨Nat.zero_le _, Nat.zero_le _⟩ (fun H9 locs9 hP hD hS => ?_)
            have hP : va_P (dC, dI) vwCl [(k0, .inr (1, [.ref k_g, .int q22.2.2.1, .int q22.2.2.2.1, .int q22.2.2.2.2.1, .int q22.2.2.2.2.2.1, .long q22.2.2.2.2.2.2.1, .int q22.2.2.2.2.2.2.2.1, .int q22.2.2.2.2.2.2.2.2])), (k_g, .inl (cB_g, 8, .inr (.inl q22.2.1)))] _ := hP
            have hD : va_D A [(k0, .inr (1, [.ref k_g, .int q22.2.2.1, .int q22.2.2.2.1, .int q22.2.2.2.2.1, .int q22.2.2.2.2.2.1, .long q22.2.2.2.2.2.2.1, .int q22.2.2.2.2.2.2.2.1, .int q22.2.2.2.2.2.2.2.2])), (k_g, .inl (cB_g, 8, .inr (.inl q22.2.1)))] := hD
            refine lv_iload hx hb dY_product_154 (lv_at hl 9 rfl) ?_
            obtain ⟨q23, eq23⟩ : ∃ z : Int32 × (Nat → Int64) × Int32 × Int32 × Int32 × Int32 × Int64 × Int32 × Int32, z = (mf_Y_gives q22.2.1 q22.2.2.1 q22.2.2.2.1 q22.2.2.2.2.1 q22.2.2.2.2.2.1 q22.2.2.2.2.2.2.1 q22.2.2.2.2.2.2.2.1 q22.2.2.2.2.2.2.2.2 q22.1 p4) := ⟨_, rfl⟩
            replace hF := xj_bz hF eq23
            refine xj_vi (r := q23) (As := [.long q22.1, .int p4]) (rest := []) (Wd := mw_Y k0 k_g cB_g) (wr := []) ⟨hx, hb, hml, hown, hts⟩ (by rw [eq23]; exact mc_Y_gives l dC dI k0 k_g cB_g q22.2.1 q22.2.2.1 q22.2.2.2.1 q22.2.2.2.2.1 q22.2.2.2.2.2.1 q22.2.2.2.2.2.2.1 q22.2.2.2.2.2.2.2.1 q22.2.2.2.2.2.2.2.2 q22.1 p4 ((ms_two (xj_ge ey1 c2)).2.2) (by rw [eq22]; exact ms_cut_rounds (Or.inl rfl))) (cwV 2 hts (gY_gives _) rfl rfl rfl (by decide +kernel) ⟨Nat.le_of_ble_eq_true rfl, Nat.le_of_ble_eq_true rfl⟩) hP hK hD hS hA [0, 1] [] [0] rfl (by decide) rfl (by decide) (by decide) rfl (va_recv hK hP (ci := 1) (q0 := 0) rfl rfl) rfl hl.1 rfl (Nat.le_of_ble_eq_true rfl) dY_product_156 ⟨Nat.zero_le _, Nat.zero_le _⟩ (fun H9 locs9 hP hD hS => ?_)
            have hP : va_P (dC, dI) vwCl [(k0, .inr (1, [.ref k_g, .int q23.2.2.1, .int q23.2.2.2.1, .int q23.2.2.2.2.1, .int q23.2.2.2.2.2.1, .long q23.2.2.2.2.2.2.1, .int q23.2.2.2.2.2.2.2.1, .int q23.2.2.2.2.2.2.2.2])), (k_g, .inl (cB_g, 8, .inr (.inl q23.2.1)))] _ := hP
            have hD : va_D A [(k0, .inr (1, [.ref k_g, .int q23.2.2.1, .int q23.2.2.2.1, .int q23.2.2.2.2.1, .int q23.2.2.2.2.2.1, .long q23.2.2.2.2.2.2.1, .int q23.2.2.2.2.2.2.2.1, .int q23.2.2.2.2.2.2.2.2])), (k_g, .inl (cB_g, 8, .inr (.inl q23.2.1)))] := hD
            exact W.iret (v := q23.1) hx hb hr (fun t ht hW => ⟨⟨_, (q23.2.1, q23.2.2.1, q23.2.2.2.1, q23.2.2.2.2.1, q23.2.2.2.2.2.1, q23.2.2.2.2.2.2.1, q23.2.2.2.2.2.2.2.1, q23.2.2.2.2.2.2.2.2), rfl, hF.symm, by rw [ht]; exact hP, hD⟩, hS.F ht⟩) hS.2.2 dY_product_159
        · refine lv_icmp_eq (tgt := 106) hx hb dY_product_99 (by decide) (fun c10 => ?_) (fun c10 => ?_)
          · replace ey11 := xj_t ey11 c10
            refine lv_iconst (v := (0 : Int32)) hx hb dY_product_106 (by decide) ?_
            subst ey11
            exact K107 _ _ ⟨lv_sub hl [0, 1, 2, 3, 4, 5, 6, 7, 8] rfl, rfl⟩
          · replace ey11 := xj_f ey11 c10
            refine lv_iconst (v := (1 : Int32)) hx hb dY_product_102 (by decide) ?_
            refine lv_goto (tgt := 107) hx hb dY_product_103 (by decide) ?_
            subst ey11
            exact K107 _ _ ⟨lv_sub hl [0, 1, 2, 3, 4, 5, 6, 7, 8] rfl, rfl⟩
      · replace hF := xj_t hF c9
        refine lv_aload_n hx hb dY_product_85 rfl (lv_at hl 4 rfl) ?_
        refine lv_lconst (v := (0 : Int64)) hx hb dY_product_86 (by decide) ?_
        refine lv_iload hx hb dY_product_87 (lv_at hl 8 rfl) ?_
        obtain ⟨q24, eq24⟩ : ∃ z : Int32 × (Nat → Int64) × Int32 × Int32 × Int32 × Int32 × Int64 × Int32 × Int32, z = (mf_Y_gives q6.1 q6.2.1 q6.2.2.1 q6.2.2.2.1 q6.2.2.2.2.1 q6.2.2.2.2.2.1 (0 : Int32) (0 : Int32) (0 : Int64) p4) := ⟨_, rfl⟩
        replace hF := xj_bz hF eq24
        refine xj_vi (r := q24) (As := [.long (0 : Int64), .int p4]) (rest := []) (Wd := mw_Y k0 k_g cB_g) (wr := []) ⟨hx, hb, hml, hown, hts⟩ (by rw [eq24]; exact mc_Y_gives l dC dI k0 k_g cB_g q6.1 q6.2.1 q6.2.2.1 q6.2.2.2.1 q6.2.2.2.2.1 q6.2.2.2.2.2.1 (0 : Int32) (0 : Int32) (0 : Int64) p4 ((ms_two (xj_ge ey1 c2)).2.2) (Or.inl rfl)) (cwV 2 hts (gY_gives _) rfl rfl rfl (by decide +kernel) ⟨Nat.le_of_ble_eq_true rfl, Nat.le_of_ble_eq_true rfl⟩) hP hK hD hS hA [0, 1] [] [0] rfl (by decide) rfl (by decide) (by decide) rfl (va_recv hK hP (ci := 1) (q0 := 0) rfl rfl) rfl hl.1 rfl (Nat.le_of_ble_eq_true rfl) dY_product_89 ⟨Nat.zero_le _, Nat.zero_le _⟩ (fun H9 locs9 hP hD hS => ?_)
        have hP : va_P (dC, dI) vwCl [(k0, .inr (1, [.ref k_g, .int q24.2.2.1, .int q24.2.2.2.1, .int q24.2.2.2.2.1, .int q24.2.2.2.2.2.1, .long q24.2.2.2.2.2.2.1, .int q24.2.2.2.2.2.2.2.1, .int q24.2.2.2.2.2.2.2.2])), (k_g, .inl (cB_g, 8, .inr (.inl q24.2.1)))] _ := hP
        have hD : va_D A [(k0, .inr (1, [.ref k_g, .int q24.2.2.1, .int q24.2.2.2.1, .int q24.2.2.2.2.1, .int q24.2.2.2.2.2.1, .long q24.2.2.2.2.2.2.1, .int q24.2.2.2.2.2.2.2.1, .int q24.2.2.2.2.2.2.2.2])), (k_g, .inl (cB_g, 8, .inr (.inl q24.2.1)))] := hD
        exact W.iret (v := q24.1) hx hb hr (fun t ht hW => ⟨⟨_, (q24.2.1, q24.2.2.1, q24.2.2.2.1, q24.2.2.2.2.1, q24.2.2.2.2.2.1, q24.2.2.2.2.2.2.1, q24.2.2.2.2.2.2.2.1, q24.2.2.2.2.2.2.2.2), rfl, hF.symm, by rw [ht]; exact hP, hD⟩, hS.F ht⟩) hS.2.2 dY_product_92
  · replace hF := xj_f hF c2
    refine lv_iload hx hb dY_product_16 (lv_at hl 0 rfl) ?_
    exact W.iret (v := y1) hx hb hr (fun t ht hW => ⟨⟨_, (g, ak, il, mi, xe, bi, fa, cu), rfl, hF.symm, by rw [ht]; exact hP, hD⟩, hS.F ht⟩) hS.2.2 dY_product_18
def mf_Y_compare (g : Nat → Int64) (ak : Int32) (il : Int32) (mi : Int32) (xe : Int32) (bi : Int64) (fa : Int32) (cu : Int32) (p1 : Int32) (p2 : Int32) (p3 : Int32) : Int32 × (Nat → Int64) × Int32 × Int32 × Int32 × Int32 × Int64 × Int32 × Int32 := (xj_bnd (mf_Y_two g ak il mi xe bi fa cu p1 p2 p3 (0 : Int32)) (fun y1 => (if 0 ≤ y1 then (xj_bnd (mf_Y_in g ak il mi xe bi fa cu p1 p2) (fun y3 => (xj_bnd (mf_Y_in g ak il mi xe bi fa cu p1 p3) (fun y4 => (xj_bnd (mf_Y_isZero y3) (fun y5 => (xj_bnd (if y5 = 0 then (xj_bnd (mf_Y_isBelow y3) (fun y7 => (if y7 = 0 then (1 : Int32) else (-1 : Int32)))) else (0 : Int32)) (fun y7 => (xj_bnd (mf_Y_isZero y4) (fun y8 => (xj_bnd (if y8 = 0 then (xj_bnd (mf_Y_isBelow y4) (fun y10 => (if y10 = 0 then (1 : Int32) else (-1 : Int32)))) else (0 : Int32)) (fun y10 => (if y7 = y10 then (if y7 = 0 then ((4 : Int32), (g, ak, il, mi, xe, bi, fa, cu)) else (xj_bnd (mf_Y_take g ak il mi xe bi fa cu p1 y3) (fun q13 => (xj_bnd (mf_Y_take q13.1 q13.2.1 q13.2.2.1 q13.2.2.2.1 q13.2.2.2.2.1 q13.2.2.2.2.2.1 q13.2.2.2.2.2.2.1 q13.2.2.2.2.2.2.2 p1 y4) (fun q14 => (xj_bnd (xj_bnd (if q13.2.2.2.2.1 < q14.2.2.2.2.1 then (1 : Int32) else (if q13.2.2.2.2.1 = q14.2.2.2.2.1 then (if q14.2.2.2.2.2.1 ≤ q13.2.2.2.2.2.1 then (0 : Int32) else (1 : Int32)) else (0 : Int32))) (fun y18 => (xj_bnd (if y7 ≤ 0 then (0 : Int32) else (1 : Int32)) (fun y20 => (if y18 = y20 then ((8 : Int32), (q14.1, q14.2.1, q14.2.2.1, q14.2.2.2.1, q14.2.2.2.2.1, q14.2.2.2.2.2.1, q14.2.2.2.2.2.2.1, q14.2.2.2.2.2.2.2)) else ((0 : Int32), (q14.1, q14.2.1, q14.2.2.1, q14.2.2.2.1, q14.2.2.2.2.1, q14.2.2.2.2.2.1, q14.2.2.2.2.2.2.1, q14.2.2.2.2.2.2.2))))))) (fun k16 => (if q13.2.2.2.2.1 = q14.2.2.2.2.1 then (if q13.2.2.2.2.2.1 = q14.2.2.2.2.2.1 then ((4 : Int32), (q14.1, q14.2.1, q14.2.2.1, q14.2.2.2.1, q14.2.2.2.2.1, q14.2.2.2.2.2.1, q14.2.2.2.2.2.2.1, q14.2.2.2.2.2.2.2)) else k16) else k16)))))))) else (if y10 ≤ y7 then ((0 : Int32), (g, ak, il, mi, xe, bi, fa, cu)) else ((8 : Int32), (g, ak, il, mi, xe, bi, fa, cu)))))))))))))))) else (y1, (g, ak, il, mi, xe, bi, fa, cu)))))
set_option maxHeartbeats 4000000 in
set_option maxRecDepth 100000 in
theorem mc_Y_compare (l : Launch) (dC : Nat → ClassId) (dI : Nat → Nat → Nat) (k0 k_g : Nat) (cB_g : ClassId) (g : Nat → Int64) (ak : Int32) (il : Int32) (mi : Int32) (xe : Int32) (bi : Int64) (fa : Int32) (cu : Int32) (p1 : Int32) (p2 : Int32) (p3 : Int32) : xj_Oi l (dC, dI) vwCl [(cB_g, .long)] (mw_Y k0 k_g cB_g) yY_compare wsY_compare ({ frames := 2, cells := 0, slots := 0, locals := 46 }) [.ref k0, .int p1, .int p2, .int p3] (g, ak, il, mi, xe, bi, fa, cu) (mf_Y_compare g ak il mi xe bi fa cu p1 p2 p3) := by
  intro sz
  refine Met.ofW (cc := cY_compare) (maxL := 15) (ret := (some .int)) (by decide) rfl ?_
  intro p e s m args below meth c s₁ B hml hv
  obtain ⟨rfl, hsz, hP, hK, hD0⟩ := hv
  have hx := B.exec
  have hb := B.bytes
  have hr := B.returns
  have hts := atoms_spec (ws := wsY_compare) B.pre
  have hown : s.vm.findClass RX1 = some m.cls := findClass_of_methodNamed B.named
  have hlocks := B.notSynchronized
  subst hsz
  have hD := hD0.self (sz := s.heap.size)
  generalize hAe : va_A (mw_Y k0 k_g cB_g (g, ak, il, mi, xe, bi, fa, cu)) s.heap.size = A at hD ⊢
  have hA : ∀ q : Nat, s.heap.size ≤ q → A q := fun q h => by rw [← hAe]; exact Or.inr h
  have hS : va_S A s.heap s.heap [] := va_S.rf
  have hP : va_P (dC, dI) vwCl [(k0, .inr (1, [.ref k_g, .int ak, .int il, .int mi, .int xe, .long bi, .int fa, .int cu])), (k_g, .inl (cB_g, 8, .inr (.inl g)))] s.heap := hP
  have hD : va_D A [(k0, .inr (1, [.ref k_g, .int ak, .int il, .int mi, .int xe, .long bi, .int fa, .int cu])), (k_g, .inl (cB_g, 8, .inr (.inl g)))] := hD
  generalize hT : mf_Y_compare g ak il mi xe bi fa cu p1 p2 p3 = T
  have hF := hT.symm
  unfold mf_Y_compare at hF
  have hl := lv_entry ([.ref k0, .int p1, .int p2, .int p3]) (n := 15) (Nat.le_of_ble_eq_true rfl)
  rw [lg_entry_eq]
  generalize (lg_sl ([.ref k0, .int p1, .int p2, .int p3]) ++ List.replicate (15 - (lg_sl ([.ref k0, .int p1, .int p2, .int p3])).length) Slot.unset).toArray = ls at hl ⊢
  have hl : lv_has ls 15 [(0, .ref k0), (1, .int p1), (2, .int p2), (3, .int p3)] := hl
  refine lv_aload_n hx hb dY_compare_0 rfl (lv_at hl 0 rfl) ?_
  refine lv_iload_n hx hb dY_compare_1 rfl (lv_at hl 1 rfl) ?_
  refine lv_iload_n hx hb dY_compare_2 rfl (lv_at hl 2 rfl) ?_
  refine lv_iload_n hx hb dY_compare_3 rfl (lv_at hl 3 rfl) ?_
  refine lv_iconst (v := (0 : Int32)) hx hb dY_compare_4 (by decide) ?_
  refine xj_vi (As := [.int p1, .int p2, .int p3, .int (0 : Int32)]) (rest := []) (Wd := mw_Y k0 k_g cB_g) (wr := []) ⟨hx, hb, hml, hown, hts⟩ (mc_Y_two l dC dI k0 k_g cB_g g ak il mi xe bi fa cu p1 p2 p3 (0 : Int32)) (cwV 4 hts (gY_two _) rfl rfl rfl (by decide +kernel) ⟨Nat.le_of_ble_eq_true rfl, Nat.le_of_ble_eq_true rfl⟩) hP hK hD hS hA [0, 1] [] [0] rfl (by decide) rfl (by decide) (by decide) rfl (va_recv hK hP (ci := 1) (q0 := 0) rfl rfl) rfl hl.1 rfl (Nat.le_of_ble_eq_true rfl) dY_compare_5 ⟨Nat.zero_le _, Nat.zero_le _⟩ (fun H9 locs9 hP hD hS => ?_)
  have hP : va_P (dC, dI) vwCl [(k0, .inr (1, [.ref k_g, .int ak, .int il, .int mi, .int xe, .long bi, .int fa, .int cu])), (k_g, .inl (cB_g, 8, .inr (.inl g)))] _ := hP
  have hD : va_D A [(k0, .inr (1, [.ref k_g, .int ak, .int il, .int mi, .int xe, .long bi, .int fa, .int cu])), (k_g, .inl (cB_g, 8, .inr (.inl g)))] := hD
  refine lv_topi (fun y1 ey1 => ?_)
  replace hF := xj_bz hF ey1
  refine lv_istore (lv' := [(4, .int y1), (0, .ref k0), (1, .int p1), (2, .int p2), (3, .int p3)]) hx hb dY_compare_8 hl (by decide) rfl (fun ls hl => ?_)
  refine lv_iload hx hb dY_compare_10 (lv_at hl 0 rfl) ?_
  refine lv_if_ge (tgt := 18) hx hb dY_compare_12 (by decide) (fun c2 => ?_) (fun c2 => ?_)
  · replace hF := xj_t hF c2
    refine lv_aload_n hx hb dY_compare_18 rfl (lv_at hl 1 rfl) ?_
    refine lv_iload_n hx hb dY_compare_19 rfl (lv_at hl 2 rfl) ?_
    refine lv_iload_n hx hb dY_compare_20 rfl (lv_at hl 3 rfl) ?_
    refine xj_vl (As := [.int p1, .int p2]) (rest := []) (Wd := mw_Y k0 k_g cB_g) (wr := []) ⟨hx, hb, hml, hown, hts⟩ (mc_Y_in l dC dI k0 k_g cB_g g ak il mi xe bi fa cu p1 p2 ((ms_two (xj_ge ey1 c2)).1)) (cwV 2 hts (gY_in _) rfl rfl rfl (by decide +kernel) ⟨Nat.le_of_ble_eq_true rfl, Nat.le_of_ble_eq_true rfl⟩) hP hK hD hS hA [0, 1] [] [0] rfl (by decide) rfl (by decide) (by decide) rfl (va_recv hK hP (ci := 1) (q0 := 0) rfl rfl) rfl hl.1 rfl (Nat.le_of_ble_eq_true rfl) dY_compare_21 ⟨Nat.zero_le _, Nat.zero_le _⟩ (fun H9 locs9 hP hD hS => ?_)
    have hP : va_P (dC, dI) vwCl [(k0, .inr (1, [.ref k_g, .int ak, .int il, .int mi, .int xe, .long bi, .int fa, .int cu])), (k_g, .inl (cB_g, 8, .inr (.inl g)))] _ := hP
    have hD : va_D A [(k0, .inr (1, [.ref k_g, .int ak, .int il, .int mi, .int xe, .long bi, .int fa, .int cu])), (k_g, .inl (cB_g, 8, .inr (.inl g)))] := hD
    refine lv_topl (fun y3 ey3 => ?_)
    replace hF := xj_bz hF ey3
    refine lv_lstore (lv' := [(5, .long y3), (4, .int y1), (0, .ref k0), (1, .int p1), (2, .int p2), (3, .int p3)]) hx hb dY_compare_24 hl (by decide) rfl (fun ls hl => ?_)
    refine lv_aload_n hx hb dY_compare_26 rfl (lv_at hl 2 rfl) ?_
    refine lv_iload_n hx hb dY_compare_27 rfl (lv_at hl 3 rfl) ?_
    refine lv_iload_n hx hb dY_compare_28 rfl (lv_at hl 5 rfl) ?_
    refine xj_vl (As := [.int p1, .int p3]) (rest := []) (Wd := mw_Y k0 k_g cB_g) (wr := []) ⟨hx, hb, hml, hown, hts⟩ (mc_Y_in l dC dI k0 k_g cB_g g ak il mi xe bi fa cu p1 p3 ((ms_two (xj_ge ey1 c2)).2.1)) (cwV 2 hts (gY_in _) rfl rfl rfl (by decide +kernel) ⟨Nat.le_of_ble_eq_true rfl, Nat.le_of_ble_eq_true rfl⟩) hP hK hD hS hA [0, 1] [] [0] rfl (by decide) rfl (by decide) (by decide) rfl (va_recv hK hP (ci := 1) (q0 := 0) rfl rfl) rfl hl.1 rfl (Nat.le_of_ble_eq_true rfl) dY_compare_29 ⟨Nat.zero_le _, Nat.zero_le _⟩ (fun H9 locs9 hP hD hS => ?_)
    have hP : va_P (dC, dI) vwCl [(k0, .inr (1, [.ref k_g, .int ak, .int il, .int mi, .int xe, .long bi, .int fa, .int cu])), (k_g, .inl (cB_g, 8, .inr (.inl g)))] _ := hP
    have hD : va_D A [(k0, .inr (1, [.ref k_g, .int ak, .int il, .int mi, .int xe, .long bi, .int fa, .int cu])), (k_g, .inl (cB_g, 8, .inr (.inl g)))] := hD
    refine lv_topl (fun y4 ey4 => ?_)
    replace hF := xj_bz hF ey4
    refine lv_lstore (lv' := [(7, .long y4), (5, .long y3), (4, .int y1), (0, .ref k0), (1, .int p1), (2, .int p2), (3, .int p3)]) hx hb dY_compare_32 hl (by decide) rfl (fun ls hl => ?_)
    refine lv_lload hx hb dY_compare_34 (lv_at hl 1 rfl) ?_
    refine xj_si (As := [.long y3]) (rest := []) ⟨hx, hb, hml, hown, hts⟩ (mc_Y_isZero l y3) (va_cwS 1 hts (gY_isZero _) rfl rfl rfl (by decide +kernel) ⟨Nat.le_of_ble_eq_true rfl, Nat.le_of_ble_eq_true rfl⟩) hS hA rfl hl.1 rfl (Nat.le_of_ble_eq_true rfl) dY_compare_36 ⟨Nat.zero_le _, Nat.zero_le _⟩ (fun H9 locs9 hk9 hS => ?_)
    have hP := xj_kept hP hk9
    refine lv_topi (fun y5 ey5 => ?_)
    replace hF := xj_bz hF ey5
    obtain ⟨y7, ey7⟩ : ∃ z : Int32, z = (if y5 = 0 then (xj_bnd (mf_Y_isBelow y3) (fun y7 => (if y7 = 0 then (1 : Int32) else (-1 : Int32)))) else (0 : Int32)) := ⟨_, rfl⟩
    replace hF := xj_bz hF ey7
    refine xj_joinH 59 (fun H' locs' ls' st' => va_P (dC, dI) vwCl [(k0, .inr (1, [.ref k_g, .int ak, .int il, .int mi, .int xe, .long bi, .int fa, .int cu])), (k_g, .inl (cB_g, 8, .inr (.inl g)))] H' ∧ va_D A [(k0, .inr (1, [.ref k_g, .int ak, .int il, .int mi, .int xe, .long bi, .int fa, .int cu])), (k_g, .inl (cB_g, 8, .inr (.inl g)))] ∧ va_S A s.heap H' locs' ∧ lv_has ls' 15 [(7, .long y4), (5, .long y3), (4, .int y1), (0, .ref k0), (1, .int p1), (2, .int p2), (3, .int p3)] ∧ st' = [.int y7]) ?_ (fun K59 => ?_)
    · rintro H9 locs9 ls st ⟨hP, hD, hS, hl, rfl⟩
      refine lv_istore (lv' := [(9, .int y7), (7, .long y4), (5, .long y3), (4, .int y1), (0, .ref k0), (1, .int p1), (2, .int p2), (3, .int p3)]) hx hb dY_compare_59 hl (by decide) rfl (fun ls hl => ?_)
      refine lv_lload hx hb dY_compare_61 (lv_at hl 1 rfl) ?_
      refine xj_si (As := [.long y4]) (rest := []) ⟨hx, hb, hml, hown, hts⟩ (mc_Y_isZero l y4) (va_cwS 1 hts (gY_isZero _) rfl rfl rfl (by decide +kernel) ⟨Nat.le_of_ble_eq_true rfl, Nat.le_of_ble_eq_true rfl⟩) hS hA rfl hl.1 rfl (Nat.le_of_ble_eq_true rfl) dY_compare_63 ⟨Nat.zero_le _, Nat.zero_le _⟩ (fun H9 locs9 hk9 hS => ?_)
      have hP := xj_kept hP hk9
      refine lv_topi (fun y8 ey8 => ?_)
      replace hF := xj_bz hF ey8
      obtain ⟨y10, ey10⟩ : ∃ z : Int32, z = (if y8 = 0 then (xj_bnd (mf_Y_isBelow y4) (fun y10 => (if y10 = 0 then (1 : Int32) else (-1 : Int32)))) else (0 : Int32)) := ⟨_, rfl⟩
      replace hF := xj_bz hF ey10
      refine xj_joinH 86 (fun H' locs' ls' st' => va_P (dC, dI) vwCl [(k0, .inr (1, [.ref k_g, .int ak, .int il, .int mi, .int xe, .long bi, .int fa, .int cu])), (k_g, .inl (cB_g, 8, .inr (.inl g)))] H' ∧ va_D A [(k0, .inr (1, [.ref k_g, .int ak, .int il, .int mi, .int xe, .long bi, .int fa, .int cu])), (k_g, .inl (cB_g, 8, .inr (.inl g)))] ∧ va_S A s.heap H' locs' ∧ lv_has ls' 15 [(9, .int y7), (7, .long y4), (5, .long y3), (4, .int y1), (0, .ref k0), (1, .int p1), (2, .int p2), (3, .int p3)] ∧ st' = [.int y10]) ?_ (fun K86 => ?_)
      · rintro H9 locs9 ls st ⟨hP, hD, hS, hl, rfl⟩
        refine lv_istore (lv' := [(10, .int y10), (9, .int y7), (7, .long y4), (5, .long y3), (4, .int y1), (0, .ref k0), (1, .int p1), (2, .int p2), (3, .int p3)]) hx hb dY_compare_86 hl (by decide) rfl (fun ls hl => ?_)
        refine lv_iload hx hb dY_compare_88 (lv_at hl 1 rfl) ?_
        refine lv_iload hx hb dY_compare_90 (lv_at hl 0 rfl) ?_
        refine lv_icmp_eq (tgt := 109) hx hb dY_compare_92 (by decide) (fun c11 => ?_) (fun c11 => ?_)
        · replace hF := xj_t hF c11
          refine lv_iload hx hb dY_compare_109 (lv_at hl 1 rfl) ?_
          refine lv_if_ne (tgt := 116) hx hb dY_compare_111 (by decide) (fun c12 => ?_) (fun c12 => ?_)
          · replace hF := xj_f hF c12
            refine lv_aload_n hx hb dY_compare_116 rfl (lv_at hl 5 rfl) ?_
            refine lv_iload_n hx hb dY_compare_117 rfl (lv_at hl 6 rfl) ?_
            refine lv_lload hx hb dY_compare_118 (lv_at hl 3 rfl) ?_
            obtain ⟨q13, eq13⟩ : ∃ z : (Nat → Int64) × Int32 × Int32 × Int32 × Int32 × Int64 × Int32 × Int32, z = (mf_Y_take g ak il mi xe bi fa cu p1 y3) := ⟨_, rfl⟩
            replace hF := xj_bz hF eq13
            refine xj_vv (r := q13) (As := [.int p1, .long y3]) (rest := []) (Wd := mw_Y k0 k_g cB_g) (wr := []) ⟨hx, hb, hml, hown, hts⟩ (by rw [eq13]; exact mc_Y_take l dC dI k0 k_g cB_g g ak il mi xe bi fa cu p1 y3) (cwV 2 hts (gY_take _) rfl rfl rfl (by decide +kernel) ⟨Nat.le_of_ble_eq_true rfl, Nat.le_of_ble_eq_true rfl⟩) hP hK hD hS hA [0, 1] [] [0] rfl (by decide) rfl (by decide) (by decide) rfl (va_recv hK hP (ci := 1) (q0 := 0) rfl rfl) rfl hl.1 rfl (Nat.le_of_ble_eq_true rfl) dY_compare_120 ⟨Nat.zero_le _, Nat.zero_le _⟩ (fun H9 locs9 hP hD hS => ?_)
            have hP : va_P (dC, dI) vwCl [(k0, .inr (1, [.ref k_g, .int q13.2.1, .int q13.2.2.1, .int q13.2.2.2.1, .int q13.2.2.2.2.1, .long q13.2.2.2.2.2.1, .int q13.2.2.2.2.2.2.1, .int q13.2.2.2.2.2.2.2])), (k_g, .inl (cB_g, 8, .inr (.inl q13.1)))] _ := hP
            have hD : va_D A [(k0, .inr (1, [.ref k_g, .int q13.2.1, .int q13.2.2.1, .int q13.2.2.2.1, .int q13.2.2.2.2.1, .long q13.2.2.2.2.2.1, .int q13.2.2.2.2.2.2.1, .int q13.2.2.2.2.2.2.2])), (k_g, .inl (cB_g, 8, .inr (.inl q13.1)))] := hD
            refine lv_aload_n hx hb dY_compare_123 rfl (lv_at hl 5 rfl) ?_
            refine va_get (D := (dC, dI)) (ci := 1) (v := .int q13.2.2.2.2.1) (C := RX1) (T := TX1) (N := 8) hx hb hts (fun w9 h9 => List.mem_cons_of_mem _ (inY w9 h9)) hown hK hP 0 rfl rfl 4 (by decide) (hts (.fieldLink RX1 34 "ExactFloatsModel" "exponent" "I") (List.mem_cons_of_mem _ mY_39)) (fun _ h9 => h9) rfl dY_compare_124 ?_
            refine lv_istore (lv' := [(11, .int q13.2.2.2.2.1), (10, .int y10), (9, .int y7), (7, .long y4), (5, .long y3), (4, .int y1), (0, .ref k0), (1, .int p1), (2, .int p2), (3, .int p3)]) hx hb dY_compare_127 hl (by decide) rfl (fun ls hl => ?_)
            refine lv_aload_n hx hb dY_compare_129 rfl (lv_at hl 6 rfl) ?_
            refine va_get (D := (dC, dI)) (ci := 1) (v := .long q13.2.2.2.2.2.1) (C := RX1) (T := TX1) (N := 8) hx hb hts (fun w9 h9 => List.mem_cons_of_mem _ (inY w9 h9)) hown hK hP 0 rfl rfl 5 (by decide) (hts (.fieldLink RX1 44 "ExactFloatsModel" "bits" "J") (List.mem_cons_of_mem _ mY_43)) (fun _ h9 => h9) rfl dY_compare_130 ?_
            refine lv_lstore (lv' := [(12, .long q13.2.2.2.2.2.1), (11, .int q13.2.2.2.2.1), (10, .int y10), (9, .int y7), (7, .long y4), (5, .long y3), (4, .int y1), (0, .ref k0), (1, .int p1), (2, .int p2), (3, .int p3)]) hx hb dY_compare_133 hl (by decide) rfl (fun ls hl => ?_)
            refine lv_aload_n hx hb dY_compare_135 rfl (lv_at hl 7 rfl) ?_
            refine lv_iload_n hx hb dY_compare_136 rfl (lv_at hl 8 rfl) ?_
            refine lv_lload hx hb dY_compare_137 (lv_at hl 4 rfl) ?_
            obtain ⟨q14, eq14⟩ : ∃ z : (Nat → Int64) × Int32 × Int32 × Int32 × Int32 × Int64 × Int32 × Int32, z = (mf_Y_take q13.1 q13.2.1 q13.2.2.1 q13.2.2.2.1 q13.2.2.2.2.1 q13.2.2.2.2.2.1 q13.2.2.2.2.2.2.1 q13.2.2.2.2.2.2.2 p1 y4) := ⟨_, rfl⟩
            replace hF := xj_bz hF eq14
            refine xj_vv (r := q14) (As := [.int p1, .long y4]) (rest := []) (Wd := mw_Y k0 k_g cB_g) (wr := []) ⟨hx, hb, hml, hown, hts⟩ (by rw [eq14]; exact mc_Y_take l dC dI k0 k_g cB_g q13.1 q13.2.1 q13.2.2.1 q13.2.2.2.1 q13.2.2.2.2.1 q13.2.2.2.2.2.1 q13.2.2.2.2.2.2.1 q13.2.2.2.2.2.2.2 p1 y4) (cwV 2 hts (gY_take _) rfl rfl rfl (by decide +kernel) ⟨Nat.le_of_ble_eq_true rfl, Nat.le_of_ble_eq_true rfl⟩) hP hK hD hS hA [0, 1] [] [0] rfl (by decide) rfl (by decide) (by decide) rfl (va_recv hK hP (ci := 1) (q0 := 0) rfl rfl) rfl hl.1 rfl (Nat.le_of_ble_eq_true rfl) dY_compare_139 ⟨Nat.zero_le _, Nat.zero_le _⟩ (fun H9 locs9 hP hD hS => ?_)
            have hP : va_P (dC, dI) vwCl [(k0, .inr (1, [.ref k_g, .int q14.2.1, .int q14.2.2.1, .int q14.2.2.2.1, .int q14.2.2.2.2.1, .long q14.2.2.2.2.2.1, .int q14.2.2.2.2.2.2.1, .int q14.2.2.2.2.2.2.2])), (k_g, .inl (cB_g, 8, .inr (.inl q14.1)))] _ := hP
            have hD : va_D A [(k0, .inr (1, [.ref k_g, .int q14.2.1, .int q14.2.2.1, .int q14.2.2.2.1, .int q14.2.2.2.2.1, .long q14.2.2.2.2.2.1, .int q14.2.2.2.2.2.2.1, .int q14.2.2.2.2.2.2.2])), (k_g, .inl (cB_g, 8, .inr (.inl q14.1)))] := hD
            refine lv_iload hx hb dY_compare_142 (lv_at hl 1 rfl) ?_
            refine lv_aload_n hx hb dY_compare_144 rfl (lv_at hl 7 rfl) ?_
            refine va_get (D := (dC, dI)) (ci := 1) (v := .int q14.2.2.2.2.1) (C := RX1) (T := TX1) (N := 8) hx hb hts (fun w9 h9 => List.mem_cons_of_mem _ (inY w9 h9)) hown hK hP 0 rfl rfl 4 (by decide) (hts (.fieldLink RX1 34 "ExactFloatsModel" "exponent" "I") (List.mem_cons_of_mem _ mY_39)) (fun _ h9 => h9) rfl dY_compare_145 ?_
            obtain ⟨k16, ek16, hF⟩ := xj_b hF
            refine xj_join 163 (fun ls' st' => T = k16 ∧ lv_has ls' 15 [(12, .long q13.2.2.2.2.2.1), (11, .int q13.2.2.2.2.1), (10, .int y10), (9, .int y7), (7, .long y4), (5, .long y3), (4, .int y1), (0, .ref k0), (1, .int p1), (2, .int p2), (3, .int p3)] ∧ st' = []) ?_ (fun K163 => ?_)
            · rintro ls st ⟨hF, hl, rfl⟩
              have hF := hF.trans ek16
              refine lv_iload hx hb dY_compare_163 (lv_at hl 1 rfl) ?_
              refine lv_aload_n hx hb dY_compare_165 rfl (lv_at hl 7 rfl) ?_
              refine va_get (D := (dC, dI)) (ci := 1) (v := .int q14.2.2.2.2.1) (C := RX1) (T := TX1) (N := 8) hx hb hts (fun w9 h9 => List.mem_cons_of_mem _ (inY w9 h9)) hown hK hP 0 rfl rfl 4 (by decide) (hts (.fieldLink RX1 34 "ExactFloatsModel" "exponent" "I") (List.mem_cons_of_mem _ mY_39)) (fun _ h9 => h9) rfl dY_compare_166 ?_
              obtain ⟨y18, ey18⟩ : ∃ z : Int32, z = (if q13.2.2.2.2.1 < q14.2.2.2.2.1 then (1 : Int32) else (if q13.2.2.2.2.1 = q14.2.2.2.2.1 then (if q14.2.2.2.2.2.1 ≤ q13.2.2.2.2.2.1 then (0 : Int32) else (1 : Int32)) else (0 : Int32))) := ⟨_, rfl⟩
              replace hF := xj_bz hF ey18
              refine xj_join 196 (fun ls' st' => lv_has ls' 15 [(12, .long q13.2.2.2.2.2.1), (11, .int q13.2.2.2.2.1), (10, .int y10), (9, .int y7), (7, .long y4), (5, .long y3), (4, .int y1), (0, .ref k0), (1, .int p1), (2, .int p2), (3, .int p3)] ∧ st' = [.int y18]) ?_ (fun K196 => ?_)
              · rintro ls st ⟨hl, rfl⟩
                refine lv_istore (lv' := [(14, .int y18), (12, .long q13.2.2.2.2.2.1), (11, .int q13.2.2.2.2.1), (10, .int y10), (9, .int y7), (7, .long y4), (5, .long y3), (4, .int y1), (0, .ref k0), (1, .int p1), (2, .int p2), (3, .int p3)]) hx hb dY_compare_196 hl (by decide) rfl (fun ls hl => ?_)
                refine lv_iload hx hb dY_compare_198 (lv_at hl 0 rfl) ?_
                refine lv_iload hx hb dY_compare_200 (lv_at hl 4 rfl) ?_
                obtain ⟨y20, ey20⟩ : ∃ z : Int32, z = (if y7 ≤ 0 then (0 : Int32) else (1 : Int32)) := ⟨_, rfl⟩
                replace hF := xj_bz hF ey20
                refine xj_join 210 (fun ls' st' => lv_has ls' 15 [(14, .int y18), (12, .long q13.2.2.2.2.2.1), (11, .int q13.2.2.2.2.1), (10, .int y10), (9, .int y7), (7, .long y4), (5, .long y3), (4, .int y1), (0, .ref k0), (1, .int p1), (2, .int p2), (3, .int p3)] ∧ st' = [.int y20, .int y18]) ?_ (fun K210 => ?_)
                · rintro ls st ⟨hl, rfl⟩
                  refine lv_icmp_ne (tgt := 218) hx hb dY_compare_210 (by decide) (fun c21 => ?_) (fun c21 => ?_)
                  · replace hF := xj_f hF c21
                    refine lv_iconst (v := (0 : Int32)) hx hb dY_compare_218 (by decide) ?_
                    exact W.iret (v := (0 : Int32)) hx hb hr (fun t ht hW => ⟨⟨_, (q14.1, q14.2.1, q14.2.2.1, q14.2.2.2.1, q14.2.2.2.2.1, q14.2.2.2.2.2.1, q14.2.2.2.2.2.2.1, q14.2.2.2.2.2.2.2), rfl, hF.symm, by rw [ht]; exact hP, hD⟩, hS.F ht⟩) hS.2.2 dY_compare_219
                  · replace hF := xj_t hF c21
                    refine lv_bipush (v := (8 : Int32)) hx hb dY_compare_213 (by decide) ?_
                    refine lv_goto (tgt := 219) hx hb dY_compare_215 (by decide) ?_
                    exact W.iret (v := (8 : Int32)) hx hb hr (fun t ht hW => ⟨⟨_, (q14.1, q14.2.1, q14.2.2.1, q14.2.2.2.1, q14.2.2.2.2.1, q14.2.2.2.2.2.1, q14.2.2.2.2.2.2.1, q14.2.2.2.2.2.2.2), rfl, hF.symm, by rw [ht]; exact hP, hD⟩, hS.F ht⟩) hS.2.2 dY_compare_219
                · refine lv_if_le (tgt := 209) hx hb dY_compare_202 (by decide) (fun c19 => ?_) (fun c19 => ?_)
                  · replace ey20 := xj_t ey20 c19
                    refine lv_iconst (v := (0 : Int32)) hx hb dY_compare_209 (by decide) ?_
                    subst ey20
                    exact K210 _ _ ⟨lv_sub hl [0, 1, 2, 3, 4, 5, 6, 7, 8, 9, 10, 11] rfl, rfl⟩
                  · replace ey20 := xj_f ey20 c19
                    refine lv_iconst (v := (1 : Int32)) hx hb dY_compare_205 (by decide) ?_
                    refine lv_goto (tgt := 210) hx hb dY_compare_206 (by decide) ?_
                    subst ey20
                    exact K210 _ _ ⟨lv_sub hl [0, 1, 2, 3, 4, 5, 6, 7, 8, 9, 10, 11] rfl, rfl⟩
              · refine lv_icmp_lt (tgt := 191) hx hb dY_compare_169 (by decide) (fun c17 => ?_) (fun c17 => ?_)
                · replace ey18 := xj_t ey18 c17
                  refine lv_iconst (v := (1 : Int32)) hx hb dY_compare_191 (by decide) ?_
                  refine lv_goto (tgt := 196) hx hb dY_compare_192 (by decide) ?_
                  subst ey18
                  exact K196 _ _ ⟨lv_sub hl [0, 1, 2, 3, 4, 5, 6, 7, 8, 9, 10] rfl, rfl⟩
                · replace ey18 := xj_f ey18 c17
                  refine lv_iload hx hb dY_compare_172 (lv_at hl 1 rfl) ?_
                  refine lv_aload_n hx hb dY_compare_174 rfl (lv_at hl 7 rfl) ?_
                  refine va_get (D := (dC, dI)) (ci := 1) (v := .int q14.2.2.2.2.1) (C := RX1) (T := TX1) (N := 8) hx hb hts (fun w9 h9 => List.mem_cons_of_mem _ (inY w9 h9)) hown hK hP 0 rfl rfl 4 (by decide) (hts (.fieldLink RX1 34 "ExactFloatsModel" "exponent" "I") (List.mem_cons_of_mem _ mY_39)) (fun _ h9 => h9) rfl dY_compare_175 ?_
                  refine lv_icmp_ne (tgt := 195) hx hb dY_compare_178 (by decide) (fun c22 => ?_) (fun c22 => ?_)
                  · replace ey18 := xj_f ey18 c22
                    refine lv_iconst (v := (0 : Int32)) hx hb dY_compare_195 (by decide) ?_
                    subst ey18
                    exact K196 _ _ ⟨lv_sub hl [0, 1, 2, 3, 4, 5, 6, 7, 8, 9, 10] rfl, rfl⟩
                  · replace ey18 := xj_t ey18 c22
                    refine lv_lload hx hb dY_compare_181 (lv_at hl 0 rfl) ?_
                    refine lv_aload_n hx hb dY_compare_183 rfl (lv_at hl 7 rfl) ?_
                    refine va_get (D := (dC, dI)) (ci := 1) (v := .long q14.2.2.2.2.2.1) (C := RX1) (T := TX1) (N := 8) hx hb hts (fun w9 h9 => List.mem_cons_of_mem _ (inY w9 h9)) hown hK hP 0 rfl rfl 5 (by decide) (hts (.fieldLink RX1 44 "ExactFloatsModel" "bits" "J") (List.mem_cons_of_mem _ mY_43)) (fun _ h9 => h9) rfl dY_compare_184 ?_
                    refine xj_l_ge (tgt := 195) hx hb dY_compare_187 dY_compare_188 (by decide) (fun c23 => ?_) (fun c23 => ?_)
                    · replace ey18 := xj_t ey18 c23
                      refine lv_iconst (v := (0 : Int32)) hx hb dY_compare_195 (by decide) ?_
                      subst ey18
                      exact K196 _ _ ⟨lv_sub hl [0, 1, 2, 3, 4, 5, 6, 7, 8, 9, 10] rfl, rfl⟩
                    · replace ey18 := xj_f ey18 c23
                      refine lv_iconst (v := (1 : Int32)) hx hb dY_compare_191 (by decide) ?_
                      refine lv_goto (tgt := 196) hx hb dY_compare_192 (by decide) ?_
                      subst ey18
                      exact K196 _ _ ⟨lv_sub hl [0, 1, 2, 3, 4, 5, 6, 7, 8, 9, 10] rfl, rfl⟩
            · refine lv_icmp_ne (tgt := 163) hx hb dY_compare_148 (by decide) (fun c15 => ?_) (fun c15 => ?_)
              · replace hF := xj_f hF c15
                exact K163 _ _ ⟨hF, lv_sub hl [0, 1, 2, 3, 4, 5, 6, 7, 8, 9, 10] rfl, rfl⟩
              · replace hF := xj_t hF c15
                refine lv_lload hx hb dY_compare_151 (lv_at hl 0 rfl) ?_
                refine lv_aload_n hx hb dY_compare_153 rfl (lv_at hl 7 rfl) ?_
                refine va_get (D := (dC, dI)) (ci := 1) (v := .long q14.2.2.2.2.2.1) (C := RX1) (T := TX1) (N := 8) hx hb hts (fun w9 h9 => List.mem_cons_of_mem _ (inY w9 h9)) hown hK hP 0 rfl rfl 5 (by decide) (hts (.fieldLink RX1 44 "ExactFloatsModel" "bits" "J") (List.mem_cons_of_mem _ mY_43)) (fun _ h9 => h9) rfl dY_compare_154 ?_
                refine xj_l_ne (tgt := 163) hx hb dY_compare_157 dY_compare_158 (by decide) (fun c24 => ?_) (fun c24 => ?_)
                · replace hF := xj_f hF c24
                  exact K163 _ _ ⟨hF, lv_sub hl [0, 1, 2, 3, 4, 5, 6, 7, 8, 9, 10] rfl, rfl⟩
                · replace hF := xj_t hF c24
                  refine lv_iconst (v := (4 : Int32)) hx hb dY_compare_161 (by decide) ?_
                  exact W.iret (v := (4 : Int32)) hx hb hr (fun t ht hW => ⟨⟨_, (q14.1, q14.2.1, q14.2.2.1, q14.2.2.2.1, q14.2.2.2.2.1, q14.2.2.2.2.2.1, q14.2.2.2.2.2.2.1, q14.2.2.2.2.2.2.2), rfl, hF.symm, by rw [ht]; exact hP, hD⟩, hS.F ht⟩) hS.2.2 dY_compare_162
          · replace hF := xj_t hF c12
            refine lv_iconst (v := (4 : Int32)) hx hb dY_compare_114 (by decide) ?_
            exact W.iret (v := (4 : Int32)) hx hb hr (fun t ht hW => ⟨⟨_, (g, ak, il, mi, xe, bi, fa, cu), rfl, hF.symm, by rw [ht]; exact hP, hD⟩, hS.F ht⟩) hS.2.2 dY_compare_115
        · replace hF := xj_f hF c11
          refine lv_iload hx hb dY_compare_95 (lv_at hl 1 rfl) ?_
          refine lv_iload hx hb dY_compare_97 (lv_at hl 0 rfl) ?_
          refine lv_icmp_ge (tgt := 107) hx hb dY_compare_99 (by decide) (fun c25 => ?_) (fun c25 => ?_)
          · replace hF := xj_t hF c25
            refine lv_iconst (v := (0 : Int32)) hx hb dY_compare_107 (by decide) ?_
            exact W.iret (v := (0 : Int32)) hx hb hr (fun t ht hW => ⟨⟨_, (g, ak, il, mi, xe, bi, fa, cu), rfl, hF.symm, by rw [ht]; exact hP, hD⟩, hS.F ht⟩) hS.2.2 dY_compare_108
          · replace hF := xj_f hF c25
            refine lv_bipush (v := (8 : Int32)) hx hb dY_compare_102 (by decide) ?_
            refine lv_goto (tgt := 108) hx hb dY_compare_104 (by decide) ?_
            exact W.iret (v := (8 : Int32)) hx hb hr (fun t ht hW => ⟨⟨_, (g, ak, il, mi, xe, bi, fa, cu), rfl, hF.symm, by rw [ht]; exact hP, hD⟩, hS.F ht⟩) hS.2.2 dY_compare_108
      · refine lv_if_eq (tgt := 73) hx hb dY_compare_66 (by decide) (fun c9 => ?_) (fun c9 => ?_)
        · replace ey10 := xj_t ey10 c9
          refine lv_lload hx hb dY_compare_73 (lv_at hl 1 rfl) ?_
          refine xj_si (As := [.long y4]) (rest := []) ⟨hx, hb, hml, hown, hts⟩ (mc_Y_isBelow l y4) (va_cwS 1 hts (gY_isBelow _) rfl rfl rfl (by decide +kernel) ⟨Nat.le_of_ble_eq_true rfl, Nat.le_of_ble_eq_true rfl⟩) hS hA rfl hl.1 rfl (Nat.le_of_ble_eq_true rfl) dY_compare_75 ⟨Nat.zero_le _, Nat.zero_le _⟩ (fun H9 locs9 hk9 hS => ?_)
          have hP := xj_kept hP hk9
          refine lv_topi (fun y26 ey26 => ?_)
          replace ey10 := xj_bz ey10 ey26
          refine lv_if_eq (tgt := 85) hx hb dY_compare_78 (by decide) (fun c27 => ?_) (fun c27 => ?_)
          · replace ey10 := xj_t ey10 c27
            refine lv_iconst (v := (1 : Int32)) hx hb dY_compare_85 (by decide) ?_
            subst ey10
            exact K86 _ _ _ _ ⟨hP, hD, hS, lv_sub hl [0, 1, 2, 3, 4, 5, 6, 7] rfl, rfl⟩
          · replace ey10 := xj_f ey10 c27
            refine lv_iconst (v := (-1 : Int32)) hx hb dY_compare_81 (by decide) ?_
            refine lv_goto (tgt := 86) hx hb dY_compare_82 (by decide) ?_
            subst ey10
            exact K86 _ _ _ _ ⟨hP, hD, hS, lv_sub hl [0, 1, 2, 3, 4, 5, 6, 7] rfl, rfl⟩
        · replace ey10 := xj_f ey10 c9
          refine lv_iconst (v := (0 : Int32)) hx hb dY_compare_69 (by decide) ?_
          refine lv_goto (tgt := 86) hx hb dY_compare_70 (by decide) ?_
          subst ey10
          exact K86 _ _ _ _ ⟨hP, hD, hS, lv_sub hl [0, 1, 2, 3, 4, 5, 6, 7] rfl, rfl⟩
    · refine lv_if_eq (tgt := 46) hx hb dY_compare_39 (by decide) (fun c6 => ?_) (fun c6 => ?_)
      · replace ey7 := xj_t ey7 c6
        refine lv_lload hx hb dY_compare_46 (lv_at hl 1 rfl) ?_
        refine xj_si (As := [.long y3]) (rest := []) ⟨hx, hb, hml, hown, hts⟩ (mc_Y_isBelow l y3) (va_cwS 1 hts (gY_isBelow _) rfl rfl rfl (by decide +kernel) ⟨Nat.le_of_ble_eq_true rfl, Nat.le_of_ble_eq_true rfl⟩) hS hA rfl hl.1 rfl (Nat.le_of_ble_eq_true rfl) dY_compare_48 ⟨Nat.zero_le _, Nat.zero_le _⟩ (fun H9 locs9 hk9 hS => ?_)
        have hP := xj_kept hP hk9
        refine lv_topi (fun y28 ey28 => ?_)
        replace ey7 := xj_bz ey7 ey28
        refine lv_if_eq (tgt := 58) hx hb dY_compare_51 (by decide) (fun c29 => ?_) (fun c29 => ?_)
        · replace ey7 := xj_t ey7 c29
          refine lv_iconst (v := (1 : Int32)) hx hb dY_compare_58 (by decide) ?_
          subst ey7
          exact K59 _ _ _ _ ⟨hP, hD, hS, lv_sub hl [0, 1, 2, 3, 4, 5, 6] rfl, rfl⟩
        · replace ey7 := xj_f ey7 c29
          refine lv_iconst (v := (-1 : Int32)) hx hb dY_compare_54 (by decide) ?_
          refine lv_goto (tgt := 59) hx hb dY_compare_55 (by decide) ?_
          subst ey7
          exact K59 _ _ _ _ ⟨hP, hD, hS, lv_sub hl [0, 1, 2, 3, 4, 5, 6] rfl, rfl⟩
      · replace ey7 := xj_f ey7 c6
        refine lv_iconst (v := (0 : Int32)) hx hb dY_compare_42 (by decide) ?_
        refine lv_goto (tgt := 59) hx hb dY_compare_43 (by decide) ?_
        subst ey7
        exact K59 _ _ _ _ ⟨hP, hD, hS, lv_sub hl [0, 1, 2, 3, 4, 5, 6] rfl, rfl⟩
  · replace hF := xj_f hF c2
    refine lv_iload hx hb dY_compare_15 (lv_at hl 0 rfl) ?_
    exact W.iret (v := y1) hx hb hr (fun t ht hW => ⟨⟨_, (g, ak, il, mi, xe, bi, fa, cu), rfl, hF.symm, by rw [ht]; exact hP, hD⟩, hS.F ht⟩) hS.2.2 dY_compare_17
end
section
/-! the class's pure functions, as arithmetic over natural numbers -/
/-- the 55 fraction bits of a float's 64 bits -/
def nx_fr (n : Nat) : Nat := n % 2 ^ 7 * 2 ^ 48 + n / 2 ^ 16 % 2 ^ 16 * 2 ^ 32 + n / 2 ^ 32 % 2 ^ 16 * 2 ^ 16 + n / 2 ^ 48
/-- its exponent -/
def nx_ex (n : Nat) : Nat := n / 2 ^ 7 % 2 ^ 8
/-- its sign -/
def nx_sg (n : Nat) : Nat := n / 2 ^ 15 % 2
/-- the bits of a float out of its sign, exponent and fraction -/
def nx_bits (sg ex fr : Nat) : Nat := sg * 2 ^ 15 + ex * 2 ^ 7 + fr / 2 ^ 48 + fr / 2 ^ 32 % 2 ^ 16 * 2 ^ 16 + fr / 2 ^ 16 % 2 ^ 16 * 2 ^ 32 + fr % 2 ^ 16 * 2 ^ 48
theorem nx_fr_lt {n : Nat} (h : n < 2 ^ 64) : nx_fr n < 2 ^ 55 := by unfold nx_fr; omega
theorem nx_ex_lt (n : Nat) : nx_ex n < 256 := by unfold nx_ex; omega
theorem nb_field (n k w : Nat) : n &&& (2 ^ w - 1) * 2 ^ k = (n / 2 ^ k % 2 ^ w) * 2 ^ k := by
  apply Nat.eq_of_testBit_eq
  intro i
  rw [Nat.testBit_and, ← Nat.shiftLeft_eq, ← Nat.shiftLeft_eq, Nat.testBit_shiftLeft, Nat.testBit_shiftLeft, Nat.testBit_two_pow_sub_one, Nat.testBit_mod_two_pow, Nat.testBit_div_two_pow]
  by_cases c : k ≤ i
  · simp [c, show i - k + k = i by omega, Bool.and_comm]
  · simp [c]
theorem nx_bit15 {n : Nat} (hn : n < 2 ^ 64) : (lN n &&& (32768 : Int64)) = 0 ↔ nx_sg n = 0 := by
  rw [show (32768 : Int64) = lN ((2 ^ 1 - 1) * 2 ^ 15) from rfl, nb_and hn (by decide), show (0 : Int64) = lN 0 from rfl, nb_eq (Nat.and_lt_two_pow _ (by decide)) (by decide), nb_field]
  unfold nx_sg
  omega
theorem nb_oadd' {b a k : Nat} (ha : a < 2 ^ k) (h : b * 2 ^ k + a < 2 ^ 64) : lN a ||| lN (b * 2 ^ k) = lN (b * 2 ^ k + a) := by
  rw [Int64.or_comm]; exact nb_oadd ha h
theorem nx_or4 {a b c d : Nat} (ha : a < 2 ^ 7) (hb : b < 2 ^ 16) (hc : c < 2 ^ 16) (hd : d < 2 ^ 16) :
    ((lN (a * 2 ^ 48) ||| lN (b * 2 ^ 32)) ||| lN (c * 2 ^ 16)) ||| lN d = lN (a * 2 ^ 48 + b * 2 ^ 32 + c * 2 ^ 16 + d) := by
  rw [nb_oadd (show b * 2 ^ 32 < 2 ^ 48 by omega) (by omega)]
  rw [show a * 2 ^ 48 + b * 2 ^ 32 = (a * 2 ^ 16 + b) * 2 ^ 32 by omega]
  rw [nb_oadd (show c * 2 ^ 16 < 2 ^ 32 by omega) (by omega)]
  rw [show (a * 2 ^ 16 + b) * 2 ^ 32 + c * 2 ^ 16 = (a * 2 ^ 32 + b * 2 ^ 16 + c) * 2 ^ 16 by omega]
  rw [nb_oadd (show d < 2 ^ 16 by omega) (by omega)]
/-- a number with its sign -/
def nx_v (s : Bool) (m : Nat) : Int64 := if s then -lN m else lN m
theorem nx_valueIn (f : Nat → Int64) (u o p1 p2 : Int32) {n : Nat} (hn : n < 2 ^ 64) (hf : (if p1 = 4 then f p2.toNatClampNeg &&& 4294967295 else f p2.toNatClampNeg) = lN n) :
    mf_X0_valueIn f u o p1 p2 = if nx_ex n = 0 then 0 else nx_v (decide (nx_sg n ≠ 0)) (nx_ex n * 2 ^ 55 + nx_fr n) := by
  unfold mf_X0_valueIn xj_bnd
  dsimp only
  rw [hf]
  have h7 : xj_ush (lN n) (7 : Int32) &&& (255 : Int64) = lN (nx_ex n) := by
    rw [show (7 : Int32) = nI 7 from rfl, nb_ush hn (by decide)]
    exact nb_mask (k := 8) (by omega) (by decide)
  have h1 : lN n &&& (127 : Int64) = lN (n % 2 ^ 7) := nb_mask (k := 7) hn (by decide)
  have h2 : xj_ush (lN n) (16 : Int32) &&& (65535 : Int64) = lN (n / 2 ^ 16 % 2 ^ 16) := by
    rw [show (16 : Int32) = nI 16 from rfl, nb_ush hn (by decide)]
    exact nb_mask (k := 16) (by omega) (by decide)
  have h3 : xj_ush (lN n) (32 : Int32) &&& (65535 : Int64) = lN (n / 2 ^ 32 % 2 ^ 16) := by
    rw [show (32 : Int32) = nI 32 from rfl, nb_ush hn (by decide)]
    exact nb_mask (k := 16) (by omega) (by decide)
  have h4 : xj_ush (lN n) (48 : Int32) = lN (n / 2 ^ 48) := by
    rw [show (48 : Int32) = nI 48 from rfl, nb_ush hn (by decide)]
  have hx := nx_ex_lt n
  rw [h7, h1, h2, h3, h4]
  by_cases hz : nx_ex n = 0
  · rw [if_pos hz, if_pos (by rw [hz]; rfl)]
  · rw [if_neg hz, if_neg (by rw [show (0 : Int64) = lN 0 from rfl, nb_eq (by omega) (by decide)]; exact hz)]
    have hfr := nx_fr_lt hn
    have e5 : ((xj_shl (lN (n % 2 ^ 7)) (48 : Int32) ||| xj_shl (lN (n / 2 ^ 16 % 2 ^ 16)) (32 : Int32)) ||| xj_shl (lN (n / 2 ^ 32 % 2 ^ 16)) (16 : Int32)) ||| lN (n / 2 ^ 48) = lN (nx_fr n) := by
      rw [show (48 : Int32) = nI 48 from rfl, show (32 : Int32) = nI 32 from rfl, show (16 : Int32) = nI 16 from rfl, nb_shl _ (by decide), nb_shl _ (by decide), nb_shl _ (by decide)]
      exact nx_or4 (by omega) (by omega) (by omega) (by omega)
    have e6 : xj_shl (lN (nx_ex n)) (55 : Int32) ||| lN (nx_fr n) = lN (nx_ex n * 2 ^ 55 + nx_fr n) := by
      rw [show (55 : Int32) = nI 55 from rfl, nb_shl _ (by decide)]
      exact nb_oadd hfr (by omega)
    rw [e5, e6]
    unfold nx_v
    by_cases hs : nx_sg n = 0
    · rw [if_pos ((nx_bit15 hn).mpr hs)]; simp [hs]
    · rw [if_neg (fun h => hs ((nx_bit15 hn).mp h))]; simp [hs]
theorem nx_negT {m : Nat} (h : m < 2 ^ 63) : (-lN m).toInt = -(m : Int) := by
  rw [Int64.toInt_neg, pk_lT h]
  apply Int.bmod_eq_of_le <;> omega
theorem nx_abs {s : Bool} {m : Nat} (h : m < 2 ^ 63) : xj_abs (nx_v s m) = lN m := by
  unfold xj_abs nx_v
  have z : (0 : Int64).toInt = 0 := by decide
  cases s with
  | false =>
    simp only [Bool.false_eq_true, if_false]
    by_cases hm : m = 0
    · subst hm; decide
    · rw [if_pos (by rw [Int64.lt_iff_toInt_lt, pk_lT h, z]; omega)]
  | true =>
    simp only [if_true]
    rw [if_neg (by rw [Int64.lt_iff_toInt_lt, nx_negT h, z]; omega)]
    exact Int64.neg_neg
theorem nx_v0 {s : Bool} {m : Nat} (h : m < 2 ^ 63) : nx_v s m = 0 ↔ m = 0 := by
  have z : (0 : Int64).toInt = 0 := by decide
  unfold nx_v
  cases s with
  | false => simp only [Bool.false_eq_true, if_false]; rw [show (0 : Int64) = lN 0 from rfl, nb_eq (by omega) (by decide)]
  | true =>
    simp only [if_true]
    rw [← Int64.toInt_inj, nx_negT h, z]; omega
theorem nx_vge {s : Bool} {m : Nat} (h : m < 2 ^ 63) : (0 : Int64) ≤ nx_v s m ↔ s = false ∨ m = 0 := by
  have z : (0 : Int64).toInt = 0 := by decide
  unfold nx_v
  cases s with
  | false => simp only [Bool.false_eq_true, if_false]; rw [Int64.le_iff_toInt_le, pk_lT h, z]; simp
  | true => simp only [if_true]; rw [Int64.le_iff_toInt_le, nx_negT h, z]; simp
theorem nx_vneg (s : Bool) (m : Nat) : -nx_v s m = nx_v (!s) m := by
  unfold nx_v
  cases s <;> simp
theorem nx_exponentOf {s : Bool} {m : Nat} (h : m < 2 ^ 63) : mf_X0_exponentOf (nx_v s m) = nI (m / 2 ^ 55) := by
  unfold mf_X0_exponentOf xj_bnd
  dsimp only
  rw [nx_abs h, show (55 : Int32) = nI 55 from rfl, nb_ush (by omega) (by decide)]
  exact lN_i _
theorem nx_significandOf {s : Bool} {m : Nat} (h : m < 2 ^ 63) : mf_X0_significandOf (nx_v s m) = lN (2 ^ 55 + m % 2 ^ 55) := by
  unfold mf_X0_significandOf xj_bnd
  dsimp only
  rw [nx_abs h, show (36028797018963967 : Int64) = lN (2 ^ 55 - 1) from rfl, nb_mask (by omega) (by decide), Int64.or_comm]
  have := nb_oadd (b := 1) (a := m % 2 ^ 55) (k := 55) (by omega) (by omega)
  rw [Nat.one_mul] at this
  exact this
theorem nx_bitsOf {b e : Int32} {E fr : Nat} (hE : E < 256) (he : e = nI E) (hf : fr < 2 ^ 55) : mf_X0_bitsOf b e (lN fr) = lN (nx_bits (if b = 0 then 0 else 1) E fr) := by
  unfold mf_X0_bitsOf xj_bnd nx_bits
  dsimp only
  have h1 : Int32.toInt64 (if b = 0 then (0 : Int32) else (32768 : Int32)) = lN ((if b = 0 then 0 else 1) * 2 ^ 15) := by
    by_cases hb : b = 0
    · simp only [hb, if_true]; rfl
    · simp only [hb, if_false]; rfl
  have h2 : xj_shl (Int32.toInt64 e) (7 : Int32) = lN (E * 2 ^ 7) := by
    rw [he, nI_l (by omega), show (7 : Int32) = nI 7 from rfl, nb_shl _ (by decide)]
  have h3 : xj_ush (lN fr) (48 : Int32) = lN (fr / 2 ^ 48) := by
    rw [show (48 : Int32) = nI 48 from rfl, nb_ush (by omega) (by decide)]
  have h4 : xj_shl (xj_ush (lN fr) (32 : Int32) &&& (65535 : Int64)) (16 : Int32) = lN (fr / 2 ^ 32 % 2 ^ 16 * 2 ^ 16) := by
    rw [show (32 : Int32) = nI 32 from rfl, nb_ush (by omega) (by decide), show (65535 : Int64) = lN (2 ^ 16 - 1) from rfl, nb_mask (by omega) (by decide), show (16 : Int32) = nI 16 from rfl, nb_shl _ (by decide)]
  have h5 : xj_shl (xj_ush (lN fr) (16 : Int32) &&& (65535 : Int64)) (32 : Int32) = lN (fr / 2 ^ 16 % 2 ^ 16 * 2 ^ 32) := by
    rw [show (16 : Int32) = nI 16 from rfl, nb_ush (by omega) (by decide), show (65535 : Int64) = lN (2 ^ 16 - 1) from rfl, nb_mask (by omega) (by decide), show (32 : Int32) = nI 32 from rfl, nb_shl _ (by decide)]
  have h6 : xj_shl (lN fr &&& (65535 : Int64)) (48 : Int32) = lN (fr % 2 ^ 16 * 2 ^ 48) := by
    rw [show (65535 : Int64) = lN (2 ^ 16 - 1) from rfl, nb_mask (by omega) (by decide), show (48 : Int32) = nI 48 from rfl, nb_shl _ (by decide)]
  rw [h1, h2, h3, h4, h5, h6]
  have hs : (if b = 0 then 0 else 1) < 2 := by split <;> omega
  generalize (if b = 0 then 0 else 1) = sg at hs ⊢
  rw [nb_oadd (show E * 2 ^ 7 < 2 ^ 15 by omega) (by omega)]
  rw [show sg * 2 ^ 15 + E * 2 ^ 7 = (sg * 2 ^ 8 + E) * 2 ^ 7 by omega]
  rw [nb_oadd (show fr / 2 ^ 48 < 2 ^ 7 by omega) (by omega)]
  rw [nb_oadd' (b := fr / 2 ^ 32 % 2 ^ 16) (show (sg * 2 ^ 8 + E) * 2 ^ 7 + fr / 2 ^ 48 < 2 ^ 16 by omega) (by omega)]
  rw [nb_oadd' (b := fr / 2 ^ 16 % 2 ^ 16) (show fr / 2 ^ 32 % 2 ^ 16 * 2 ^ 16 + ((sg * 2 ^ 8 + E) * 2 ^ 7 + fr / 2 ^ 48) < 2 ^ 32 by omega) (by omega)]
  rw [nb_oadd' (b := fr % 2 ^ 16) (show fr / 2 ^ 16 % 2 ^ 16 * 2 ^ 32 + (fr / 2 ^ 32 % 2 ^ 16 * 2 ^ 16 + ((sg * 2 ^ 8 + E) * 2 ^ 7 + fr / 2 ^ 48)) < 2 ^ 48 by omega) (by omega)]
  congr 1
  omega
/-! the class: the wide numbers of sums, products, quotients -/
theorem nx_or1 {a : Nat} (h : a < 2 ^ 64) : lN a ||| (1 : Int64) = lN (a / 2 * 2 + 1) := nb_odd h
theorem nx_shiftedDown {w k : Nat} (hw : w < 2 ^ 62) (h0 : 0 < w) (hk : k < 2 ^ 31) : mf_X0_shiftedDown (lN w) (nI k) = lN (nq_stk w (2 ^ k)) := by
  unfold mf_X0_shiftedDown xj_bnd
  dsimp only
  rw [show (63 : Int32) = nI 63 from rfl]
  by_cases h : k < 63
  · rw [if_pos ((nI_ltI (b := 63) hk (by decide)).mpr h)]
    rw [nb_ush (by omega) (by omega), nb_shl _ (by omega)]
    have hdm := Nat.div_add_mod w (2 ^ k)
    have hle : w / 2 ^ k * 2 ^ k ≤ w := Nat.div_mul_le_self _ _
    rw [nq_stk_eq]
    have hq : w / 2 ^ k ≤ w := Nat.div_le_self _ _
    by_cases hr : w % 2 ^ k = 0
    · rw [if_pos hr, if_pos ((nb_eq (by omega) (by omega)).mpr (by rw [Nat.mul_comm]; omega))]
    · rw [if_neg hr, if_neg (fun h => hr (by have := (nb_eq (by omega) (by omega)).mp h; rw [Nat.mul_comm] at this; omega))]
      exact nx_or1 (by omega)
  · rw [if_neg (fun c => h ((nI_ltI (b := 63) hk (by decide)).mp c))]
    have hb : 2 ^ 62 < 2 ^ k := Nat.pow_lt_pow_right (by decide) (by omega)
    have hwk : w < 2 ^ k := by omega
    rw [nq_stk_eq, if_neg (by rw [Nat.mod_eq_of_lt hwk]; omega), Nat.div_eq_of_lt hwk]
    rfl
theorem nx_wideProduct {x y : Nat} (hx : x < 2 ^ 56) (hy : y < 2 ^ 56) : mf_X0_wideProduct (lN x) (lN y) = lN (nq_stk (x * y) (2 ^ 49)) := by
  unfold mf_X0_wideProduct xj_bnd
  dsimp only
  have m28 : (268435455 : Int64) = lN (2 ^ 28 - 1) := rfl
  have m56 : (72057594037927935 : Int64) = lN (2 ^ 56 - 1) := rfl
  have m49 : xj_shl (1 : Int64) (49 : Int32) - (1 : Int64) = lN (2 ^ 49 - 1) := by decide +kernel
  have c28 : (28 : Int32) = nI 28 := rfl
  have c56 : (56 : Int32) = nI 56 := rfl
  have c49 : (49 : Int32) = nI 49 := rfl
  have c7 : (7 : Int32) = nI 7 := rfl
  rw [m49, m28, m56, c28, c56, c49, c7]
  rw [nb_ush (by omega) (by decide), nb_mask (by omega) (by decide), nb_ush (by omega) (by decide), nb_mask (by omega) (by decide)]
  obtain ⟨xh, xl, hxl, hxe⟩ : ∃ xh xl, xl < 2 ^ 28 ∧ x = xh * 2 ^ 28 + xl := ⟨x / 2 ^ 28, x % 2 ^ 28, by omega, by omega⟩
  obtain ⟨yh, yl, hyl, hye⟩ : ∃ yh yl, yl < 2 ^ 28 ∧ y = yh * 2 ^ 28 + yl := ⟨y / 2 ^ 28, y % 2 ^ 28, by omega, by omega⟩
  rw [show x / 2 ^ 28 = xh by omega, show x % 2 ^ 28 = xl by omega, show y / 2 ^ 28 = yh by omega, show y % 2 ^ 28 = yl by omega]
  have hxh : xh < 2 ^ 28 := by omega
  have hyh : yh < 2 ^ 28 := by omega
  have hP : x * y = xh * yh * 2 ^ 56 + (xh * yl + xl * yh) * 2 ^ 28 + xl * yl := by
    rw [hxe, hye, Nat.add_mul, Nat.mul_add, Nat.mul_add, Nat.add_mul]
    have a1 : xh * 2 ^ 28 * (yh * 2 ^ 28) = xh * yh * 2 ^ 56 := by
      rw [show (2 : Nat) ^ 56 = 2 ^ 28 * 2 ^ 28 by decide]; ac_rfl
    have a2 : xh * 2 ^ 28 * yl = xh * yl * 2 ^ 28 := by ac_rfl
    have a3 : xl * (yh * 2 ^ 28) = xl * yh * 2 ^ 28 := by ac_rfl
    rw [a1, a2, a3]; omega
  have b1 : xh * yh < 2 ^ 56 := Nat.lt_of_lt_of_le (Nat.mul_lt_mul'' hxh hyh) (by decide)
  have b2 : xh * yl < 2 ^ 56 := Nat.lt_of_lt_of_le (Nat.mul_lt_mul'' hxh hyl) (by decide)
  have b3 : xl * yh < 2 ^ 56 := Nat.lt_of_lt_of_le (Nat.mul_lt_mul'' hxl hyh) (by decide)
  have b4 : xl * yl < 2 ^ 56 := Nat.lt_of_lt_of_le (Nat.mul_lt_mul'' hxl hyl) (by decide)
  have bP : x * y < 2 ^ 112 := Nat.lt_of_lt_of_le (Nat.mul_lt_mul'' hx hy) (by decide)
  rw [lN_mul, lN_mul, lN_mul, lN_mul]
  generalize x * y = P at *
  generalize xh * yh = a at *
  generalize xh * yl = b at *
  generalize xl * yh = c at *
  generalize xl * yl = d at *
  rw [lN_add, nb_mask (by omega) (by decide), nb_shl _ (by decide), nb_ush (by omega) (by decide), lN_add, nb_ush (by omega) (by decide), nb_mask (by omega) (by decide), lN_add, lN_add, nb_shl _ (by decide), nb_ush (by omega) (by decide), nb_mask (by omega) (by decide)]
  have e1 : a + (b + c) / 2 ^ 28 + (d + (b + c) % 2 ^ 28 * 2 ^ 28) / 2 ^ 56 = P / 2 ^ 56 := by omega
  have e2 : (d + (b + c) % 2 ^ 28 * 2 ^ 28) % 2 ^ 56 = P % 2 ^ 56 := by omega
  rw [e1, e2, nb_oadd (by omega) (by omega), nq_stk_eq]
  have e3 : P / 2 ^ 56 * 2 ^ 7 + P % 2 ^ 56 / 2 ^ 49 = P / 2 ^ 49 := by omega
  have e4 : P % 2 ^ 56 % 2 ^ 49 = P % 2 ^ 49 := by omega
  rw [e3, e4]
  by_cases hz : P % 2 ^ 49 = 0
  · rw [if_pos hz, if_pos (by rw [hz]; rfl)]
  · rw [if_neg hz, if_neg (by rw [show (0 : Int64) = lN 0 from rfl, nb_eq (by omega) (by decide)]; exact hz)]
    exact nx_or1 (by omega)
theorem nx_wq_loop {d : Nat} (hd : d < 2 ^ 56) : ∀ (t w r : Nat), t ≤ 63 → r < 2 * d → w < 2 ^ (63 - t) →
    ∃ w' r', ml_X0_wideQuotient_9 (lN d) (t + 1) (lN w) (lN r) (nI (63 - t)) = (lN w', lN r', nI 63) ∧ w' * (2 * d) + r' = (w * (2 * d) + r) * 2 ^ t ∧ r' < 2 * d := by
  intro t
  induction t with
  | zero =>
    intro w r ht hr hw
    refine ⟨w, r, ?_, by simp, hr⟩
    rw [ml_X0_wideQuotient_9_s, if_pos (by rw [show (63 : Int32) = nI 63 from rfl, nI_leI (by decide) (by decide)]; omega)]
  | succ t ih =>
    intro w r ht hr hw
    have hw2 : 2 ^ (63 - (t + 1)) * 2 = 2 ^ (63 - t) := by rw [← Nat.pow_succ]; congr 1; omega
    have hwb : 2 ^ (63 - t) ≤ 2 ^ 63 := Nat.pow_le_pow_right (by decide) (by omega)
    rw [ml_X0_wideQuotient_9_s, if_neg (by rw [show (63 : Int32) = nI 63 from rfl, nI_leI (by decide) (by omega)]; omega)]
    unfold xj_bnd
    dsimp only
    rw [show (1 : Int32) = nI 1 from rfl, nb_shl _ (by decide), nI_add, show 63 - (t + 1) + 1 = 63 - t by omega]
    by_cases hc : r < d
    · rw [if_pos ((nb_lt (by omega) (by omega)).mpr hc), if_pos ((nb_lt (by omega) (by omega)).mpr hc), nb_shl _ (by decide)]
      obtain ⟨w', r', e1, e2, e3⟩ := ih (w * 2 ^ 1) (r * 2 ^ 1) (by omega) (by omega) (by omega)
      refine ⟨w', r', e1, ?_, e3⟩
      have : w * 2 ^ 1 * (2 * d) + r * 2 ^ 1 = (w * (2 * d) + r) * 2 := by rw [Nat.add_mul]; ac_rfl
      rw [e2, this, Nat.pow_succ]; ac_rfl
    · rw [if_neg (fun h => hc ((nb_lt (by omega) (by omega)).mp h)), if_neg (fun h => hc ((nb_lt (by omega) (by omega)).mp h)), lN_sub (by omega), nb_shl _ (by decide), nx_or1 (by omega), show w * 2 ^ 1 / 2 * 2 + 1 = w * 2 + 1 by omega]
      obtain ⟨w', r', e1, e2, e3⟩ := ih (w * 2 + 1) ((r - d) * 2 ^ 1) (by omega) (by omega) (by omega)
      refine ⟨w', r', e1, ?_, e3⟩
      have : (w * 2 + 1) * (2 * d) + (r - d) * 2 ^ 1 = (w * (2 * d) + r) * 2 := by
        rw [Nat.add_mul, Nat.add_mul, show w * 2 * (2 * d) = w * (2 * d) * 2 by ac_rfl]; omega
      rw [e2, this, Nat.pow_succ]; ac_rfl
theorem nx_wideQuotient {x d : Nat} (hd : d < 2 ^ 56) (hx : x < 2 * d) : mf_X0_wideQuotient (lN x) (lN d) = lN (nq_stk (x * 2 ^ 62) d) := by
  unfold mf_X0_wideQuotient xj_bnd
  dsimp only
  obtain ⟨w', r', e1, e2, e3⟩ := nx_wq_loop hd 63 0 x (by decide) hx (by decide)
  rw [show (ml_X0_wideQuotient_9 (lN d) 64 (0 : Int64) (lN x) (0 : Int32)) = (lN w', lN r', nI 63) from e1]
  dsimp only
  rw [Nat.zero_mul, Nat.zero_add] at e2
  have h2 : x * 2 ^ 63 = 2 * (x * 2 ^ 62) := by rw [show (2 : Nat) ^ 63 = 2 * 2 ^ 62 by decide]; ac_rfl
  have hd0 : 0 < d := by omega
  have hw : w' = x * 2 ^ 62 / d := by
    have : x * 2 ^ 63 / (2 * d) = w' := by
      rw [← e2, Nat.mul_comm w', Nat.mul_add_div (by omega), Nat.div_eq_of_lt e3, Nat.add_zero]
    rw [← this, h2, Nat.mul_div_mul_left _ _ (by decide)]
  have hr : r' = 2 * (x * 2 ^ 62 % d) := by
    have : x * 2 ^ 63 % (2 * d) = r' := by
      rw [← e2, Nat.mul_comm w', Nat.mul_add_mod, Nat.mod_eq_of_lt e3]
    rw [← this, h2, Nat.mul_mod_mul_left]
  have hwb : w' < 2 ^ 63 := by
    rw [hw]; apply Nat.div_lt_of_lt_mul
    have := Nat.mul_lt_mul_of_pos_right hx (show 0 < 2 ^ 62 by decide)
    rw [show d * 2 ^ 63 = 2 * d * 2 ^ 62 by rw [show (2 : Nat) ^ 63 = 2 * 2 ^ 62 by decide]; ac_rfl]
    exact this
  rw [nq_stk_eq, ← hw]
  have hr0 : lN r' = (0 : Int64) ↔ r' = 0 := nb_eq (b := 0) (by omega) (by decide)
  by_cases hz : x * 2 ^ 62 % d = 0
  · rw [if_pos hz, if_pos (hr0.mpr (by omega))]
  · rw [if_neg hz, if_neg (fun h => hz (by have := hr0.mp h; omega))]
    exact nx_or1 (by omega)
end
section
/-! the class: storeRounded -/
theorem nx_sr_loop : ∀ (j n k W : Nat) (x : Int32), 2 ^ 62 ≤ W * 2 ^ j → W * 2 ^ j < 2 ^ 63 → k + j ≤ 62 → j < n →
    ml_X0_storeRounded_25 n (lN W) x (nI k) = (lN (W * 2 ^ j), x - nI j, nI (k + j)) := by
  intro j
  induction j with
  | zero =>
    intro n k W x h1 h2 h3 h4
    obtain ⟨n, rfl⟩ : ∃ n', n = n' + 1 := ⟨n - 1, by omega⟩
    rw [Nat.pow_zero, Nat.mul_one] at *
    rw [ml_X0_storeRounded_25_s, if_neg (by rw [show (63 : Int32) = nI 63 from rfl, nI_leI (by decide) (by omega)]; omega), if_pos (by rw [show (4611686018427387904 : Int64) = lN (2 ^ 62) from rfl, nb_le (by decide) (by omega)]; exact h1)]
    simp [nI_0]
  | succ j ih =>
    intro n k W x h1 h2 h3 h4
    obtain ⟨n, rfl⟩ : ∃ n', n = n' + 1 := ⟨n - 1, by omega⟩
    have hp : W * 2 ^ (j + 1) = W * 2 * 2 ^ j := by rw [Nat.pow_succ]; ac_rfl
    have hj : 0 < 2 ^ j := Nat.two_pow_pos j
    have hW : W < 2 ^ 62 := by
      rcases Nat.lt_or_ge W (2 ^ 62) with c | c
      · exact c
      · have := Nat.mul_le_mul c (Nat.le_refl (2 ^ (j + 1)))
        have h9 : 2 ≤ 2 ^ (j + 1) := Nat.pow_le_pow_right (n := 2) (by decide) (show 1 ≤ j + 1 by omega)
        have := Nat.mul_le_mul (Nat.le_refl (2 ^ 62)) h9
        omega
    rw [ml_X0_storeRounded_25_s, if_neg (by rw [show (63 : Int32) = nI 63 from rfl, nI_leI (by decide) (by omega)]; omega), if_neg (by rw [show (4611686018427387904 : Int64) = lN (2 ^ 62) from rfl, nb_le (by decide) (by omega)]; omega)]
    unfold xj_bnd
    dsimp only
    rw [show xj_shl (lN W) (1 : Int32) = lN (W * 2) from nb_shl W (k := 1) (by decide), nI_1, ih n (k + 1) (W * 2) _ (by omega) (by omega) (by omega) (by omega), hp]
    rw [nI_succ j, show k + 1 + j = k + (j + 1) by omega]
    have e9 : ∀ y : Int32, x + (-1 : Int32) - y = x - (y + 1) := by intro y; grind
    rw [e9]
/-- what is stored, or answered instead: of a number with exponent E (behind the rounding) and fraction fr -/
def nx_out (f : Nat → Int64) (u o to below : Int32) (E : Int) (fr : Nat) (x : Int32) : Int32 × (Nat → Int64) × Int32 × Int32 :=
  if 255 < E then (-2, (f, u, o)) else if E < 1 then (if u = 0 then (4, (vp_updL f to.toNatClampNeg 0, u, 1)) else (-3, (f, u, o)))
  else ((if below = 0 then 0 else 8), (vp_updL f to.toNatClampNeg (lN (nx_bits (if below = 0 then 0 else 1) E.toNat fr)), u, x))
theorem nx_sr_zero (f : Nat → Int64) (u o p1 p2 p3 p4 : Int32) : mf_X0_storeRounded f u o p1 p2 p3 p4 0 = (4, (vp_updL f p2.toNatClampNeg 0, u, 0)) := by
  unfold mf_X0_storeRounded xj_bnd
  rw [if_pos rfl]
  rfl
theorem nx_subT {a : Int32} {j : Nat} {e : Int} (he : a.toInt = e) (h1 : -1000 ≤ e) (h2 : e ≤ 1000) (hj : j ≤ 62) : (a - nI j).toInt = e - j := by
  rw [Int32.toInt_sub, he, nI_toInt (by omega)]
  apply Int.bmod_eq_of_le <;> omega
theorem nx_addT {a : Int32} {e : Int} (he : a.toInt = e) (h1 : -2000 ≤ e) (h2 : e ≤ 2000) : (a + (1 : Int32)).toInt = e + 1 := by
  rw [Int32.toInt_add, he, show (1 : Int32).toInt = 1 by decide]
  apply Int.bmod_eq_of_le <;> omega
theorem nx_ofT {a : Int32} {n : Nat} (h : a.toInt = (n : Int)) (hn : n < 2 ^ 31) : a = nI n := by
  rw [← Int32.toInt_inj, h, nI_toInt hn]
theorem nx_sr_tail (f : Nat → Int64) (u o to below y14 y18 : Int32) (w : Int64) {E : Int} {fr : Nat} (hE : y18.toInt = E) (hfr : fr < 2 ^ 55) (hw : (xj_ush w (7 : Int32)) &&& (36028797018963967 : Int64) = lN fr) :
    (if y18 ≤ (255 : Int32) then (if (1 : Int32) ≤ y18 then (if below = 0 then ((0 : Int32), ((vp_updL f (Int32.toNatClampNeg to) (mf_X0_bitsOf below y18 ((xj_ush w (7 : Int32)) &&& (36028797018963967 : Int64)))), u, y14)) else ((8 : Int32), ((vp_updL f (Int32.toNatClampNeg to) (mf_X0_bitsOf below y18 ((xj_ush w (7 : Int32)) &&& (36028797018963967 : Int64)))), u, y14))) else (if u = 0 then ((mf_X0_storeZero f u o to (1 : Int32)).1, ((mf_X0_storeZero f u o to (1 : Int32)).2.1, (mf_X0_storeZero f u o to (1 : Int32)).2.2.1, (mf_X0_storeZero f u o to (1 : Int32)).2.2.2)) else ((-3 : Int32), (f, u, o)))) else ((-2 : Int32), (f, u, o))) = nx_out f u o to below E fr y14 := by
  unfold nx_out
  have c255 : (255 : Int32).toInt = 255 := by decide
  have c1 : (1 : Int32).toInt = 1 := by decide
  by_cases a : E ≤ 255
  · rw [if_pos (by rw [Int32.le_iff_toInt_le, hE, c255]; exact a), if_neg (by omega : ¬ 255 < E)]
    by_cases b : 1 ≤ E
    · rw [if_pos (by rw [Int32.le_iff_toInt_le, hE, c1]; exact b), if_neg (by omega : ¬ E < 1), hw, nx_bitsOf (E := E.toNat) (by omega) (nx_ofT (by rw [hE]; omega) (by omega)) hfr]
      by_cases hb : below = 0 <;> simp [hb]
    · rw [if_neg (by rw [Int32.le_iff_toInt_le, hE, c1]; exact b), if_pos (by omega : E < 1)]
      rfl
  · rw [if_neg (by rw [Int32.le_iff_toInt_le, hE, c255]; exact a), if_pos (by omega : 255 < E)]
theorem nx_storeRounded (f : Nat → Int64) (u o size to below p4 : Int32) {s W j m : Nat} {e : Int} (hs : (size = 4 ∧ s = 39) ∨ (size ≠ 4 ∧ s = 7)) (h1 : 2 ^ 62 ≤ W * 2 ^ j) (h2 : W * 2 ^ j < 2 ^ 63) (hj : j ≤ 62)
    (he : p4.toInt = e) (he1 : -1000 ≤ e) (he2 : e ≤ 1000) (hm : m = (W * 2 ^ j + 2 ^ (s - 1)) / 2 ^ s) :
    mf_X0_storeRounded f u o size to below p4 (lN W) = nx_out f u o to below (e - j + (if m * 2 ^ s = 2 ^ 63 then 1 else 0)) (m * 2 ^ s / 2 ^ 7 % 2 ^ 55) (if W * 2 ^ j % 2 ^ s = 0 then 0 else 1) := by
  have hW0 : 0 < W := by
    rcases Nat.eq_zero_or_pos W with c | c
    · subst c; omega
    · exact c
  have hWb : W < 2 ^ 63 := by
    have := Nat.mul_le_mul (Nat.le_refl W) (Nat.two_pow_pos j)
    omega
  unfold mf_X0_storeRounded
  rw [if_neg (by rw [show (0 : Int64) = lN 0 from rfl, nb_eq (by omega) (by decide)]; omega)]
  have hlp : ml_X0_storeRounded_25 64 (lN W) p4 (0 : Int32) = (lN (W * 2 ^ j), p4 - nI j, nI (0 + j)) := nx_sr_loop j 64 0 W p4 h1 h2 (by omega) (by omega)
  rw [hlp]
  generalize W * 2 ^ j = V at *
  have hy : (if size = (4 : Int32) then (39 : Int32) else (7 : Int32)) = nI s := by
    rcases hs with ⟨a, rfl⟩ | ⟨a, rfl⟩
    · rw [if_pos a]; rfl
    · rw [if_neg a]; rfl
  rw [hy]
  have hs2 : s = 39 ∨ s = 7 := by rcases hs with ⟨_, b⟩ | ⟨_, b⟩ <;> simp [b]
  clear hs hy
  unfold xj_bnd
  dsimp only
  have hmask : xj_shl (1 : Int64) (nI s) - (1 : Int64) = lN (2 ^ s - 1) := by rcases hs2 with rfl | rfl <;> decide +kernel
  have hhalf : xj_shl (1 : Int64) (nI s - (1 : Int32)) = lN (2 ^ (s - 1)) := by rcases hs2 with rfl | rfl <;> decide +kernel
  have hsl : s < 64 := by omega
  rw [hmask, hhalf, nb_mask (by omega) hsl, lN_add, nb_ush (by rcases hs2 with rfl | rfl <;> omega) hsl, ← hm, nb_shl _ hsl]
  have hmb : m * 2 ^ s ≤ 2 ^ 63 := by rcases hs2 with rfl | rfl <;> omega
  have hml : 2 ^ 62 ≤ m * 2 ^ s := by rcases hs2 with rfl | rfl <;> omega
  have hV : V % 2 ^ s < 2 ^ 64 := by rcases hs2 with rfl | rfl <;> omega
  have hx0 : (lN (V % 2 ^ s) = 0) ↔ V % 2 ^ s = 0 := by rw [show (0 : Int64) = lN 0 from rfl, nb_eq hV (by decide)]
  have ex : (if lN (V % 2 ^ s) = 0 then (0 : Int32) else 1) = (if V % 2 ^ s = 0 then 0 else 1) := by simp only [hx0]
  rw [ex]
  have hp := nx_subT he he1 he2 hj
  by_cases hc : m * 2 ^ s = 2 ^ 63
  · have hng : ¬ (0 : Int64) ≤ lN (2 ^ 63) := by decide +kernel
    rw [if_pos hc, hc]
    simp only [if_neg hng]
    exact nx_sr_tail f u o to below _ _ _ (E := e - j + 1) (fr := 2 ^ 63 / 2 ^ 7 % 2 ^ 55) (by rw [nx_addT hp (by omega) (by omega)]) (by decide) (by decide +kernel)
  · have hlt : m * 2 ^ s < 2 ^ 63 := by omega
    have hge : (0 : Int64) ≤ lN (m * 2 ^ s) := (nb_le (a := 0) (by decide) hlt).mpr (Nat.zero_le _)
    rw [if_neg hc]
    simp only [if_pos hge]
    refine nx_sr_tail f u o to below _ _ _ (by rw [hp]; omega) (by omega) ?_
    rw [show (7 : Int32) = nI 7 from rfl, nb_ush (by omega) (by decide), show (36028797018963967 : Int64) = lN (2 ^ 55 - 1) from rfl, nb_mask (by omega) (by decide)]
/-! the class: whole numbers -/
theorem nx_neg32 {p : Int32} {d : Nat} (h : p.toInt = -(d : Int)) (hd : d < 2 ^ 31) : -p = nI d := by
  apply nx_ofT _ hd
  rw [Int32.toInt_neg, h, Int.neg_neg]
  apply Int.bmod_eq_of_le <;> omega
theorem nx_wholeDown {sig d : Nat} (hs : sig < 2 ^ 56) (hd1 : 1 ≤ d) (hd2 : d ≤ 183) {p2 : Int32} (h2 : p2.toInt = -(d : Int)) (p3 : Int32) :
    mf_X0_wholeSize (lN sig) p2 p3 = lN (if p3 = 0 then sig / 2 ^ d else (sig / 2 ^ (d - 1) + 1) / 2) := by
  unfold mf_X0_wholeSize xj_bnd
  dsimp only
  have z : (0 : Int32).toInt = 0 := by decide
  rw [if_pos (by rw [Int32.lt_iff_toInt_lt, h2, z]; omega), nx_neg32 h2 (by omega)]
  by_cases h56 : d ≤ 56
  · rw [if_pos (by rw [show (56 : Int32) = nI 56 from rfl, nI_leI (by omega) (by decide)]; exact h56)]
    by_cases hp : p3 = 0
    · rw [if_pos hp, if_pos hp, nb_ush (by omega) (by omega)]
    · rw [if_neg hp, if_neg hp, show (1 : Int32) = nI 1 from rfl, pk_sub hd1, nb_ush (by omega) (by omega), show (1 : Int64) = lN 1 from rfl, lN_add, nb_ush (by have := Nat.div_le_self sig (2 ^ (d - 1)); omega) (by decide)]
  · rw [if_neg (by rw [show (56 : Int32) = nI 56 from rfl, nI_leI (by omega) (by decide)]; exact h56)]
    have a : 2 ^ 56 ≤ 2 ^ (d - 1) := Nat.pow_le_pow_right (by decide) (by omega)
    have b : 2 ^ 56 ≤ 2 ^ d := Nat.pow_le_pow_right (by decide) (by omega)
    rw [Nat.div_eq_of_lt (show sig < 2 ^ d by omega), Nat.div_eq_of_lt (show sig < 2 ^ (d - 1) by omega)]
    split <;> rfl
theorem nx_wholeUp {sig k : Nat} (hs : sig < 2 ^ 56) (hk : k ≤ 100) {p2 : Int32} (h2 : p2.toInt = (k : Int)) (p3 : Int32) :
    mf_X0_wholeSize (lN sig) p2 p3 = lN (2 ^ 55 + sig * 2 ^ k % 2 ^ 32) := by
  unfold mf_X0_wholeSize xj_bnd
  dsimp only
  have z : (0 : Int32).toInt = 0 := by decide
  rw [if_neg (by rw [Int32.lt_iff_toInt_lt, h2, z]; omega), nx_ofT h2 (by omega)]
  have key : (if (32 : Int32) ≤ nI k then (0 : Int64) else xj_shl (lN sig) (nI k) &&& (4294967295 : Int64)) = lN (sig * 2 ^ k % 2 ^ 32) := by
    by_cases h32 : 32 ≤ k
    · rw [if_pos (by rw [show (32 : Int32) = nI 32 from rfl, nI_leI (by decide) (by omega)]; exact h32)]
      have : sig * 2 ^ k % 2 ^ 32 = 0 := by
        rw [show k = (k - 32) + 32 by omega, Nat.pow_add, ← Nat.mul_assoc, Nat.mul_mod_left]
      rw [this]; rfl
    · rw [if_neg (by rw [show (32 : Int32) = nI 32 from rfl, nI_leI (by decide) (by omega)]; exact h32), nb_shl _ (by omega), nb_mod, show (4294967295 : Int64) = lN (2 ^ 32 - 1) from rfl, nb_mask (by omega) (by decide)]
      congr 1
      omega
  rw [key, Int64.or_comm]
  have := nb_oadd (b := 1) (a := sig * 2 ^ k % 2 ^ 32) (k := 55) (by omega) (by omega)
  rw [Nat.one_mul] at this
  exact this
/-! the class: a wide number that stands for N / D is rounded as N / D is -/
theorem nq_norm {N D j : Nat} (hD : 0 < D) (hj : j ≤ 61) (h1 : 2 ^ 62 * D ≤ N * 2 ^ j) (h2 : N * 2 ^ j < 2 ^ 63 * D) : 2 ^ 62 ≤ nq_stk N D * 2 ^ j ∧ nq_stk N D * 2 ^ j < 2 ^ 63 := by
  obtain ⟨k, hk⟩ : ∃ k, 61 = j + k := ⟨61 - j, by omega⟩
  have hJ : 0 < 2 ^ j := Nat.two_pow_pos j
  have e62 : (2 : Nat) ^ 62 = 2 ^ j * (2 * 2 ^ k) := by
    rw [show 62 = j + (1 + k) by omega, Nat.pow_add, Nat.pow_add]
  have e63 : (2 : Nat) ^ 63 = 2 ^ j * (2 * (2 * 2 ^ k)) := by
    rw [show (63 : Nat) = 62 + 1 from rfl, Nat.pow_succ, e62]; ac_rfl
  rw [e62] at h1 ⊢
  rw [e63] at h2 ⊢
  generalize 2 ^ j = J at *
  generalize 2 ^ k = c at *
  have a1 : 2 * D * c ≤ N := by
    have : J * (2 * D * c) ≤ J * N := by rw [show J * (2 * D * c) = J * (2 * c) * D by ac_rfl, Nat.mul_comm J N]; exact h1
    exact Nat.le_of_mul_le_mul_left this hJ
  have a2 : N < 2 * D * (2 * c) := by
    have : J * N < J * (2 * D * (2 * c)) := by rw [show J * (2 * D * (2 * c)) = J * (2 * (2 * c)) * D by ac_rfl, Nat.mul_comm J N]; exact h2
    exact Nat.lt_of_mul_lt_mul_left this
  have b1 : c ≤ N / (2 * D) := (Nat.le_div_iff_mul_le (by omega)).mpr (by rw [Nat.mul_comm]; exact a1)
  have b2 : N / (2 * D) < 2 * c := Nat.div_lt_of_lt_mul a2
  have hh := nq_half N D
  constructor
  · rw [Nat.mul_comm _ J]; apply Nat.mul_le_mul_left; omega
  · rw [Nat.mul_comm _ J]; apply Nat.mul_lt_mul_of_pos_left _ hJ; omega
theorem nx_srS (f : Nat → Int64) (u o size to below p4 : Int32) {s N D j m : Nat} {e : Int} (hs : (size = 4 ∧ s = 39) ∨ (size ≠ 4 ∧ s = 7)) (hD : 0 < D) (h1 : 2 ^ 62 * D ≤ N * 2 ^ j) (h2 : N * 2 ^ j < 2 ^ 63 * D) (hj : j + 2 ≤ s ∨ (N % D = 0 ∧ j ≤ 62))
    (he : p4.toInt = e) (he1 : -1000 ≤ e) (he2 : e ≤ 1000) (hm : m = (N * 2 ^ j + D * 2 ^ (s - 1)) / (D * 2 ^ s)) :
    mf_X0_storeRounded f u o size to below p4 (lN (nq_stk N D)) = nx_out f u o to below (e - j + (if m * 2 ^ s = 2 ^ 63 then 1 else 0)) (m * 2 ^ s / 2 ^ 7 % 2 ^ 55) (if N * 2 ^ j % (D * 2 ^ s) = 0 then 0 else 1) := by
  have hs2 : s = 39 ∨ s = 7 := by rcases hs with ⟨_, b⟩ | ⟨_, b⟩ <;> simp [b]
  have hm2 : (2 ^ 62 ≤ nq_stk N D * 2 ^ j ∧ nq_stk N D * 2 ^ j < 2 ^ 63) ∧ m = (nq_stk N D * 2 ^ j + 2 ^ (s - 1)) / 2 ^ s ∧ (nq_stk N D * 2 ^ j % 2 ^ s = 0 ↔ N * 2 ^ j % (D * 2 ^ s) = 0) := by
    rcases hj with hj | ⟨hj, _⟩
    · refine ⟨nq_norm hD (by omega) h1 h2, ?_⟩
      rw [hm, nq_rnd hD hj]; exact ⟨rfl, nq_exact hD hj⟩
    · have e1 : nq_stk N D = N / D := by rw [nq_stk_eq, if_pos hj]
      have e2 : N = D * (N / D) := by have := Nat.div_add_mod N D; omega
      rw [e1, hm]
      generalize N / D = q at *
      subst e2
      have e3 : D * q * 2 ^ j = D * (q * 2 ^ j) := by ac_rfl
      rw [e3] at h1 h2
      rw [Nat.mul_comm] at h1
      rw [Nat.mul_comm (2 ^ 63)] at h2
      refine ⟨⟨Nat.le_of_mul_le_mul_left h1 hD, Nat.lt_of_mul_lt_mul_left h2⟩, ?_⟩
      rw [e3, ← Nat.mul_add, Nat.mul_div_mul_left _ _ hD, Nat.mul_mod_mul_left]
      refine ⟨rfl, ?_⟩
      constructor
      · intro h; rw [h, Nat.mul_zero]
      · intro h; rcases Nat.mul_eq_zero.mp h with h | h
        · omega
        · exact h
  obtain ⟨⟨n1, n2⟩, hm2⟩ := hm2
  rw [nx_storeRounded f u o size to below p4 hs n1 n2 (by omega) he he1 he2 hm2.1]
  simp only [hm2.2]
end
