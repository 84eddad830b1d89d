/-! MY KIT: contracts of one shape (pure: cS, over a world: cM), their entries, ends and calls -/
/-- a pure static method: over any heap it answers r, and changes nothing -/
abbrev cS (l : Launch) (y : MethodName) (ws : List Cond) (rm : Room) (as : List Value) (r : Value) : Prop := Met l y ws rm (va_Pc as (fun _ => True)) (k2_QcV r) 0 0 (fun _ => False)
theorem cS_in {l : Launch} {y : MethodName} {ws ws' : List Cond} {rm : Room} {as : List Value} {r : Value} {cc : ByteArray} {maxL : Nat} {ret : Option FieldType} (hy : plainName y.cls = true) (hw : ws = Cond.code y cc maxL ret :: ws') (hn : (lg_sl as).length ≤ maxL)
    (body : ∀ (p : Program) (e : Env) (s : State) (m : MethodId) (below : List Frame) (meth : Method) (c : Code) (ls : Array Slot), p.tables.exec = Jvm.exec → c.code = cc → meth.sig.returnType = ret → meth.locks = false → c.maxLocals = maxL → s.vm.findClass y.cls = some m.cls → (∀ w ∈ ws, w.before as.toArray s = true) → lv_has ls maxL (lv_args 0 as) →
      W p l e rm s m as.toArray below meth c s.heap [] 0 0 (MQ below (k2_QcV r) as.toArray s 0 0 (fun _ => False)) (F0 m 0 ls [])) : cS l y ws rm as r := by
  refine Met.ofW hy hw ?_
  intro p e s m args below meth c s₁ B hml hv
  obtain ⟨rfl, -⟩ := hv
  rw [lg_entry_eq]
  exact body p e s m below meth c _ B.exec B.bytes B.returns B.notSynchronized hml (findClass_of_methodNamed B.named) (atoms_spec (ws := ws) B.pre) (lv_entry as hn)
section KS
variable {p : Program} {l : Launch} {e : Env} {R : Room} {s : State} {m : MethodId} {args : Array Value} {below : List Frame} {meth : Method} {c : Code} {H : Heap} {locs : List Loc} {cells slots : Nat} {Q : State → Prop}
variable {cc bytes : ByteArray} {pc nL maxL index n : Nat} {ls : Array Slot} {rest st0 as : List Value} {Ts ws ws' : List Cond} {own C : String} {y : MethodName} {ret : Option FieldType} {rm : Room}
/-- the value on top gets a name (the equation turned as 'subst' likes it) -/
theorem tpi {x : Int32} (k : ∀ y : Int32, x = y → W p l e R s m args below meth c H locs cells slots Q (F0 m pc ls (.int y :: rest))) : W p l e R s m args below meth c H locs cells slots Q (F0 m pc ls (.int x :: rest)) := k x rfl
theorem tpl {x : Int64} (k : ∀ y : Int64, x = y → W p l e R s m args below meth c H locs cells slots Q (F0 m pc ls (.long y :: rest))) : W p l e R s m args below meth c H locs cells slots Q (F0 m pc ls (.long x :: rest)) := k x rfl
theorem cS_reti {v r : Int32} (hx : p.tables.exec = Jvm.exec) (hb : c.code = cc) (hr : meth.sig.returnType = some .int) (hlocks : meth.locks = false) (hdg : decode cc pc = .ok (.ireturn, 1)) (h : v = r) : W p l e R s m args below meth c s.heap [] 0 0 (MQ below (k2_QcV (.int r)) args s 0 0 (fun _ => False)) (F0 m pc ls [.int v]) := by
  subst h
  exact W.iret hx hb hr (fun t ht _ => ⟨rfl, ht⟩) (fun q h => by cases h) hdg
theorem cS_retz {v r : Int32} (hx : p.tables.exec = Jvm.exec) (hb : c.code = cc) (hr : meth.sig.returnType = some .boolean) (hlocks : meth.locks = false) (hdg : decode cc pc = .ok (.ireturn, 1)) (hn : narrow .boolean (.int v) = .int v) (h : v = r) : W p l e R s m args below meth c s.heap [] 0 0 (MQ below (k2_QcV (.int r)) args s 0 0 (fun _ => False)) (F0 m pc ls [.int v]) := by
  subst h
  exact W.zret hx hb hr hn (fun t ht _ => ⟨rfl, ht⟩) (fun q h => by cases h) hdg
theorem cS_retl {v r : Int64} (hx : p.tables.exec = Jvm.exec) (hb : c.code = cc) (hr : meth.sig.returnType = some .long) (hlocks : meth.locks = false) (hdg : decode cc pc = .ok (.lreturn, 1)) (h : v = r) : W p l e R s m args below meth c s.heap [] 0 0 (MQ below (k2_QcV (.long r)) args s 0 0 (fun _ => False)) (F0 m pc ls [.long v]) := by
  subst h
  exact W.lret hx hb hr (fun t ht _ => ⟨rfl, ht⟩) (fun q h => by cases h) hdg
/-- a call of a pure static method -/
theorem cS_call {r : Value} (S : CallFix p m c cc nL s args Ts own) (hM : cS l y ws rm as r) (hT : GoodIn Ts (va_wsS own index y ws)) (hw : ws = Cond.code y bytes maxL ret :: ws') (hrc : rm.cells = 0) (hrs : rm.slots = 0)
    (hd : y.cls ≠ "java/lang/invoke/MethodHandle" ∧ y.cls ≠ "java/lang/invoke/VarHandle" ∧ (parseMethodDescriptor y.desc).map (fun d => d.parameters.length) = some n) (hR : rm.frames + 1 ≤ R.frames ∧ 8 + (maxL + 11) + rm.locals ≤ R.locals)
    (hsize : ls.size = nL) (hlen : as.length = n) (hstack : st0 = as.reverse ++ rest) (hW : (rest.map fun v => v.category).sum ≤ 8) (hdg : decode cc pc = .ok (.invokestatic index, 3)) (hf : cells ≤ R.cells ∧ slots ≤ R.slots)
    (kk : W p l e R s m args below meth c H locs cells slots Q (F0 m (pc + 3) ls (r :: rest))) : W p l e R s m args below meth c H locs cells slots Q (F0 m pc ls st0) :=
  W.callV (W.runS S hM (va_cwS n S.2.2.2.2 hT hw hrc hrs hd hR) ⟨fun a U g mk h => ⟨h.1, trivial⟩, fun U _ _ => ⟨rfl, trivial⟩⟩ rfl hlen hsize hstack (lv_room hW) hdg hf) kk
end KS
/-- the end of a method over a world: its answer, the world behind it, the rest unchanged -/
def cQ (ro : Option Value) (B : State → Prop) (A : Nat → Prop) : Array Value → State → Outcome → State → Prop := fun _ st oc t => oc = .returned ro ∧ B t ∧ va_F A st t
/-- a method over a world of the kind Wd: from st it comes to st', and answers ro; nothing is made -/
def cM {σ : Type} (l : Launch) (D : va_G) (cl : List vw_C) (tys : List (ClassId × FieldType)) (Wd : σ → va_W) (y : MethodName) (ws : List Cond) (rm : Room) (as : List Value) (st : σ) (ro : Option Value) (st' : σ) : Prop :=
  ∀ sz : Nat, Met l y ws rm (va_Pc as (fun U => U.heap.size = sz ∧ va_P D cl (Wd st) U.heap ∧ va_K D cl tys U ∧ va_D (fun _ => True) (Wd st))) (cQ ro (fun t => va_P D cl (Wd st') t.heap ∧ va_D (va_A (Wd st) sz) (Wd st')) (va_A (Wd st) sz)) 0 0 (va_A (Wd st) sz)
theorem cM_in {σ : Type} {l : Launch} {D : va_G} {cl : List vw_C} {tys : List (ClassId × FieldType)} {Wd : σ → va_W} {y : MethodName} {ws ws' : List Cond} {rm : Room} {as : List Value} {st st' : σ} {ro : Option Value} {cc : ByteArray} {maxL : Nat} {ret : Option FieldType} (hy : plainName y.cls = true) (hw : ws = Cond.code y cc maxL ret :: ws') (hn : (lg_sl as).length ≤ maxL)
    (body : ∀ (p : Program) (e : Env) (s : State) (m : MethodId) (below : List Frame) (meth : Method) (c : Code) (ls : Array Slot) (A : Nat → Prop), p.tables.exec = Jvm.exec → c.code = cc → meth.sig.returnType = ret → meth.locks = false → c.maxLocals = maxL → s.vm.findClass y.cls = some m.cls → (∀ w ∈ ws, w.before as.toArray s = true) → (∀ q : Nat, s.heap.size ≤ q → A q) → va_K D cl tys s → va_P D cl (Wd st) s.heap → va_D A (Wd st) → va_S A s.heap s.heap [] → lv_has ls maxL (lv_args 0 as) →
      W p l e rm s m as.toArray below meth c s.heap [] 0 0 (MQ below (cQ ro (fun t => va_P D cl (Wd st') t.heap ∧ va_D A (Wd st')) A) as.toArray s 0 0 A) (F0 m 0 ls [])) : cM l D cl tys Wd y ws rm as st ro st' := by
  intro sz
  refine Met.ofW hy hw ?_
  intro p e s m args below meth c s₁ B hml hv
  obtain ⟨rfl, hsz, hP, hK, hD⟩ := hv
  subst hsz
  rw [lg_entry_eq]
  exact body p e s m below meth c _ _ B.exec B.bytes B.returns B.notSynchronized hml (findClass_of_methodNamed B.named) (atoms_spec (ws := ws) B.pre) (fun q h => Or.inr h) hK hP hD.self va_S.rf (lv_entry as hn)
section KM
variable {σ : Type} {p : Program} {l : Launch} {e : Env} {R : Room} {s : State} {m : MethodId} {args : Array Value} {below : List Frame} {meth : Method} {c : Code} {H H0 : Heap} {locs : List Loc} {cells slots : Nat} {Q : State → Prop}
variable {cc bytes : ByteArray} {pc nL maxL index n : Nat} {ls : Array Slot} {rest st0 as : List Value} {Ts ws ws' : List Cond} {own C : String} {y : MethodName} {ret : Option FieldType} {rm : Room}
variable {D : va_G} {cl : List vw_C} {tys tysC : List (ClassId × FieldType)} {Wd : σ → va_W} {wsC wr : va_W} {st st' : σ} {ro : Option Value} {A : Nat → Prop}
theorem cM_reti {v r : Int32} (hx : p.tables.exec = Jvm.exec) (hb : c.code = cc) (hr : meth.sig.returnType = some .int) (hlocks : meth.locks = false) (hdg : decode cc pc = .ok (.ireturn, 1)) (hS : va_S A s.heap H locs) (hP : va_P D cl (Wd st) H) (hD : va_D A (Wd st)) (h : v = r) (h2 : st = st') : W p l e R s m args below meth c H locs 0 0 (MQ below (cQ (some (.int r)) (fun t => va_P D cl (Wd st') t.heap ∧ va_D A (Wd st')) A) args s 0 0 A) (F0 m pc ls [.int v]) := by
  subst h
  subst h2
  exact W.iret hx hb hr (fun t ht _ => ⟨rfl, ⟨by rw [ht]; exact hP, hD⟩, hS.F ht⟩) hS.2.2 hdg
theorem cM_retz {v r : Int32} (hx : p.tables.exec = Jvm.exec) (hb : c.code = cc) (hr : meth.sig.returnType = some .boolean) (hlocks : meth.locks = false) (hdg : decode cc pc = .ok (.ireturn, 1)) (hS : va_S A s.heap H locs) (hP : va_P D cl (Wd st) H) (hD : va_D A (Wd st)) (hn : narrow .boolean (.int v) = .int v) (h : v = r) (h2 : st = st') : W p l e R s m args below meth c H locs 0 0 (MQ below (cQ (some (.int r)) (fun t => va_P D cl (Wd st') t.heap ∧ va_D A (Wd st')) A) args s 0 0 A) (F0 m pc ls [.int v]) := by
  subst h
  subst h2
  exact W.zret hx hb hr hn (fun t ht _ => ⟨rfl, ⟨by rw [ht]; exact hP, hD⟩, hS.F ht⟩) hS.2.2 hdg
theorem cM_retl {v r : Int64} (hx : p.tables.exec = Jvm.exec) (hb : c.code = cc) (hr : meth.sig.returnType = some .long) (hlocks : meth.locks = false) (hdg : decode cc pc = .ok (.lreturn, 1)) (hS : va_S A s.heap H locs) (hP : va_P D cl (Wd st) H) (hD : va_D A (Wd st)) (h : v = r) (h2 : st = st') : W p l e R s m args below meth c H locs 0 0 (MQ below (cQ (some (.long r)) (fun t => va_P D cl (Wd st') t.heap ∧ va_D A (Wd st')) A) args s 0 0 A) (F0 m pc ls [.long v]) := by
  subst h
  subst h2
  exact W.lret hx hb hr (fun t ht _ => ⟨rfl, ⟨by rw [ht]; exact hP, hD⟩, hS.F ht⟩) hS.2.2 hdg
theorem cM_retv (hx : p.tables.exec = Jvm.exec) (hb : c.code = cc) (hr : meth.sig.returnType = none) (hlocks : meth.locks = false) (hdg : decode cc pc = .ok (.return_, 1)) (hS : va_S A s.heap H locs) (hP : va_P D cl (Wd st) H) (hD : va_D A (Wd st)) (h2 : st = st') : W p l e R s m args below meth c H locs 0 0 (MQ below (cQ none (fun t => va_P D cl (Wd st') t.heap ∧ va_D A (Wd st')) A) args s 0 0 A) (F0 m pc ls []) := by
  subst h2
  exact W.vret hx hb hr (fun t ht _ => ⟨rfl, ⟨by rw [ht]; exact hP, hD⟩, hS.F ht⟩) hS.2.2 hdg
/-- a call of a method over a world: isC are the callee's cells among the caller's, isR the rest -/
theorem cM_call {b : Nat} {q : vw_C} {ci : Nat} {fs : List Value} {q0 : Nat} (isC isR : List Nat) (S : CallFix p m c cc nL s args Ts own) (hM : cM l D cl tysC Wd y ws rm (.ref b :: as) st ro st') (hT : GoodIn Ts (wsV own index C y ws)) (hw : ws = Cond.code y bytes maxL ret :: ws') (hrc : rm.cells = 0) (hrs : rm.slots = 0)
    (hd : y.cls = C ∧ y.cls ≠ "java/lang/invoke/MethodHandle" ∧ y.cls ≠ "java/lang/invoke/VarHandle" ∧ (parseMethodDescriptor y.desc).map (fun d => d.parameters.length) = some n) (hR : rm.frames + 1 ≤ R.frames ∧ 8 + (maxL + 11) + rm.locals ≤ R.locals)
    (hK : va_K D cl tysC s) (hP : va_P D cl wsC H) (hD : va_D A wsC) (hS : va_S A H0 H locs) (hA : ∀ q, H0.size ≤ q → A q)
    (hC : isC.map (fun i => wsC[i]?) = (Wd st).map some) (hRs : isR.map (fun i => wsC[i]?) = wr.map some) (hnC : va_nd isC = true) (hnR : va_nd isR = true) (hdis : ∀ i ∈ isR, i ∉ isC)
    (hc : cl[ci]? = some q) (hq : q.1 = C) (he : (Wd st)[q0]? = some (b, .inr (ci, fs)))
    (hsize : ls.size = nL) (hlen : as.length = n) (hstack : st0 = as.reverse ++ .ref b :: rest) (hW : (rest.map fun v => v.category).sum ≤ 8) (hdg : decode cc pc = .ok (.invokevirtual index, 3)) (hf : cells ≤ R.cells ∧ slots ≤ R.slots)
    (kk : ∀ (H1 : Heap) (locs1 : List Loc), va_P D cl (wr ++ Wd st') H1 → va_D A (wr ++ Wd st') → va_S A H0 H1 locs1 → W p l e R s m args below meth c H1 locs1 cells slots Q (F0 m (pc + 3) ls (ro.toList ++ rest))) : W p l e R s m args below meth c H locs cells slots Q (F0 m pc ls st0) := by
  have hPc : va_P D cl (Wd st) H := by
    intro k x hx
    have h1 : (isC.map (fun i => wsC[i]?))[k]? = some (some x) := by rw [hC, List.getElem?_map, hx]; rfl
    rw [List.getElem?_map] at h1
    cases hi : isC[k]? with
    | none => rw [hi] at h1; cases h1
    | some i => rw [hi] at h1; exact hP i x (Option.some.inj h1)
  have hDc := hD.sub isC hnC hC
  have hFc := va_free hD hS hA isC hC
  subst hq
  have hr := va_runV (H := H) (locs := locs) (cells := cells) (slots := slots) (e := e) (below := below) (meth := meth) (g := F0 m pc ls st0) (b := b) (As := as) (rest := rest) S (hM H.size) (cwV n S.2.2.2.2 hT hw hrc hrs hd hR)
    ⟨fun a U g mk h => ⟨h.1, h.2.1, h.2.2.1, va_K.moved (u := U) (U := U.calling g mk a) (Vm.Alike.refl U.vm) h.2.2.2.1, h.2.2.2.2⟩, va_recv hK hPc hc he, fun U hU hW => ⟨rfl, by rw [hU], by rw [hU]; exact hPc, va_K.moved hW.alike hK, hDc.weaken (fun _ _ _ _ => trivial)⟩⟩ rfl hlen hsize hstack (lv_room hW) hdg hf
  intro T hT X
  obtain ⟨v, st₀, t, T', L, h0, X', hL, e1, e2, ⟨hv, ⟨hP1, hD1⟩, hz, hk⟩, stp⟩ := hr T hT X
  cases hv
  rw [h0] at hz hk
  obtain ⟨hP2, hD2⟩ := va_join (H1 := t.heap) hP hD isC isR hC hRs hnR hdis hk hFc hP1 hD1
  obtain ⟨t2, a1, b1⟩ := kk t.heap (locs ++ L) hP2 hD2 ⟨Nat.le_trans hS.1 hz, fun q h1 h2 => by rw [hk q (Nat.lt_of_lt_of_le h1 hS.1) (fun z => h2 (hFc q z))]; exact hS.2.1 q h1 h2, fun q hq => by
      rcases List.mem_append.mp hq with h | h
      · exact hS.2.2 q h
      · exact hFc _ (hL q h)⟩ T' e1 X'
  exact ⟨t2, stp t2 a1, b1⟩
/-- the same, the callee's world being the caller's -/
theorem cM_this {b : Nat} {q : vw_C} {ci : Nat} {fs : List Value} {q0 : Nat} (S : CallFix p m c cc nL s args Ts own) (hM : cM l D cl tysC Wd y ws rm (.ref b :: as) st ro st') (hT : GoodIn Ts (wsV own index C y ws)) (hw : ws = Cond.code y bytes maxL ret :: ws') (hrc : rm.cells = 0) (hrs : rm.slots = 0)
    (hd : y.cls = C ∧ y.cls ≠ "java/lang/invoke/MethodHandle" ∧ y.cls ≠ "java/lang/invoke/VarHandle" ∧ (parseMethodDescriptor y.desc).map (fun d => d.parameters.length) = some n) (hR : rm.frames + 1 ≤ R.frames ∧ 8 + (maxL + 11) + rm.locals ≤ R.locals)
    (hK : va_K D cl tysC s) (hP : va_P D cl (Wd st) H) (hD : va_D A (Wd st)) (hS : va_S A H0 H locs) (hA : ∀ q, H0.size ≤ q → A q)
    (hc : cl[ci]? = some q) (hq : q.1 = C) (he : (Wd st)[q0]? = some (b, .inr (ci, fs)))
    (hsize : ls.size = nL) (hlen : as.length = n) (hstack : st0 = as.reverse ++ .ref b :: rest) (hW : (rest.map fun v => v.category).sum ≤ 8) (hdg : decode cc pc = .ok (.invokevirtual index, 3)) (hf : cells ≤ R.cells ∧ slots ≤ R.slots)
    (kk : ∀ (H1 : Heap) (locs1 : List Loc), va_P D cl (Wd st') H1 → va_D A (Wd st') → va_S A H0 H1 locs1 → W p l e R s m args below meth c H1 locs1 cells slots Q (F0 m (pc + 3) ls (ro.toList ++ rest))) : W p l e R s m args below meth c H locs cells slots Q (F0 m pc ls st0) := by
  have hP' := hP
  have hFc : ∀ q, va_A (Wd st) H.size q → A q := by
    intro x h
    rcases h with ⟨k, e, h⟩ | h
    · exact hD.2 k (x, e) h
    · exact hA x (Nat.le_trans hS.1 h)
  subst hq
  have hr := va_runV (H := H) (locs := locs) (cells := cells) (slots := slots) (e := e) (below := below) (meth := meth) (g := F0 m pc ls st0) (b := b) (As := as) (rest := rest) S (hM H.size) (cwV n S.2.2.2.2 hT hw hrc hrs hd hR)
    ⟨fun a U g mk h => ⟨h.1, h.2.1, h.2.2.1, va_K.moved (u := U) (U := U.calling g mk a) (Vm.Alike.refl U.vm) h.2.2.2.1, h.2.2.2.2⟩, va_recv hK hP hc he, fun U hU hW => ⟨rfl, by rw [hU], by rw [hU]; exact hP, va_K.moved hW.alike hK, hD.weaken (fun _ _ _ _ => trivial)⟩⟩ rfl hlen hsize hstack (lv_room hW) hdg hf
  intro T hT X
  obtain ⟨v, st₀, t, T', L, h0, X', hL, e1, e2, ⟨hv, ⟨hP1, hD1⟩, hz, hk⟩, stp⟩ := hr T hT X
  cases hv
  rw [h0] at hz hk
  obtain ⟨t2, a1, b1⟩ := kk t.heap (locs ++ L) hP1 (hD1.weaken (fun _ x _ h => hFc x.1 h)) ⟨Nat.le_trans hS.1 hz, fun q h1 h2 => by rw [hk q (Nat.lt_of_lt_of_le h1 hS.1) (fun z => h2 (hFc q z))]; exact hS.2.1 q h1 h2, fun q hq => by
      rcases List.mem_append.mp hq with h | h
      · exact hS.2.2 q h
      · exact hFc _ (hL q h)⟩ T' e1 X'
  exact ⟨t2, stp t2 a1, b1⟩
end KM
