section CAU
variable {e : Env} {f : JFrame} {a : Addr}
theorem GoW.found {s : State} {x : ExceptionTableEntry} {tb : List ExceptionTableEntry} {c : ClassId} {vm' : Vm} {cell : Cell} (hx : covers x f.pc = true) (h0 : x.catchType ≠ 0) (hg : (Jvm.resolveClass f.method.cls x.catchType).Gives e.toSetting s.vm (.ok c) vm') (hr : vm'.classReady f.method.cls x.catchType c)
    (hsz : vm'.classes.size ≤ s.vm.classes.size) (hcell : s.heap[a]? = some cell) (hobj : ∀ k, cell.vm ≠ .statics k) (hk : ∃ k, vm'.classes[cell.cls]? = some k) (hcl : ∃ k, vm'.classes[c]? = some k) (hfit : vm'.assignable cell.cls c = true) : GoW e s f a (x :: tb) (.found x.handlerPc) vm' := by
  intro Q E d acts
  rw [go_cold hx h0 hg hr hsz, W.findHandler_go_class (s := s.setVm vm') (c := c) (cell := cell) hx h0 hr hcell hobj hk hcl, if_pos (show (s.setVm vm').vm.assignable cell.cls c = true from hfit)]
theorem GoW.pass {s : State} {x : ExceptionTableEntry} {tb : List ExceptionTableEntry} {c : ClassId} {vm' vm2 : Vm} {cell : Cell} {h : Handler} (hx : covers x f.pc = true) (h0 : x.catchType ≠ 0) (hg : (Jvm.resolveClass f.method.cls x.catchType).Gives e.toSetting s.vm (.ok c) vm') (hr : vm'.classReady f.method.cls x.catchType c)
    (hsz : vm'.classes.size ≤ s.vm.classes.size) (hcell : s.heap[a]? = some cell) (hobj : ∀ k, cell.vm ≠ .statics k) (hk : ∃ k, vm'.classes[cell.cls]? = some k) (hcl : ∃ k, vm'.classes[c]? = some k) (hno : vm'.assignable cell.cls c = false) (hgo : GoW e (s.setVm vm') f a tb h vm2) : GoW e s f a (x :: tb) h vm2 := by
  intro Q E d acts
  rw [go_cold hx h0 hg hr hsz, W.findHandler_go_class (s := s.setVm vm') (c := c) (cell := cell) hx h0 hr hcell hobj hk hcl, if_neg (show ¬ (s.setVm vm').vm.assignable cell.cls c = true by rw [show (s.setVm vm').vm.assignable cell.cls c = false from hno]; decide)]
  exact hgo Q E d acts
theorem st_catch {s : State} {r : List Frame} {pc : Nat} {vm' : Vm} {meth : Method} {code : Code} (hm : s.vm.method? f.method = some meth) (hc : meth.code = some code) (hfind : GoW e s f a code.exceptionTable.toList (.found pc) vm') :
    (stepThrowing e s a (.java f :: r)).Is ((s.setVm vm').setFrames (.java { f with pc := pc, stack := [.ref a] } :: r)) [] := by
  simp only [stepThrowing, searchFrame, vmDo]
  generalize hr : Sem.go _ e false [] s = res
  obtain ⟨as, rfl, ha⟩ := Sem.eq_ok_of hr (a := Handler.found pc) (s' := s.setVm vm') (acts' := []) (by simp [W.findHandler_eq hm hc, hfind _ _ _ _])
  exact ⟨rfl, ha⟩
theorem st_caught {tb : Tables} {s target : State} {g : JFrame} {c : Code} {below : List Frame} {meth : Method} {vm' : Vm} (h : At s g.method c below) (hm : s.vm.method? g.method = some meth) (hc : meth.code = some c) {pc : Nat} (hfind : GoW e ((s.setTop g).pushFrame (.throwing a)) g a c.exceptionTable.toList (.found pc) vm')
    (hrest : Steps tb e below ((s.setVm vm').setTop { g with pc := pc, stack := [.ref a] }) target) : Steps tb e below ((s.setTop g).pushFrame (.throwing a)) target := by
  obtain ⟨hgo, hw⟩ := h.throwing a
  refine Steps.head hgo hw ?_
  rw [stepThread_throwing (frames_entered h.top _), (st_catch (s := (s.setTop g).pushFrame (.throwing a)) (by rw [Stand.throwing_vm]; exact hm) hc hfind).1]
  obtain ⟨g₀, hg⟩ := Option.isSome_iff_exists.mp h.top
  obtain ⟨r, hr⟩ := State.topJava?_eq_some.mp hg
  have hr' : (s.setVm vm').frames = .java g₀ :: r := hr
  rw [State.setTop_of_frames _ hr'] at hrest
  rw [State.pushFrame, State.setTop_of_frames _ hr, State.setFrames_setFrames]
  have e1 : ∀ (U : State) (fs gs : List Frame), ((U.setFrames fs).setVm vm').setFrames gs = (U.setVm vm').setFrames gs := fun U fs gs => by
    show ((U.setVm vm').setFrames fs).setFrames gs = _
    rw [State.setFrames_setFrames]
  rw [e1, hr]
  exact hrest
end CAU
section CAV
variable {p : Program} {l : Launch} {e : Env} {R : Room} {s : State} {m : MethodId} {args : Array Value} {below : List Frame} {meth : Method} {c : Code} {H : Heap} {locs : List Loc} {cells slots : Nat} {Q : State → Prop} {cc : ByteArray} {pc : Nat} {ls : Array Slot} {rest : List Value}
theorem cl_here {own C : String} {index : Nat} {T : State} (X : Stand p l e R s m args below meth c T locs cells slots) (hown : s.vm.findClass own = some m.cls) (hlk : (Cond.classLink own index C).before args s = true) :
    ∃ cT, s.vm.findClass C = some cT ∧ s.WarmedH (T.vm.noted m.cls index (.cls cT)) ∧ (Jvm.resolveClass m.cls index).Gives e.toSetting T.vm (.ok cT) (T.vm.noted m.cls index (.cls cT)) ∧ (T.vm.noted m.cls index (.cls cT)).classReady m.cls index cT ∧ (T.vm.noted m.cls index (.cls cT)).classes.size ≤ T.vm.classes.size ∧ ∃ k, (T.vm.noted m.cls index (.cls cT)).classes[cT]? = some k := by
  have hpl : e.platform.magicAccessors = ({} : Platform).magicAccessors := by rw [X.admits.platform]
  obtain ⟨cT, hcT, hcl⟩ := Cond.classLink_spec hown hlk e.platform hpl
  obtain ⟨dk, _, _, kt, hd, _, _, _, _, hkt, _, hopen⟩ := hcl.here
  have hcl₀ := X.warmed.classLinks hcl
  have hW' : s.WarmedH (T.vm.noted m.cls index (.cls cT)) := X.warmed.noted hd hopen (State.rightAt_cls hcl)
  obtain ⟨kt', hkt', -⟩ := hW'.alike.2.2 _ _ hkt
  exact ⟨cT, hcT, hW', resolveClass_links e.toSetting hcl₀, hcl₀.ready, by rw [hW'.2.1, X.warmed.2.1]; exact Nat.le_refl _, kt', hkt'⟩
/-- caught by the first handler -/
theorem TW.catch1 {own E : String} {x : ExceptionTableEntry} {tb : List ExceptionTableEntry} {q : Addr} {ce : Cell} {stk : List Value} (hown : s.vm.findClass own = some m.cls) (htab : c.exceptionTable.toList = x :: tb) (hx : covers x pc = true) (h0 : x.catchType ≠ 0) (hlk : (Cond.classLink own x.catchType E).before args s = true)
    (hce : H[q]? = some ce) (hv : ce.vm = .none) (hcl : s.vm.findClass E = some ce.cls) (kk : W p l e R s m args below meth c H locs cells slots Q (F0 m x.handlerPc ls [.ref q])) : TW p l e R s m args below meth c H locs cells slots Q (F0 m pc ls stk) q := by
  intro T hT X
  obtain ⟨cT, hcT, hW', hg, hr, hsz, hk⟩ := cl_here X hown hlk
  cases hcl.symm.trans hcT
  obtain ⟨t, a1, b1⟩ := kk (T.setVm (T.vm.noted m.cls x.catchType (.cls ce.cls))) hT (X.noted hW')
  refine ⟨t, st_caught (g := F0 m pc ls stk) X.here X.method' X.code ?_ a1, b1⟩
  rw [htab]
  exact GoW.found (f := F0 m pc ls stk) hx h0 (by rw [Stand.throwing_vm]; exact hg) hr (by rw [Stand.throwing_vm]; exact hsz) (by rw [Stand.throwing_heap, hT]; exact hce) (fun k => by rw [hv]; intro h; cases h) hk hk (va_asg _ _)
/-- passed by the first handler, caught by the second -/
theorem TW.catch2 {own C E : String} {x1 x : ExceptionTableEntry} {tb : List ExceptionTableEntry} {q : Addr} {ce : Cell} {stk : List Value} (hown : s.vm.findClass own = some m.cls) (htab : c.exceptionTable.toList = x1 :: x :: tb) (hx1 : covers x1 pc = true) (h01 : x1.catchType ≠ 0) (hlk1 : (Cond.classLink own x1.catchType C).before args s = true) (hx : covers x pc = true) (h0 : x.catchType ≠ 0) (hlk : (Cond.classLink own x.catchType E).before args s = true)
    (hN : XN s) (hn : (E, C) ∈ xnL) (hce : H[q]? = some ce) (hv : ce.vm = .none) (hcl : s.vm.findClass E = some ce.cls) (kk : W p l e R s m args below meth c H locs cells slots Q (F0 m x.handlerPc ls [.ref q])) : TW p l e R s m args below meth c H locs cells slots Q (F0 m pc ls stk) q := by
  intro T hT X
  obtain ⟨cC, hcC, hW1, hg1, hr1, hsz1, hk1⟩ := cl_here X hown hlk1
  have X1 := X.noted hW1
  obtain ⟨cT, hcT, hW', hg, hr, hsz, hk⟩ := cl_here X1 hown hlk
  cases hcl.symm.trans hcT
  have hno : s.vm.assignable ce.cls cC = false := hN _ hn _ _ hcl hcC
  obtain ⟨kE, hkE⟩ := Vm.classAt_of_findClass hcl
  obtain ⟨kE', hkE', -⟩ := hW1.alike.2.2 _ _ hkE
  obtain ⟨t, a1, b1⟩ := kk (T.setVm ((T.vm.noted m.cls x1.catchType (.cls cC)).noted m.cls x.catchType (.cls ce.cls))) hT (X1.noted hW')
  refine ⟨t, st_caught (g := F0 m pc ls stk) X.here X.method' X.code ?_ a1, b1⟩
  rw [htab]
  have hno' : (T.vm.noted m.cls x1.catchType (.cls cC)).assignable ce.cls cC = false := by rw [hW1.alike.assignable]; exact hno
  refine GoW.pass (f := F0 m pc ls stk) hx1 h01 (by rw [Stand.throwing_vm]; exact hg1) hr1 (by rw [Stand.throwing_vm]; exact hsz1) (by rw [Stand.throwing_heap, hT]; exact hce) (fun k => by rw [hv]; intro h; cases h) ⟨kE', hkE'⟩ hk1 hno' ?_
  exact GoW.found (f := F0 m pc ls stk) (s := (((T.setTop (F0 m pc ls stk)).pushFrame (.throwing q)).setVm (T.vm.noted m.cls x1.catchType (.cls cC)))) hx h0 hg hr hsz (by show ((T.setTop (F0 m pc ls stk)).pushFrame (.throwing q)).heap[q]? = _; rw [Stand.throwing_heap, hT]; exact hce) (fun k => by rw [hv]; intro h; cases h) hk hk (va_asg _ _)
end CAV
/-- a method with handlers -/
theorem MetH {l : Launch} {y : MethodName} {ws ws' : List Cond} {rm : Room} {Pc : Array Value → State → Prop} {Qc : Array Value → State → Outcome → State → Prop} {mc ms : Nat} {free : Addr → Prop} {cc : ByteArray} {maxL : Nat} {ret : Option FieldType} {hh : List (Nat × Nat × Nat × Nat)}
    (hy : plainName y.cls = true) (hw : ws = Cond.codeWith y cc maxL ret hh :: ws')
    (body : ∀ p e s m args below meth c s₁, BodyLoose p l y (headSpec ws rm) cc maxL ret e s m args below meth c s₁ → c.maxLocals = maxL → c.exceptionTable.toList = hh.map (fun h => ⟨h.1, h.2.1, h.2.2.1, h.2.2.2⟩) → Pc args s →
      W p l e (headSpec ws rm).room s m args below meth c s.heap [] 0 0 (MQ below Qc args s mc ms free) (entryFrame m args maxL)) : Met l y ws rm Pc Qc mc ms free := by
  refine va_MetW hy hw (fun p e s m args below meth c s₁ B hml hP => ?_)
  refine body p e s m args below meth c s₁ B hml ?_ hP
  obtain ⟨m9, meth9, c9, hn9, h1, h2, h3, h4, h5, -, -, -⟩ := Cond.codeWith_spec (atoms_spec (ws := ws) B.pre _ (by rw [hw]; exact List.mem_cons_self))
  have X := Stand.of_body B
  cases B.named.symm.trans hn9
  cases X.method.symm.trans h1
  cases X.code.symm.trans h2
  rw [← h5, List.map_map]
  symm
  exact List.map_id' _
section RS
variable {p : Program} {l : Launch} {e : Env} {R : Room} {s : State} {m : MethodId} {args : Array Value} {below : List Frame} {meth : Method} {c : Code} {H : Heap} {locs : List Loc} {cells slots : Nat} {Q : State → Prop} {cc : ByteArray} {pc : Nat} {ls : Array Slot} {rest : List Value}
/-- a static call of a method with handlers -/
theorem th_runS {y : MethodName} {bytes : ByteArray} {maxL nL mc ms n index : Nat} {ret : Option FieldType} {ws ws' : List Cond} {rm : Room} {Pc : Array Value → State → Prop} {Qc : Array Value → State → Outcome → State → Prop} {free : Addr → Prop} {Ts : List Cond} {own : String} {As : List Value} {g : JFrame} {hh : List (Nat × Nat × Nat × Nat)}
    (S : CallFix p m c cc nL s args Ts own) (hM : Met l y ws rm Pc Qc mc ms free) (hT9 : GoodIn Ts (va_wsS own index y ws)) (hw : ws = Cond.codeWith y bytes maxL ret hh :: ws') (hrc : rm.cells = mc) (hrs : rm.slots = ms) (hd : y.cls ≠ "java/lang/invoke/MethodHandle" ∧ y.cls ≠ "java/lang/invoke/VarHandle" ∧ (parseMethodDescriptor y.desc).map (fun d => d.parameters.length) = some n) (hR : rm.frames + 1 ≤ R.frames ∧ 8 + (maxL + 11) + rm.locals ≤ R.locals) (hp : PreS s H Pc As)
    (hg : g.method = m) (hn : As.length = n) (hsize : g.locals.size = nL) (hstack : g.stack = As.reverse ++ rest) (hW : 2 * g.monitorRoom + (rest.map fun v => v.category).sum ≤ 8) (hdg : decode cc g.pc = .ok (.invokestatic index, 3)) (hf : cells + mc ≤ R.cells ∧ slots + ms ≤ R.slots) :
    va_Run p l e R s m args below meth c H locs cells slots mc ms g rest (Qc As.toArray) (free) := by
  obtain ⟨hx, hb, hml, ho, ht⟩ := S
  have ok : ∀ w ∈ va_wsS own index y ws, w.before args s = true := fun w h => ht w (hT9 w h).1
  have hG : GoodIn Ts ws := fun w h => hT9 w (by unfold va_wsS; exact List.mem_append_right _ h)
  have hcw : Cond.codeWith y bytes maxL ret hh ∈ ws := by rw [hw]; exact List.mem_cons_self
  have hcode := ht _ (hG _ hcw).1
  have hini : (Cond.initialized y.cls).before args s = true := ok _ (by simp [va_wsS])
  have hK : Back l R p e below s args y 3 8 (PreOf R mc ms Pc) (PostOf Qc mc ms free) := va_backW (bytes := bytes) (maxL := maxL) (ret := ret) (hh := hh) hM hp.1 hrc hrs hR.1 hR.2 (pay_in ht hG) hcw (fun a' U hW => word_at hW (Or.inl (by first | rfl | simp [Cond.onTables, Cond.keeps, Cond.steady])) hini)
  obtain ⟨mk, methM, cM, hnamed, hmethM, -, -, -, -, -, -, hsigM⟩ := Cond.codeWith_spec hcode
  have hstatic : methM.isStatic = true := Cond.static_spec hnamed hmethM (ok (.static y) (by simp [va_wsS]))
  obtain ⟨kP, hkP, -⟩ := className_of_methodNamed hnamed
  have hinitP : kP.init = .initialized := Cond.initialized_spec (findClass_of_methodNamed hnamed) hkP hini
  have hlen : As.length = methM.sig.parameters.length := by
    have h2 := hd.2.2
    rw [hsigM] at h2
    rw [hn]
    exact (Option.some.inj h2).symm
  intro T hT X
  obtain ⟨vm₁, X₁, hstep₁⟩ := X.invokestatic hx ho (ok (.methodLink own index y) (by simp [va_wsS])) hnamed hmethM hstatic hkP hinitP ⟨hd.1, hd.2.1⟩ (g := g) hg (argsL := As) (rest := rest) hlen hstack (by rw [hb]; exact hdg)
  obtain ⟨v, ⟨U', l2, c2, s2⟩, X', ⟨g', mk', t, L, e1, e2, hq, h1, hL, h2, h3⟩, hsteps⟩ := hK m meth c ⟨T.setVm vm₁, locs, cells, slots⟩ { g with stack := rest } (.invokestatic index) mk As.toArray X₁ hg (hsize.trans hml.symm) (by rw [hb]; exact hdg) hW (X₁.named hnamed) ⟨hf.1, hf.2, hp.2 (T.setVm vm₁) hT X₁.warmed⟩
  dsimp only [Pt.U, Pt.locs, Pt.cells, Pt.slots] at X' e1 e2 h1 h2 h3 hsteps
  subst h1; subst h2; subst h3
  exact ⟨v, (T.setVm vm₁).calling g' mk' As.toArray, t, U', L, hT, X', hL, e1, e2, hq, fun target h => hstep₁ _ fun acts => by rw [doInvoke_state]; exact hsteps.trans h⟩
/-- from here on as if the method had been invoked in the heap as it stands: for a throw behind writes -/
theorem th_rebase {E : String} {B B' : State → State → Prop} {free free' : Addr → Prop} {mc ms : Nat} {g : JFrame} (hcells : cells ≤ R.cells) (hslots : slots ≤ R.slots) (hfree : ∀ z ∈ locs, free z.base) (hff : ∀ q, free' q → free q) (hB : ∀ s' t : State, s'.heap = H → s'.vm = s.vm → B' s' t → B s t)
    (k : ∀ s' : State, s'.heap = H → s'.vm = s.vm → W p l e { R with cells := R.cells - cells, slots := R.slots - slots } s' m args below meth c H [] 0 0 (th_MQ below E B' s' mc ms free') g) :
    W p l e R s m args below meth c H locs cells slots (th_MQ below E B s (cells + mc) (slots + ms) free) g := by
  intro T hT X
  have hfs := X.frames
  obtain ⟨t0, ht0, -⟩ := State.frames_cons hfs
  have hsame0 : s.sameButNew ({ s with heap := T.heap, slotsUsed := T.slotsUsed } : State) locs cells slots := by
    obtain ⟨-, q2, q3, q4, q5, q6⟩ := X.same
    refine ⟨?_, q2, q3, q4, q5, q6⟩
    show ({ s with heap := T.heap, slotsUsed := T.slotsUsed } : State) = { s.setFrames s.frames with heap := T.heap, slotsUsed := T.slotsUsed }
    rw [State.setFrames_self ht0]
  have X' : Stand p l e { R with cells := R.cells - cells, slots := R.slots - slots } ({ s with heap := T.heap, slotsUsed := T.slotsUsed } : State) m args below meth c T [] 0 0 := by
    refine ⟨X.admits, X.cas, X.clock, X.frames, ?_, X.hears, X.method, X.code, X.here, X.tail, State.WarmedH.of_rootvm rfl X.warmed, X.limits, X.bytes, ?_⟩
    · have h := X.room
      simp only [State.hasRoom, Bool.and_eq_true, decide_eq_true_eq] at h ⊢
      obtain ⟨⟨⟨⟨r1, r2⟩, r3⟩, r4⟩, r5⟩ := h
      have hz := X.heapSize
      have hu := X.used
      refine ⟨⟨⟨⟨r1, r2⟩, ?_⟩, ?_⟩, X.book⟩
      · show T.heap.size + (R.cells - cells) ≤ _
        omega
      · show T.slotsUsed + (R.slots - slots) ≤ _
        omega
    · have e1 := X.same.1
      refine ⟨?_, Nat.le_refl _, Nat.le_refl _, ?_, ?_, fun a c0 h0 => ⟨c0, h0, rfl, rfl, fun _ _ => rfl⟩⟩
      · exact e1
      · show T.slotsUsed = T.slotsUsed + ((T.heap.toList.drop T.heap.size).map (·.slots.size)).sum
        rw [List.drop_of_length_le (by simp)]
        rfl
      · show ((T.heap.toList.drop T.heap.size).map (·.slots.size)).sum ≤ 0
        rw [List.drop_of_length_le (by simp)]
        exact Nat.le_refl _
  obtain ⟨t, a1, o, b1, b2, q, ce, L, hq, hBB, hce, hcv, hcf, hW, hs, hL⟩ := k ({ s with heap := T.heap, slotsUsed := T.slotsUsed } : State) hT rfl T hT X'
  refine ⟨t, a1, o, b1, b2, q, ce, locs ++ L, hq, hB ({ s with heap := T.heap, slotsUsed := T.slotsUsed } : State) t hT rfl hBB, hce, hcv, hcf, State.WarmedH.of_rootvm rfl hW, hsame0.trans hs, fun z hz => ?_⟩
  rcases List.mem_append.mp hz with h | h
  · exact hfree z h
  · exact hff _ (hL z h)
end RS
