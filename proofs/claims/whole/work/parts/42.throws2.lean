/-- nothing that was there has changed -/
def B0 (st t : State) : Prop := st.heap.size ≤ t.heap.size ∧ ∀ q : Nat, q < st.heap.size → t.heap[q]? = st.heap[q]?
def xsL : List (Nat × String) := [(62, "no such coil"), (91, "no more wanted widths"), (94, "no such wanted width"), (107, "no such number of strips"), (119, "no more set-ups"), (126, "no pattern"), (199, "no such set-up"), (143, "no such strip or what"), (179, "below 0"), (183, "no more defects"), (185, "no such defect"), (197, "no left without a defect in a strip")]
def XS (U : State) : Prop := ∀ x ∈ xsL, ∃ q, vk_R "SlitWidths" x.1 x.2 q U
theorem XS.warm {s U : State} (hW : s.WarmedH U.vm) (h : XS s) : XS U := fun x hx => by
  obtain ⟨q, hq⟩ := h x hx
  exact ⟨q, vk_R.warm hW hq⟩
theorem XS.same {u U : State} (hv : U.vm = u.vm) (h : XS u) : XS U := fun x hx => by
  obtain ⟨q, hq⟩ := h x hx
  exact ⟨q, vk_R.same hv hq⟩
def xnL : List (String × String) := [("java/lang/IllegalArgumentException", "java/lang/IllegalStateException"), ("java/lang/IllegalArgumentException", "java/lang/IndexOutOfBoundsException"), ("java/lang/UnsupportedOperationException", "java/lang/IllegalStateException"), ("java/lang/UnsupportedOperationException", "java/lang/IndexOutOfBoundsException")]
def XN (U : State) : Prop := ∀ q ∈ xnL, ∀ c t, U.vm.findClass q.1 = some c → U.vm.findClass q.2 = some t → U.vm.assignable c t = false
theorem XN.moved {u U : State} (hvm : u.vm.Alike U.vm) (h : XN u) : XN U := fun q hq c t h1 h2 => by
  rw [hvm.findClass] at h1 h2
  rw [hvm.assignable]
  exact h q hq c t h1 h2
/-- what throwing and catching want of a state -/
def EY (a1 a2 : Nat) (U : State) (H : Heap) : Prop := EX a1 a2 U H ∧ XS U ∧ XN U
theorem EY.warm {a1 a2 : Nat} {s U : State} {H : Heap} (hW : s.WarmedH U.vm) (h : EY a1 a2 s H) : EY a1 a2 U H := ⟨h.1.moved hW.alike, h.2.1.warm hW, h.2.2.moved hW.alike⟩
theorem EY.same {a1 a2 : Nat} {u U : State} {H : Heap} (hv : U.vm = u.vm) (h : EY a1 a2 u H) : EY a1 a2 U H := ⟨h.1.moved (by rw [hv]; exact Vm.Alike.refl _), h.2.1.same hv, h.2.2.moved (by rw [hv]; exact Vm.Alike.refl _)⟩
theorem EY.kept {a1 a2 : Nat} {U : State} {H H1 : Heap} (h : EY a1 a2 U H) (e1 : H1[a1]? = H[a1]?) (e2 : H1[a2]? = H[a2]?) : EY a1 a2 U H1 := ⟨h.1.kept e1 e2, h.2⟩
def ey (a1 a2 : Nat) (P : Array Value → State → Prop) : Array Value → State → Prop := fun a U => P a U ∧ EY a1 a2 U U.heap
theorem ey_blind {a1 a2 : Nat} {P : Array Value → State → Prop} (h : FrameBlind P) : FrameBlind (ey a1 a2 P) := fun a U g mk q => ⟨h a U g mk q.1, EY.same (u := U) rfl q.2⟩
section T2
variable {p : Program} {l : Launch} {e : Env} {R : Room} {s : State} {m : MethodId} {args : Array Value} {below : List Frame} {meth : Method} {c : Code} {H : Heap} {locs : List Loc} {cells slots : Nat} {Q : State → Prop} {cc : ByteArray} {pc : Nat} {ls : Array Slot} {rest : List Value}
theorem ro_nil {H0 : Heap} (hS : va_S ro_no H0 H locs) : locs = [] := by
  cases locs with
  | nil => rfl
  | cons x t => exact (hS.2.2 x List.mem_cons_self).elim
/-- 'throw new E(text)', nothing written before -/
theorem th_new {E : String} {free : Addr → Prop} {own tx : String} {iC iS ic xq a1 a2 : Nat} (hexec : p.tables.exec = Jvm.exec) (hb : c.code = cc) (hl : l.stackTraces = false)
    (hown : s.vm.findClass own = some m.cls) (hts : ∀ w ∈ gw, w.before args s = true) (hE : EX a1 a2 s s.heap) (hZ : vk_R own iS tx xq s) (hlk : (Cond.classLink own iC E).before args s = true) (hin : (Cond.instantiable E 6).before args s = true) (hini : (Cond.initialized E).before args s = true)
    (hat : (Bundle.ownAtoms own ic E ["java/lang/RuntimeException", "java/lang/Exception"]).all okAtom = true) (hfit : Bundle.fit E = true) (hS : va_S ro_no s.heap H locs) (hsize : ls.size = c.maxLocals) (hemp : c.exceptionTable.toList = []) (hlocks : meth.locks = false)
    (hRf : 5 < R.frames) (hRl : 82 ≤ R.locals) (hRc : 1 ≤ R.cells) (hRs : 6 ≤ R.slots)
    (d0 : decode cc pc = .ok (.new iC, 3)) (d1 : decode cc (pc + 3) = .ok (.dup, 1)) (d2 : decode cc (pc + 4) = .ok (.ldc iS, 2)) (d3 : decode cc (pc + 6) = .ok (.invokespecial ic, 3)) (d4 : decode cc (pc + 9) = .ok (.athrow, 1)) :
    W p l e R s m args below meth c H locs 0 0 (th_MQ below E B0 s 1 6 free) (F0 m pc ls []) := by
  obtain rfl := ro_nil hS
  refine W.newc hexec hb hown hlk hin hini (g := F0 m pc ls []) rfl d0 (by omega) (by omega) (fun cC kC h1 h2 h3 h4 => ?_)
  refine W.eq (g2 := F0 m (pc + 3) ls [.ref H.size]) rfl ?_
  refine lv_dup hexec hb d1 rfl ?_
  refine va_ldcS hexec hb hown hZ d2 ?_
  refine W.widen (k := 1) (n := 6) (by omega) (by omega) ?_
  exact th_ctor (E := E) (names := ["java/lang/RuntimeException", "java/lang/Exception"]) (ic := ic) (a1 := a1) (a2 := a2) (rest := []) (pc := pc + 6) hexec hb hl hown hts hE hat hfit (by decide) h1 h2 (by rw [Array.getElem?_push_size]) hS.1 hsize d3 d4 hemp hlocks (by simpa using hRf) (by simp [Value.category]; exact hRl) (fun t _ h2 h3 => ⟨h3, h2⟩)
/-- a callee that throws: the exception lies over the caller's frame -/
theorem th_back {y : MethodName} {ws : List Cond} {rm : Room} {Pc : Array Value → State → Prop} {E : String} {B : State → State → Prop} {mc ms : Nat} {free : Addr → Prop} {bytes : ByteArray} {maxL W9 : Nat} {ret : Option FieldType} {U : State}
    (X : Stand p l e R s m args below meth c U locs cells slots) (hM : TMet l y ws rm Pc E B mc ms free) (hblind : FrameBlind Pc) (hrc : rm.cells = mc) (hrs : rm.slots = ms) (hframes : rm.frames + 1 ≤ R.frames) (hlocals : W9 + (maxL + 11) + rm.locals ≤ R.locals)
    (hws : ∀ w ∈ ws, ∀ (a' : Array Value) (V : State), s.WarmedH V.vm → w.before a' V = true) (hcode : Cond.code y bytes maxL ret ∈ ws) (hinit : (Cond.initialized y.cls).before args U = true)
    {g : JFrame} (hg : g.method = m) (hsize : g.locals.size = c.maxLocals) {ig : Instr} {len : Nat} (hdg : decode c.code g.pc = .ok (ig, len)) (hW : 2 * g.monitorRoom + (g.stack.map fun v => v.category).sum ≤ W9) {mk : MethodId} (hn : U.methodNamed? y = some mk) {a : Array Value}
    (hcells : cells + mc ≤ R.cells) (hslots : slots + ms ≤ R.slots) (hP : Pc a U) :
    ∃ (q : Addr) (ce : Cell) (t T' : State) (L : List Loc), Stand p l e R s m args below meth c T' (locs ++ L) (cells + mc) (slots + ms) ∧ T'.heap = t.heap ∧ T'.vm = t.vm ∧ B (U.calling g mk a) t ∧ T'.heap[q]? = some ce ∧ ce.vm = .none ∧ U.vm.findClass E = some ce.cls ∧ (∀ z ∈ L, free z.base) ∧
      ∀ acts, Steps p.tables e below (doInvoke e (U.setTop g) acts mk a).1 ((T'.setTop g).pushFrame (.throwing q)) := by
  have hcodeU : (Cond.code y bytes maxL ret).before a U = true := hws _ hcode _ _ X.warmed
  obtain ⟨methY, cY, hmY, hcY, -, hlY, -, -, -, -⟩ := Cond.code_spec hn hcodeU
  obtain ⟨kY, hkY, -⟩ := className_of_methodNamed hn
  have hinitY : kY.init = .initialized := Cond.initialized_spec (findClass_of_methodNamed hn) hkY hinit
  have h : At U g.method c below := by rw [hg]; exact X.here
  have happ : (headSpec ws rm).appliesLoose y e.platform (U.calling g mk a) = true :=
    Spec.appliesLoose_calling (g := g) h hdg hn hkY hinitY
      (X.room_calling (g := g) (R' := (headSpec ws rm).room) hsize hmY hcY hframes (by rw [hlY]; show _ + _ + _ + rm.locals ≤ _; omega) (by show _ + rm.cells ≤ _; omega) (by show _ + rm.slots ≤ _; omega)) (atoms_intro fun w hw => hws w hw _ _ X.warmed)
  obtain ⟨mid, hmid⟩ := h.above
  have hfr : (U.setTop g).frames = (.java g :: mid) ++ below := by rw [State.frames_setTop' g h.top, hmid]; rfl
  have hM' : MetFree l y (headSpec ws rm) Pc (fun _ _ _ _ _ => True) (fun _ st o t => th_Q E B mc ms free st o t) := hM
  obtain ⟨o, s₂, hsteps, -, hend, hq⟩ := Steps.callFree hM' p X.admits X.cas X.clock (acts := []) hfr happ (hblind _ _ _ _ hP) trivial
  have hq' : th_Q E B mc ms free (U.calling g mk a) o s₂ := hq
  rw [State.frames_setTop' g h.top] at hend
  obtain ⟨q, ce, L, rfl, hBB, hce, hcv, hcf, hW₂, ⟨e2, q2, q3, q4, q5, q6⟩, hL⟩ := hq'
  have e3 : s₂ = ({ (U.calling g mk a).setFrames s₂.frames with heap := s₂.heap, slotsUsed := s₂.slotsUsed } : State).setVm s₂.vm := by
    have : s₂ = ({ s₂ with vm := (U.calling g mk a).vm } : State).setVm s₂.vm := rfl
    rw [e2] at this
    exact this
  have hf₂ : s₂.frames = .throwing q :: .java g :: U.frames.tail := hend
  have hW' : U.WarmedH s₂.vm := hW₂
  obtain ⟨g₀, hg0⟩ := Option.isSome_iff_exists.mp h.top
  obtain ⟨r, hr⟩ := State.topJava?_eq_some.mp hg0
  have hs₂ : s₂ = ((({ U with heap := s₂.heap, slotsUsed := s₂.slotsUsed } : State).setVm s₂.vm).setTop g).pushFrame (.throwing q) := by
    have hr' : (({ U with heap := s₂.heap, slotsUsed := s₂.slotsUsed } : State).setVm s₂.vm).frames = .java g₀ :: r := hr
    refine e3.trans ?_
    rw [hf₂, State.calling_eq h.top, State.setFrames_setFrames, State.pushFrame, State.frames_setTop _ hr', State.setTop_of_frames _ hr', State.setFrames_setFrames, hr]
    rfl
  have hsame : U.sameButNew ({ U with heap := s₂.heap, slotsUsed := s₂.slotsUsed } : State) L mc ms := by
    refine ⟨?_, q2, q3, q4, q5, q6⟩
    obtain ⟨t, ht, -⟩ := State.frames_cons hr
    show ({ U with heap := s₂.heap, slotsUsed := s₂.slotsUsed } : State) = { U.setFrames U.frames with heap := s₂.heap, slotsUsed := s₂.slotsUsed }
    rw [State.setFrames_self ht]
  refine ⟨q, ce, s₂, (({ U with heap := s₂.heap, slotsUsed := s₂.slotsUsed } : State).setVm s₂.vm), L,
    ⟨X.admits, X.cas, X.clock, X.frames, X.room, X.hears, X.method, X.code, (X.here.setHeapUsed s₂.heap s₂.slotsUsed).setVm hW'.alike, X.tail, State.WarmedH.trans X.warmed hW', X.limits, X.bytes, X.same.trans (hsame.setVm s.vm)⟩,
    rfl, rfl, hBB, hce, hcv, hcf, hL, fun acts => ?_⟩
  rw [← hs₂, doInvoke_state]
  exact hsteps
/-- an invokevirtual whose callee throws -/
theorem th_runV {y : MethodName} {bytes : ByteArray} {maxL nL mc ms n index : Nat} {ret : Option FieldType} {ws : List Cond} {rm : Room} {Pc : Array Value → State → Prop} {E : String} {B : State → State → Prop} {free : Addr → Prop} {Ts : List Cond} {own C : String} {b : Addr} {As st0 : List Value}
    (S : CallFix p m c cc nL s args Ts own) (hM : TMet l y ws rm Pc E B mc ms free) (cw : CallW R s args own C index y bytes maxL ret ws rm mc ms n) (hp : PreV s H C b Pc As)
    (hn : As.length = n) (hsize : ls.size = nL) (hstack : st0 = As.reverse ++ .ref b :: rest) (hW : (rest.map fun v => v.category).sum ≤ 8) (hdg : decode cc pc = .ok (.invokevirtual index, 3)) (hf : cells + mc ≤ R.cells ∧ slots + ms ≤ R.slots)
    (kk : ∀ (q : Addr) (ce : Cell) (st t : State) (H1 : Heap) (L : List Loc), st.heap = H → t.heap = H1 → s.WarmedH t.vm → B st t → H1[q]? = some ce → ce.vm = .none → s.vm.findClass E = some ce.cls → (∀ z ∈ L, free z.base) → TW p l e R s m args below meth c H1 (locs ++ L) (cells + mc) (slots + ms) Q (F0 m pc ls rest) q) :
    W p l e R s m args below meth c H locs cells slots Q (F0 m pc ls st0) := by
  obtain ⟨⟨hrc, hrs, hfr, hlo, hws, hcw, hcode, hini, hy, hlen, hlk⟩, hinst, hsel⟩ := cw
  obtain ⟨hx, hb, hml, ho, -⟩ := S
  obtain ⟨hblind, ⟨cellB, hcB, hoB, hclB⟩, hPc⟩ := hp
  intro T hT X
  obtain ⟨mk, methM, hnamed, hmethM, hstM, habM⟩ := Cond.instanceMethod_spec hinst
  obtain ⟨methM', cM, hmethM', -, -, -, -, -, -, hsigM⟩ := Cond.code_spec hnamed hcode
  cases hmethM.symm.trans hmethM'
  obtain ⟨c2, r2, m2, q1, q2, q3, q4, kP, hkP, hkPi⟩ := Cond.selects_spec hsel
  cases hclB.symm.trans q1
  cases (State.methodFound?_of_named hnamed hy).symm.trans q2
  cases hnamed.symm.trans q3
  have hselP : selectMethod e.platform s.vm cellB.cls mk = .method mk := by rw [Launch.admits_selectMethod X.admits]; exact q4
  obtain ⟨vm₁, X₁, hstep₁⟩ := X.invokevirtual hx ho hlk hnamed hmethM hstM hkP hkPi hy (a := b) (cell := cellB) (by rw [hT]; exact hcB)
    (fun z h => by rw [h] at hoB; cases hoB) hselP hmethM habM hkP hkPi (g := F0 m pc ls st0) rfl (argsL := As) (rest := rest) (hn.trans (hlen _ hsigM)) hstack (by rw [hb]; exact hdg)
  obtain ⟨q, ce, t, T', L, X', e1, e2, hB, hce, hcv, hcf, hL, hsteps⟩ := th_back (g := F0 m pc ls rest) (a := (Value.ref b :: As).toArray) X₁ hM hblind hrc hrs hfr (W9 := 8) hlo hws hcw (word_at X₁.warmed (Or.inl (by first | rfl | simp [Cond.onTables, Cond.keeps, Cond.steady])) hini) rfl (hsize.trans hml.symm) (by rw [hb]; exact hdg) (by simpa using hW) (X₁.named hnamed) hf.1 hf.2 (hPc (T.setVm vm₁) hT X₁.warmed)
  obtain ⟨t2, a1, b1⟩ := kk q ce ((T.setVm vm₁).calling (F0 m pc ls rest) mk (Value.ref b :: As).toArray) t T'.heap L hT e1.symm (by rw [← e2]; exact X'.warmed) hB hce hcv (by rw [← X₁.warmed.alike.findClass]; exact hcf) hL T' rfl X'
  exact ⟨t2, hstep₁ _ (fun acts => (hsteps acts).trans a1), b1⟩
end T2
section CAT
variable {e : Env} {f : JFrame} {a : Addr}
/-- what the search gives, and the tables that it leaves -/
def GoW (e : Env) (s : State) (f : JFrame) (a : Addr) (tb : List ExceptionTableEntry) (h : Handler) (vm' : Vm) : Prop :=
  ∀ (Q : Handler → Pre) (E : CtlPost) (d : Bool) (acts : List Action), wp (findHandler.go f a tb) Q E e d acts s ↔ Q h d acts (s.setVm vm')
theorem go_cold {s : State} {x : ExceptionTableEntry} {tb : List ExceptionTableEntry} {c : ClassId} {vm' : Vm} (hx : covers x f.pc = true) (h0 : x.catchType ≠ 0) (hg : (Jvm.resolveClass f.method.cls x.catchType).Gives e.toSetting s.vm (.ok c) vm') (hr : vm'.classReady f.method.cls x.catchType c)
    (hsz : vm'.classes.size ≤ s.vm.classes.size) {Q : Handler → Pre} {E : CtlPost} {d : Bool} {acts : List Action} : wp (findHandler.go f a (x :: tb)) Q E e d acts s ↔ wp (findHandler.go f a (x :: tb)) Q E e d acts (s.setVm vm') := by
  obtain ⟨ha, ht⟩ := hg.op (op := VmOp.resolveClass f.method.cls x.catchType) rfl
  simp only [covers] at hx
  obtain ⟨k, hkd, hres⟩ := hr
  simp [findHandler.go, hx, h0, ha, ht, hsz, resolveClass_memo e hkd hres, VmOp.dirties, VmOp.acts]
  exact Iff.rfl
end CAT
