/-! methods that throw -/
/-- a static field of a class that holds a reference or null, its statics at aS -/
def sta (C n d : String) (aS : Nat) (U : State) (H : Heap) : Prop := ∃ (c : ClassId) (k : Class) (i : Nat) (f : Field) (cell : Cell) (v : Value), U.vm.findClass C = some c ∧ U.fieldFound? C n d = some (c, k, i, f) ∧ f.isStatic = true ∧ k.statics = some aS ∧ H[aS]? = some cell ∧ cell.vm.isStatics = true ∧ cell.cls = c ∧ f.slot < cell.slots.size ∧ k.staticTypes[f.slot]? = some f.type ∧ cell.slots[f.slot]? = some v ∧ v.isRef = true
theorem sta.moved {C n d : String} {aS : Nat} {u U : State} {H : Heap} (hvm : u.vm.Alike U.vm) (h : sta C n d aS u H) : sta C n d aS U H := by
  obtain ⟨c, k, i, f, cell, v, h1, h2, h3, h4, h5, h6, h7, h8, h9, h10, h11⟩ := h
  obtain ⟨k', hi', he⟩ := State.fieldFound?_setVm hvm h2
  exact ⟨c, k', i, f, cell, v, by rw [hvm.findClass]; exact h1, hi', h3, by rw [he]; exact h4, h5, h6, h7, h8, by rw [he]; exact h9, h10, h11⟩
theorem sta.kept {C n d : String} {aS : Nat} {U : State} {H H1 : Heap} (h : sta C n d aS U H) (e : H1[aS]? = H[aS]?) : sta C n d aS U H1 := by
  obtain ⟨c, k, i, f, cell, v, h1, h2, h3, h4, h5, h6⟩ := h
  exact ⟨c, k, i, f, cell, v, h1, h2, h3, h4, by rw [e]; exact h5, h6⟩
theorem sta.lt {C n d : String} {aS : Nat} {U : State} {H : Heap} (h : sta C n d aS U H) : aS < H.size := by
  obtain ⟨c, k, i, f, cell, v, h1, h2, h3, h4, h5, h6⟩ := h
  exact (Array.getElem?_eq_some_iff.mp h5).1
theorem sta.lays {C n d : String} {aS : Nat} {s : State} {args : Array Value} (h : sta C n d aS s s.heap) : (Cond.laysStatic C n d).before args s = true := by
  obtain ⟨c, k, i, f, cell, v, h1, h2, h3, h4, h5, h6, h7, h8, h9, h10, h11⟩ := h
  simp [Cond.before, Cond.holds, Cond.value, h1, h2, h3, h4, h5, h6, h7, h8, h9]
theorem sta.isRef {C n d : String} {aS : Nat} {s : State} {args : Array Value} (h : sta C n d aS s s.heap) : (Cond.isRef (.static C n d)).before args s = true := by
  obtain ⟨c, k, i, f, cell, v, h1, h2, h3, h4, h5, h6, h7, h8, h9, h10, h11⟩ := h
  have hv : (Term.static C n d).eval args s none [] s = some v := by simp [Term.eval, State.fieldNamed?, h2, h3, h4, h5, h6, h10]
  simp only [Cond.before, Cond.holds, Cond.value, hv]
  cases v <;> simp [Value.isRef] at h11 ⊢
theorem sta.of {args : Array Value} {s : State} {C n d : String} (hl : (Cond.laysStatic C n d).before args s = true) (h : (Cond.isRef (.static C n d)).before args s = true) : ∃ aS, sta C n d aS s s.heap := by
  obtain ⟨c, k, i, f, a, cell, hc, hi, hst, ha, hcell, hs, hcls, hlt, hty⟩ := Cond.laysStatic_spec hl
  cases hv : (Term.static C n d).eval args s none [] s with
  | none => simp [Cond.before, Cond.holds, Cond.value, hv] at h
  | some w =>
    obtain ⟨hst', a', cell', ha', hcell', -, hslot⟩ := Term.static_spec hi hv
    cases ha.symm.trans ha'
    cases hcell.symm.trans hcell'
    refine ⟨a, c, k, i, f, cell, w, hc, hi, hst, ha, hcell, hs, hcls, hlt, hty, hslot, ?_⟩
    simp only [Cond.before, Cond.holds, Cond.value, hv] at h
    cases w <;> simp [Value.isRef] at h ⊢
-- ==== second
theorem castable_moved {C D : String} {A A' : Array Value} {u U : State} (hvm : u.vm.Alike U.vm) (h : (Cond.castable C D).before A u = true) : (Cond.castable C D).before A' U = true := by
  obtain ⟨c, t, h1, h2, h3⟩ := Cond.castable_spec h
  have e1 : U.vm.findClass C = some c := by rw [hvm.findClass]; exact h1
  have e2 : U.vm.findClass D = some t := by rw [hvm.findClass]; exact h2
  have e3 : U.vm.assignable c t = true := by rw [hvm.assignable]; exact h3
  simp [Cond.before, Cond.holds, Cond.value, e1, e2, e3]
theorem declares_moved {x : MethodName} {A A' : Array Value} {u U : State} (hvm : u.vm.Alike U.vm) (h : (Cond.declares x).before A u = true) : (Cond.declares x).before A' U = true := by
  obtain ⟨m, meth, h1, h2, h3, h4⟩ := Cond.declares_spec h
  have e1 : U.methodNamed? x = some m := by
    have q : (u.setVm U.vm).methodNamed? x = some m := by rw [State.methodNamed?_setVm hvm]; exact h1
    exact q
  have e2 : U.vm.method? m = some meth := by rw [hvm.method?]; exact h2
  simp [Cond.before, Cond.holds, Cond.value, e1, e2, h3, h4]
/-- words of the tables that no list of good words holds -/
def xwC : List (String × String) := [("java/lang/IllegalArgumentException", "java/lang/IllegalArgumentException"), ("java/lang/IllegalStateException", "java/lang/IllegalStateException"), ("java/lang/IndexOutOfBoundsException", "java/lang/IndexOutOfBoundsException"), ("java/lang/UnsupportedOperationException", "java/lang/UnsupportedOperationException")]
def xwD : List MethodName := [⟨"java/lang/RuntimeException", "<init>", "()V"⟩, ⟨"java/lang/RuntimeException", "<init>", "(Ljava/lang/String;)V"⟩, ⟨"java/lang/Exception", "<init>", "()V"⟩, ⟨"java/lang/Exception", "<init>", "(Ljava/lang/String;)V"⟩, ⟨"java/lang/Throwable", "<init>", "()V"⟩, ⟨"java/lang/Throwable", "<init>", "(Ljava/lang/String;)V"⟩]
def XW (U : State) : Prop := (∀ q ∈ xwC, (Cond.castable q.1 q.2).before #[] U = true) ∧ ∀ x ∈ xwD, (Cond.declares x).before #[] U = true
theorem XW.moved {u U : State} (hvm : u.vm.Alike U.vm) (h : XW u) : XW U := ⟨fun q hq => castable_moved hvm (h.1 q hq), fun x hx => declares_moved hvm (h.2 x hx)⟩
def four : List Cond := [.laysStatic Bundle.tN "UNASSIGNED_STACK" Bundle.steD, .laysStatic Bundle.tN "SUPPRESSED_SENTINEL" Bundle.listD, .isRef (.static Bundle.tN "UNASSIGNED_STACK" Bundle.steD), .isRef (.static Bundle.tN "SUPPRESSED_SENTINEL" Bundle.listD)]
/-- what a throw needs of a state beside the good words: Throwable's statics lie at a1, a2 -/
def EX (a1 a2 : Nat) (U : State) (H : Heap) : Prop := XW U ∧ sta Bundle.tN "UNASSIGNED_STACK" Bundle.steD a1 U H ∧ sta Bundle.tN "SUPPRESSED_SENTINEL" Bundle.listD a2 U H
theorem EX.moved {a1 a2 : Nat} {u U : State} {H : Heap} (hvm : u.vm.Alike U.vm) (h : EX a1 a2 u H) : EX a1 a2 U H := ⟨h.1.moved hvm, h.2.1.moved hvm, h.2.2.moved hvm⟩
theorem EX.kept {a1 a2 : Nat} {U : State} {H H1 : Heap} (h : EX a1 a2 U H) (e1 : H1[a1]? = H[a1]?) (e2 : H1[a2]? = H[a2]?) : EX a1 a2 U H1 := ⟨h.1, h.2.1.kept e1, h.2.2.kept e2⟩
def okAtom (w : Cond) : Bool := (goodWord w && decide (w ∈ lw_tbl)) || (xwC.any fun q => decide (w = .castable q.1 q.2)) || (xwD.any fun x => decide (w = .declares x)) || decide (w ∈ four)
theorem EX.atoms {a1 a2 : Nat} {args : Array Value} {s : State} (hts : ∀ w ∈ gw, w.before args s = true) (h : EX a1 a2 s s.heap) {L : List Cond} (hL : L.all okAtom = true) : ∀ w ∈ L, w.before args s = true := by
  intro w hw
  have q := List.all_eq_true.mp hL w hw
  unfold okAtom at q
  simp only [Bool.or_eq_true, Bool.and_eq_true, decide_eq_true_eq, List.any_eq_true] at q
  rcases q with ((⟨g1, g2⟩ | ⟨x, g1, g2⟩) | ⟨x, g1, g2⟩) | g
  · exact hts w (gw_of g2 g1)
  · rw [g2]; exact castable_moved (Vm.Alike.refl s.vm) (h.1.1 x g1)
  · rw [g2]; exact declares_moved (Vm.Alike.refl s.vm) (h.1.2 x g1)
  · simp only [four, List.mem_cons, List.not_mem_nil, or_false] at g
    rcases g with rfl | rfl | rfl | rfl
    · exact h.2.1.lays
    · exact h.2.2.lays
    · exact h.2.1.isRef
    · exact h.2.2.isRef
/-- the end of a method that threw an object of the class E -/
def th_Q (E : String) (B : State → State → Prop) (mc ms : Nat) (free : Addr → Prop) (st : State) (o : Outcome) (t : State) : Prop :=
  ∃ (q : Addr) (ce : Cell) (L : List Loc), o = .threw q ∧ B st t ∧ t.heap[q]? = some ce ∧ ce.vm = .none ∧ st.vm.findClass E = some ce.cls ∧ st.WarmedH t.vm ∧ st.sameButNew ({ t with vm := st.vm } : State) L mc ms ∧ ∀ z ∈ L, free z.base
def TMet (l : Launch) (y : MethodName) (ws : List Cond) (rm : Room) (Pc : Array Value → State → Prop) (E : String) (B : State → State → Prop) (mc ms : Nat) (free : Addr → Prop) : Prop :=
  MetFree l y (headSpec ws rm) Pc (fun _ _ _ _ _ => True) (fun _ st o t => th_Q E B mc ms free st o t)
def th_MQ (below : List Frame) (E : String) (B : State → State → Prop) (s : State) (mc ms : Nat) (free : Addr → Prop) : State → Prop := fun t => ∃ o, t.status = .running ∧ Ended t below o ∧ th_Q E B mc ms free s o t
theorem TMet.ofW {l : Launch} {y : MethodName} {ws ws' : List Cond} {rm : Room} {Pc : Array Value → State → Prop} {E : String} {B : State → State → Prop} {mc ms : Nat} {free : Addr → Prop} {cc : ByteArray} {maxL : Nat} {ret : Option FieldType}
    (hy : plainName y.cls = true) (hw : ws = Cond.code y cc maxL ret :: ws')
    (body : ∀ p e s m args below meth c s₁, BodyLoose p l y (headSpec ws rm) cc maxL ret e s m args below meth c s₁ → c.maxLocals = maxL → c.exceptionTable.toList = [] → Pc args s →
      W p l e (headSpec ws rm).room s m args below meth c s.heap [] 0 0 (th_MQ below E B s mc ms free) (entryFrame m args maxL)) : TMet l y ws rm Pc E B mc ms free := by
  refine MetFree.of_bodyS (code := cc) (maxLocals := maxL) (ret := ret) hy ?_ ?_
  · intro args s m h hn
    obtain ⟨meth, c, h1, h2, h3, h4, h5, h6, -, -⟩ := Cond.code_spec hn (atoms_spec (ws := ws) h _ (by rw [hw]; exact List.mem_cons_self))
    exact ⟨meth, c, h1, h2, h3, h4, h5, h6⟩
  · intro p e s m args below meth c s₁ b hml hP _
    have hh0 : s₁.heap = s.heap := by rw [b.state]; rfl
    have hcode : (Cond.code y cc maxL ret).before args s = true := atoms_spec (ws := ws) b.pre _ (by rw [hw]; exact List.mem_cons_self)
    have hemp : c.exceptionTable.toList = [] := by
      obtain ⟨meth', c', hm', hc', -, -, -, -, hempty, -⟩ := Cond.code_spec b.named hcode
      have X := Stand.of_body b
      cases X.method.symm.trans hm'
      cases X.code.symm.trans hc'
      have h0 : c.exceptionTable.size = 0 := by simpa [Array.isEmpty] using hempty
      exact List.eq_nil_of_length_eq_zero (by simpa using h0)
    obtain ⟨t, a1, o, b1, b2, b3⟩ := body p e s m args below meth c s₁ b hml hemp hP s₁ hh0 (Stand.of_body b)
    exact ⟨t, o, a1, b1, b2, b3⟩
section TH
variable {p : Program} {l : Launch} {e : Env} {R : Room} {s : State} {m : MethodId} {args : Array Value} {below : List Frame} {meth : Method} {c : Code} {H : Heap} {locs : List Loc} {cells slots : Nat} {Q : State → Prop} {cc : ByteArray} {pc : Nat} {ls : Array Slot} {rest : List Value}
/-- the frame g with q thrown over it -/
def TW (p : Program) (l : Launch) (e : Env) (R : Room) (s : State) (m : MethodId) (args : Array Value) (below : List Frame) (meth : Method) (c : Code) (H : Heap) (locs : List Loc) (cells slots : Nat) (Q : State → Prop) (g : JFrame) (q : Addr) : Prop :=
  ∀ T : State, T.heap = H → Stand p l e R s m args below meth c T locs cells slots → ∃ t, Steps p.tables e below ((T.setTop g).pushFrame (.throwing q)) t ∧ Q t
/-- not caught: the method itself has thrown -/
theorem TW.out {E : String} {B : State → State → Prop} {free : Addr → Prop} {q : Addr} {ce : Cell} {stk : List Value} (hemp : c.exceptionTable.toList = []) (hlocks : meth.locks = false) (hce : H[q]? = some ce) (hv : ce.vm = .none) (hcl : s.vm.findClass E = some ce.cls) (hB : ∀ t : State, t.heap = H → s.WarmedH t.vm → B s t) (hf : ∀ z ∈ locs, free z.base) :
    TW p l e R s m args below meth c H locs cells slots (th_MQ below E B s cells slots free) (F0 m pc ls stk) q := by
  intro T hT X
  obtain ⟨h1, h2, h3, h4, h5⟩ := X.leaveThrown q (g := F0 m pc ls stk) rfl rfl rfl (by rw [hemp]; intro x hx; cases hx) hlocks
  have hH : (T.setFrames (.throwing q :: below)).heap = H := hT
  exact ⟨_, h1, .threw q, h2, h3, q, ce, locs, rfl, hB _ hH h4, by rw [hH]; exact hce, hv, hcl, h4, h5, hf⟩
/-- 'throw new E(text)' from the constructor's call on, nothing written before -/
theorem th_ctor {E : String} {B : State → State → Prop} {free : Addr → Prop} {names : List String} {ic a x a1 a2 : Nat} {cX : ClassId} {kX : Class} (hexec : p.tables.exec = Jvm.exec) (hb : c.code = cc) (hl : l.stackTraces = false) {own : String}
    (hown : s.vm.findClass own = some m.cls) (hts : ∀ w ∈ gw, w.before args s = true) (hE : EX a1 a2 s s.heap) (hat : (Bundle.ownAtoms own ic E names).all okAtom = true) (hfit : Bundle.fit E = true) (hnames : ∀ n ∈ names, Bundle.fit n = true)
    (hfX : s.vm.findClass E = some cX) (hkX : s.vm.classes[cX]? = some kX) (hcell : H[a]? = some (freshCell cX kX)) (hnew : s.heap.size ≤ a) (hsize : ls.size = c.maxLocals)
    (hd6 : decode cc pc = .ok (.invokespecial ic, 3)) (hd9 : decode cc (pc + 3) = .ok (.athrow, 1)) (hemp : c.exceptionTable.toList = []) (hlocks : meth.locks = false) (hRf : names.length + 3 < R.frames) (hRl : ((Value.ref a :: rest).map fun v => v.category).sum + (13 * (names.length + 1) + 42) ≤ R.locals)
    (hB : ∀ t : State, s.WarmedH t.vm → (∀ q : Nat, q < s.heap.size → t.heap[q]? = s.heap[q]?) → s.heap.size ≤ t.heap.size → B s t) :
    W p l e R s m args below meth c H [] cells slots (th_MQ below E B s cells slots free) (F0 m pc ls (.ref x :: .ref a :: .ref a :: rest)) := by
  intro T hT X
  have htr : e.platform.stackTraces = false := by rw [X.admits.platform]; exact hl
  obtain ⟨U, hsteps, hrun, hend, hW, hsame, ce, hce, K⟩ := X.ctorThrowS hexec htr (own := own) (cls := E) (names := names) (ic := ic) hown hfit hnames (EX.atoms hts hE hat) (fun y hy => by cases hy) hfX hkX (by rw [hT]; exact hcell) hnew (msg := .ref x) rfl
    (g := F0 m pc ls (.ref x :: .ref a :: .ref a :: rest)) rfl hsize rfl rfl (rest := rest) rfl (by rw [hb]; exact hd6) (by rw [hb]; exact hd9) (by rw [hemp]; intro y hy; cases hy) hRf (by
      show 2 * (F0 m pc ls (.ref x :: .ref a :: .ref a :: rest)).monitorRoom + _ + _ ≤ _
      have h0 : (F0 m pc ls (.ref x :: .ref a :: .ref a :: rest)).monitorRoom = 0 := rfl
      rw [h0]; omega) hlocks
  refine ⟨U, hsteps, .threw a, hrun, hend, a, ce, [], rfl, hB U hW (fun q hq => ?_) hsame.2.1, hce, K.vm, K.cls, hW, hsame, fun z hz => by cases hz⟩
  have hc0 : s.heap[q]? = some s.heap[q] := Array.getElem?_eq_getElem hq
  obtain ⟨c', h1, h2, h3, h4⟩ := hsame.2.2.2.2.2 q _ hc0
  have h5 : c' = s.heap[q] := by
    rw [h2]
    have : c'.slots = s.heap[q].slots := by
      apply Array.ext_getElem?
      intro i
      exact h4 i (fun hz => by cases hz)
    rw [this]
  rw [hc0, ← h5]
  exact h1
end TH
