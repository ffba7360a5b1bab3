/-! THE CLAIM OUT OF ONE WALK OF THE LAW'S BODY. Your part is whole_start (and what it stands on); all else here is the same for every law, but numbers. -/
def R_law : String := "SlitWidthsLaw"
def lw_P (b : Addr) (xs : List Int32) (args : Array Value) (s : State) : Prop := args = #[.ref b] ∧ s.IntsAt b xs ∧ xs.length ≤ 3072 ∧ (Jvm.Cond.and given_1 narrow_1).before args s = true
def lw_Q (_ : Array Value) (s : State) (o : Outcome) (t : State) : Prop := o = .returned (some (.int 1)) ∧ Framed s o t [] 601024 7293034
def lw_Z (below : List Frame) (a : Array Value) (s : State) : State → Prop := fun t => ∃ o, t.status = .running ∧ Ended t below o ∧ lw_Q a s o t
/-- the law's own end, with 1 on the stack, nothing written that was there before, its room as the claim has it -/
theorem lw_ret {p : Program} {l : Launch} {e : Env} {s : State} {m : MethodId} {below : List Frame} {meth : Method} {c : Code} {b : Nat} (hx : p.tables.exec = Jvm.exec) (hb : c.code = code) (hr : meth.sig.returnType = ret) (hlocks : meth.locks = false) {pc : Nat} {H : Heap} {ls : Array Slot} (hdg : decode code pc = .ok (.ireturn, 1)) : W p l e room_1 s m #[Value.ref b] below meth c H [] 601024 7293034 (lw_Z below #[Value.ref b] s) (F0 m pc ls [.int 1]) := by
  intro T hT X
  obtain ⟨fs, hret, hrun, hended, hW, hframe⟩ := X.leave (v := some (.int 1)) (hlocks := hlocks) (fun h => by rw [hr] at h; cases h)
  have hmeth' : T.vm.method? m = some meth := X.method'
  refine ⟨T.setFrames fs, ?_, .returned (some (.int 1)), hrun, hended, rfl, ⟨_, rfl⟩, hW, hframe⟩
  jvm_step X.here [X.here.top, hx, hb, hdg, hmeth', hr, ret, narrow_b1]
  (try refine ⟨rfl, ?_⟩); (try refine ⟨rfl, ?_⟩)
  first | (intro acts; rw [hret _ acts rfl rfl rfl]) | rw [hret _ _ rfl rfl rfl]
  exact Steps.refl _
/-- what holds at the law's entry: the machine, the code, the tables' words (any of lw_tbl by 'hts w (by decide +kernel)'), the script of L ints xs at the cell b, what the Statement gives of the start (any of its parts by flat_of_before) -/
def lw_At (p : Program) (s : State) (m : MethodId) (meth : Method) (c : Code) (b L : Nat) (xs : Nat → Int32) : Prop :=
  p.tables.exec = Jvm.exec ∧ c.code = code ∧ meth.sig.returnType = ret ∧ c.maxLocals = 7 ∧ s.vm.findClass R_law = some m.cls ∧ (∀ w ∈ lw_tbl, w.before #[Value.ref b] s = true) ∧ va_X b L xs s s.heap ∧ b < s.heap.size ∧ meth.locks = false ∧ (Jvm.Cond.and given_1 narrow_1).before #[Value.ref b] s = true
abbrev aI_ (a : Nat) (c : ClassId) (n : Nat) (f : Nat → Nat) : Nat × va_E := (a, .inl (c, n, .inl (aN f)))
abbrev aR_ (a : Nat) (c : ClassId) (n : Nat) (f : Nat → Option Nat) : Nat × va_E := (a, .inl (c, n, .inr (.inr (.inr (.inr f)))))
abbrev aL_ (a : Nat) (c : ClassId) (f : Nat → Int64) : Nat × va_E := (a, .inl (c, 1, .inr (.inl f)))
abbrev oCO_nnnnn (a : Nat) (f0 : Nat) (f1 : Nat) (f2 : Nat) (f3 : Nat) (f4 : Nat) : Nat × va_E := (a, .inr (0, [.int (nI f0), .int (nI f1), .int (nI f2), .int (nI f3), .int (nI f4)]))
abbrev oDE_rrn (a : Nat) (f0 : Nat) (f1 : Nat) (f2 : Nat) : Nat × va_E := (a, .inr (1, [.ref f0, .ref f1, .int (nI f2)]))
abbrev oMO_nnnnnnnrrrrnrrrrrrnrrrr (a : Nat) (f0 : Nat) (f1 : Nat) (f2 : Nat) (f3 : Nat) (f4 : Nat) (f5 : Nat) (f6 : Nat) (f7 : Nat) (f8 : Nat) (f9 : Nat) (f10 : Nat) (f11 : Nat) (f12 : Nat) (f13 : Nat) (f14 : Nat) (f15 : Nat) (f16 : Nat) (f17 : Nat) (f18 : Nat) (f19 : Nat) (f20 : Nat) (f21 : Nat) (f22 : Nat) : Nat × va_E := (a, .inr (7, [.int (nI f0), .int (nI f1), .int (nI f2), .int (nI f3), .int (nI f4), .int (nI f5), .int (nI f6), .ref f7, .ref f8, .ref f9, .ref f10, .int (nI f11), .ref f12, .ref f13, .ref f14, .ref f15, .ref f16, .ref f17, .int (nI f18), .ref f19, .ref f20, .ref f21, .ref f22]))
abbrev oPS_rnnnrrrznn (a : Nat) (f0 : Nat) (f1 : Nat) (f2 : Nat) (f3 : Nat) (f4 : Nat) (f5 : Nat) (f6 : Nat) (f7 : Int) (f8 : Nat) (f9 : Nat) : Nat × va_E := (a, .inr (2, [.ref f0, .int (nI f1), .int (nI f2), .int (nI f3), .ref f4, .ref f5, .ref f6, .int (zI f7), .int (nI f8), .int (nI f9)]))
abbrev oSQ_rnnrr (a : Nat) (f0 : Nat) (f1 : Nat) (f2 : Nat) (f3 : Nat) (f4 : Nat) : Nat × va_E := (a, .inr (3, [.ref f0, .int (nI f1), .int (nI f2), .ref f3, .ref f4]))
abbrev oSW_rrrrrrn (a : Nat) (f0 : Nat) (f1 : Nat) (f2 : Nat) (f3 : Nat) (f4 : Nat) (f5 : Nat) (f6 : Nat) : Nat × va_E := (a, .inr (6, [.ref f0, .ref f1, .ref f2, .ref f3, .ref f4, .ref f5, .int (nI f6)]))
abbrev oWI_rrn (a : Nat) (f0 : Nat) (f1 : Nat) (f2 : Nat) : Nat × va_E := (a, .inr (5, [.ref f0, .ref f1, .int (nI f2)]))
/-! what holds between the class and the reference ahead of each call -/
def lwA (s : State) : Nat → Prop := fun q => s.heap.size ≤ q
theorem rmc {n : Nat} (h : n ≤ 601024) : n ≤ room_1.cells := h
theorem rms {n : Nat} (h : n ≤ 7293034) : n ≤ room_1.slots := h
abbrev LI (cw ck cr cf cn cnt sc dc : Nat) (ww wa st df dt sw sk sr sf sl ss nm bc : Nat → Nat) (bn bf kn tt qk : Nat) (sa : Nat → Nat → Nat → Nat) (sv : Nat → Nat → Nat) : Prop :=
  (1 ≤ cw ∧ cw ≤ 20000) ∧ (ck ≤ 50000) ∧ (cr ≤ 1000) ∧ (cf ≤ 100) ∧ (2 ≤ cn ∧ cn ≤ 40) ∧ (cnt ≤ 5) ∧ (sc ≤ 9) ∧ (dc ≤ 10) ∧ (∀ i, i < cnt → 1 ≤ ww i) ∧ (∀ i, i < cnt → ww i ≤ 20000) ∧ (∀ i, i < cnt → st i = wa i) ∧ (∀ i, i < cnt → st i ≤ 6) ∧ (∀ d, d < dc → df d ≤ 20000 ∧ dt d ≤ 20000) ∧ (kn = 0 ∨ (kn = 1 ∧ GoodP cw cr cf cn cnt ww st bn bf bc)) ∧ (qk = 0 ∨ (qk = 1 ∧ GoodO (MVc sa sv) sc tt nm)) ∧ (∀ i, i < sc → TI ww sw sk sr sf sl ss cnt sa sv i)
section LIS
variable {cw ck cr cf cn cnt sc dc : Nat} {ww wa st df dt sw sk sr sf sl ss nm bc : Nat → Nat} {bn bf kn tt qk : Nat} {sa : Nat → Nat → Nat → Nat} {sv : Nat → Nat → Nat} {a1 a2 a3 a4 a5 : Int}
theorem LI.c1 (h : LI cw ck cr cf cn cnt sc dc ww wa st df dt sw sk sr sf sl ss nm bc bn bf kn tt qk sa sv) : 1 ≤ cw ∧ cw ≤ 20000 := h.1
theorem LI.c2 (h : LI cw ck cr cf cn cnt sc dc ww wa st df dt sw sk sr sf sl ss nm bc bn bf kn tt qk sa sv) : ck ≤ 50000 := h.2.1
theorem LI.c3 (h : LI cw ck cr cf cn cnt sc dc ww wa st df dt sw sk sr sf sl ss nm bc bn bf kn tt qk sa sv) : cr ≤ 1000 := h.2.2.1
theorem LI.c4 (h : LI cw ck cr cf cn cnt sc dc ww wa st df dt sw sk sr sf sl ss nm bc bn bf kn tt qk sa sv) : cf ≤ 100 := h.2.2.2.1
theorem LI.c5 (h : LI cw ck cr cf cn cnt sc dc ww wa st df dt sw sk sr sf sl ss nm bc bn bf kn tt qk sa sv) : 2 ≤ cn ∧ cn ≤ 40 := h.2.2.2.2.1
theorem LI.n6 (h : LI cw ck cr cf cn cnt sc dc ww wa st df dt sw sk sr sf sl ss nm bc bn bf kn tt qk sa sv) : cnt ≤ 5 := h.2.2.2.2.2.1
theorem LI.n7 (h : LI cw ck cr cf cn cnt sc dc ww wa st df dt sw sk sr sf sl ss nm bc bn bf kn tt qk sa sv) : sc ≤ 9 := h.2.2.2.2.2.2.1
theorem LI.n8 (h : LI cw ck cr cf cn cnt sc dc ww wa st df dt sw sk sr sf sl ss nm bc bn bf kn tt qk sa sv) : dc ≤ 10 := h.2.2.2.2.2.2.2.1
theorem LI.w1 (h : LI cw ck cr cf cn cnt sc dc ww wa st df dt sw sk sr sf sl ss nm bc bn bf kn tt qk sa sv) : ∀ i, i < cnt → 1 ≤ ww i := h.2.2.2.2.2.2.2.2.1
theorem LI.w2 (h : LI cw ck cr cf cn cnt sc dc ww wa st df dt sw sk sr sf sl ss nm bc bn bf kn tt qk sa sv) : ∀ i, i < cnt → ww i ≤ 20000 := h.2.2.2.2.2.2.2.2.2.1
theorem LI.s1 (h : LI cw ck cr cf cn cnt sc dc ww wa st df dt sw sk sr sf sl ss nm bc bn bf kn tt qk sa sv) : ∀ i, i < cnt → st i = wa i := h.2.2.2.2.2.2.2.2.2.2.1
theorem LI.s2 (h : LI cw ck cr cf cn cnt sc dc ww wa st df dt sw sk sr sf sl ss nm bc bn bf kn tt qk sa sv) : ∀ i, i < cnt → st i ≤ 6 := h.2.2.2.2.2.2.2.2.2.2.2.1
theorem LI.d1 (h : LI cw ck cr cf cn cnt sc dc ww wa st df dt sw sk sr sf sl ss nm bc bn bf kn tt qk sa sv) : ∀ d, d < dc → df d ≤ 20000 ∧ dt d ≤ 20000 := h.2.2.2.2.2.2.2.2.2.2.2.2.1
theorem LI.kP (h : LI cw ck cr cf cn cnt sc dc ww wa st df dt sw sk sr sf sl ss nm bc bn bf kn tt qk sa sv) : kn = 0 ∨ (kn = 1 ∧ GoodP cw cr cf cn cnt ww st bn bf bc) := h.2.2.2.2.2.2.2.2.2.2.2.2.2.1
theorem LI.kO (h : LI cw ck cr cf cn cnt sc dc ww wa st df dt sw sk sr sf sl ss nm bc bn bf kn tt qk sa sv) : qk = 0 ∨ (qk = 1 ∧ GoodO (MVc sa sv) sc tt nm) := h.2.2.2.2.2.2.2.2.2.2.2.2.2.2.1
theorem LI.tI (h : LI cw ck cr cf cn cnt sc dc ww wa st df dt sw sk sr sf sl ss nm bc bn bf kn tt qk sa sv) : ∀ i, i < sc → TI ww sw sk sr sf sl ss cnt sa sv i := h.2.2.2.2.2.2.2.2.2.2.2.2.2.2.2
theorem LI.wa6 (h : LI cw ck cr cf cn cnt sc dc ww wa st df dt sw sk sr sf sl ss nm bc bn bf kn tt qk sa sv) : ∀ i, i < cnt → wa i ≤ 6 := fun i hi => by rw [← h.s1 i hi]; exact h.s2 i hi
theorem LI.so (h : LI cw ck cr cf cn cnt sc dc ww wa st df dt sw sk sr sf sl ss nm bc bn bf kn tt qk sa sv) : ∀ i, i < sc → SOK sa sv i := fun i hi => (h.tI i hi).sok
theorem LI.ko (h : LI cw ck cr cf cn cnt sc dc ww wa st df dt sw sk sr sf sl ss nm bc bn bf kn tt qk sa sv) : ∀ i, i < sc → KOK sa sv i := fun i hi => (h.tI i hi).kok
theorem LI.all (h : LI cw ck cr cf cn cnt sc dc ww wa st df dt sw sk sr sf sl ss nm bc bn bf kn tt qk sa sv) : ∀ s, s < sc → HW (fun w => ss (5 * s + w)) ((fun i => sa i 0) s) ∧ (∀ w, w < 5 → ss (5 * s + w) ≤ 6) ∧ ∀ k, k < sumN (fun w => ss (5 * s + w)) 5 → Em ww ((fun i => sa i 0) s) (sf s) (sl s) k < 1000000 := fun i hi => (h.tI i hi).all
theorem LI.hsw (h : LI cw ck cr cf cn cnt sc dc ww wa st df dt sw sk sr sf sl ss nm bc bn bf kn tt qk sa sv) : ∀ s, s < sc → 1 ≤ sw s ∧ sw s ≤ 20000 ∧ sk s ≤ 50000 := fun i hi => (h.tI i hi).hsw
theorem LI.hsh (h : LI cw ck cr cf cn cnt sc dc ww wa st df dt sw sk sr sf sl ss nm bc bn bf kn tt qk sa sv) : ∀ s, s < sc → 1 ≤ sumN (fun w => ss (5 * s + w)) 5 ∧ sl s ≤ 20000 ∧ sw s ≤ 20000 ∧ 2 * sr s + enr ww ((fun i => sa i 0) s) (sf s) (sumN (fun w => ss (5 * s + w)) 5 - 1) ≤ sw s := fun i hi => (h.tI i hi).hsh
theorem LI.coil (h : LI cw ck cr cf cn cnt sc dc ww wa st df dt sw sk sr sf sl ss nm bc bn bf kn tt qk sa sv) (hG : ((1 ≤ a1 ∧ a1 ≤ 20000) ∧ (1 ≤ a2 ∧ a2 ≤ 50000) ∧ (0 ≤ a3 ∧ a3 ≤ 1000) ∧ (0 ≤ a4 ∧ a4 ≤ 100) ∧ (2 ≤ a5 ∧ a5 ≤ 40))) : LI a1.toNat a2.toNat a3.toNat a4.toNat a5.toNat cnt sc dc ww wa st df dt sw sk sr sf sl ss nm bc bn bf 0 tt qk sa sv :=
  ⟨by omega, by omega, by omega, by omega, by omega, h.n6, h.n7, h.n8, h.w1, h.w2, h.s1, h.s2, h.d1, Or.inl rfl, h.kO, h.tI⟩
theorem LI.want (h : LI cw ck cr cf cn cnt sc dc ww wa st df dt sw sk sr sf sl ss nm bc bn bf kn tt qk sa sv) (hc : cnt < 5) (hG : ((1 ≤ a1 ∧ a1 ≤ 20000) ∧ (0 ≤ a2 ∧ a2 ≤ 6))) : LI cw ck cr cf cn (cnt + 1) sc dc (up ww cnt a1.toNat) (up wa cnt a2.toNat) (up st cnt a2.toNat) df dt sw sk sr sf sl ss nm bc bn bf 0 tt qk sa sv :=
  ⟨h.c1, h.c2, h.c3, h.c4, h.c5, hc, h.n7, h.n8, lt_s (fun i hi => by rw [up_n _ _ (by omega)]; exact h.w1 i hi) (by rw [up_s]; omega), lt_s (fun i hi => by rw [up_n _ _ (by omega)]; exact h.w2 i hi) (by rw [up_s]; omega), lt_s (fun i hi => by rw [up_n _ _ (by omega), up_n _ _ (by omega)]; exact h.s1 i hi) (by rw [up_s, up_s]), lt_s (fun i hi => by rw [up_n _ _ (by omega)]; exact h.s2 i hi) (by rw [up_s]; omega), h.d1, Or.inl rfl, h.kO,
   fun i hi => (h.tI i hi).cg rfl rfl rfl rfl rfl (fun _ _ => rfl) rfl rfl (by omega) (fun j hj => up_n _ _ (by omega))⟩
theorem LI.strips (h : LI cw ck cr cf cn cnt sc dc ww wa st df dt sw sk sr sf sl ss nm bc bn bf kn tt qk sa sv) (hG : (0 ≤ a1 ∧ a1 < cnt) ∧ (0 ≤ a2 ∧ a2 ≤ 6)) : LI cw ck cr cf cn cnt sc dc ww (up wa a1.toNat a2.toNat) (up st a1.toNat a2.toNat) df dt sw sk sr sf sl ss nm bc bn bf 0 tt qk sa sv := by
  refine ⟨h.c1, h.c2, h.c3, h.c4, h.c5, h.n6, h.n7, h.n8, h.w1, h.w2, fun i hi => ?_, fun i hi => ?_, h.d1, Or.inl rfl, h.kO, h.tI⟩
  · by_cases q : i = a1.toNat
    · rw [q, up_s, up_s]
    · rw [up_n _ _ q, up_n _ _ q]
      exact h.s1 i hi
  · by_cases q : i = a1.toNat
    · rw [q, up_s]
      omega
    · rw [up_n _ _ q]
      exact h.s2 i hi
theorem LI.pat {bn1 bf1 kn1 : Nat} {bc1 : Nat → Nat} (h : LI cw ck cr cf cn cnt sc dc ww wa st df dt sw sk sr sf sl ss nm bc bn bf kn tt qk sa sv) (hk : kn1 = 0 ∨ (kn1 = 1 ∧ GoodP cw cr cf cn cnt ww st bn1 bf1 bc1)) : LI cw ck cr cf cn cnt sc dc ww wa st df dt sw sk sr sf sl ss nm bc1 bn1 bf1 kn1 tt qk sa sv :=
  ⟨h.c1, h.c2, h.c3, h.c4, h.c5, h.n6, h.n7, h.n8, h.w1, h.w2, h.s1, h.s2, h.d1, hk, h.kO, h.tI⟩
theorem LI.ord {tt1 qk1 : Nat} {nm1 : Nat → Nat} (h : LI cw ck cr cf cn cnt sc dc ww wa st df dt sw sk sr sf sl ss nm bc bn bf kn tt qk sa sv) (hk : qk1 = 0 ∨ (qk1 = 1 ∧ GoodO (MVc sa sv) sc tt1 nm1)) : LI cw ck cr cf cn cnt sc dc ww wa st df dt sw sk sr sf sl ss nm1 bc bn bf kn tt1 qk1 sa sv :=
  ⟨h.c1, h.c2, h.c3, h.c4, h.c5, h.n6, h.n7, h.n8, h.w1, h.w2, h.s1, h.s2, h.d1, h.kP, hk, h.tI⟩
theorem LI.defect (h : LI cw ck cr cf cn cnt sc dc ww wa st df dt sw sk sr sf sl ss nm bc bn bf kn tt qk sa sv) (hc : dc < 10) (hG : ((0 ≤ a1 ∧ a1 ≤ 20000) ∧ (0 ≤ a2 ∧ a2 ≤ 20000) ∧ a1 < a2)) : LI cw ck cr cf cn cnt sc (dc + 1) ww wa st (up df dc a1.toNat) (up dt dc a2.toNat) sw sk sr sf sl ss nm bc bn bf kn tt qk sa sv :=
  ⟨h.c1, h.c2, h.c3, h.c4, h.c5, h.n6, h.n7, hc, h.w1, h.w2, h.s1, h.s2, lt_s (fun i hi => by rw [up_n _ _ (by omega), up_n _ _ (by omega)]; exact h.d1 i hi) (by rw [up_s, up_s]; omega), h.kP, h.kO, h.tI⟩
theorem LI.sound (h : LI cw ck cr cf cn cnt sc dc ww wa st df dt sw sk sr sf sl ss nm bc bn bf kn tt qk sa sv) : LI cw ck cr cf cn cnt sc 0 ww wa st df dt sw sk sr sf sl ss nm bc bn bf kn tt qk sa sv :=
  ⟨h.c1, h.c2, h.c3, h.c4, h.c5, h.n6, h.n7, Nat.zero_le _, h.w1, h.w2, h.s1, h.s2, fun d hd => absurd hd (Nat.not_lt_zero d), h.kP, h.kO, h.tI⟩
theorem LI.shift {i : Nat} {y : Int} (h : LI cw ck cr cf cn cnt sc dc ww wa st df dt sw sk sr sf sl ss nm bc bn bf kn tt qk sa sv) (hi : i < sc) (hs : SS (sa i 1) (sa i 2) df dt (sv i 0) dc (sv i 5) (sv i 3 - sv i 5 - sv i 6) y) (hy : ¬ y = -1) : LI cw ck cr cf cn cnt sc dc ww wa st df dt sw sk sr sf (up sl i y.toNat) ss nm bc bn bf kn tt 0 (upG sa i (sa i)) (upG sv i (fv7 (sv i 0) y.toNat (sv i 2) (sv i 3) (sv i 4) (sv i 5) (sv i 6))) := by
  refine ⟨h.c1, h.c2, h.c3, h.c4, h.c5, h.n6, h.n7, h.n8, h.w1, h.w2, h.s1, h.s2, h.d1, h.kP, Or.inl rfl, fun k hk => ?_⟩
  obtain ⟨L, rfl, hL1, hL2⟩ := hs.pos hy
  have ht := h.tI i hi
  by_cases q : k = i
  · subst q
    have hb := ht.2.2.2.2.2.2.2.2.2.2.2.2
    exact ht.shift (L := L) hL1 (by omega)
  · exact (h.tI k hk).cg rfl rfl rfl rfl (up_n _ _ q) (fun _ _ => rfl) (upG_n _ _ q) (upG_n _ _ q) (Nat.le_refl _) (fun _ _ => rfl)
theorem LI.cut {bn1 bf1 sn kc : Nat} {bc1 be nu bg en kp st1 wa1 ss1 : Nat → Nat} (h : LI cw ck cr cf cn cnt sc dc ww wa st df dt sw sk sr sf sl ss nm bc bn bf kn tt qk sa sv) (hc : sc < 9) (hG : GoodP cw cr cf cn cnt ww st bn1 bf1 bc1) (h0 : ¬ bn1 = 0) (hsn : sn = sumN bc1 cnt) (hL : LYI bc1 ww cf sn nu bg en) (hK : KN bg en sn kc kp) (hbe : ∀ i, i < cnt → be i = bc1 i) (hbe0 : ∀ i, cnt ≤ i → i < 5 → be i = 0) (hss : ∀ w, w < 5 → ss1 (5 * sc + w) = be w) (hs2 : ∀ j, j < 5 * sc → ss1 j = ss j) (hst : ∀ j, j < cnt → st1 j = st j - bc1 j) (hwa : ∀ w, w < 5 → wa1 w = wa w - be w) :
    LI cw ck cr cf cn cnt (sc + 1) dc ww wa1 st1 df dt (up sw sc cw) (up sk sc ck) (up sr sc cr) (up sf sc cf) (up sl sc cr) ss1 nm bc1 bn1 bf1 0 tt 0 (upG sa sc (fa4 nu bg en kp)) (upG sv sc (fv7 sn cr kc cw ck cr bf1)) := by
  have h6 := h.n6
  refine ⟨h.c1, h.c2, h.c3, h.c4, h.c5, h.n6, hc, h.n8, h.w1, h.w2, fun i hi => ?_, fun i hi => ?_, h.d1, Or.inl rfl, Or.inl rfl, lt_s (fun i hi => ?_) ?_⟩
  · rw [hst i hi, hwa i (by omega), hbe i hi, h.s1 i hi]
  · rw [hst i hi]
    exact Nat.le_trans (Nat.sub_le _ _) (h.s2 i hi)
  · exact (h.tI i hi).cg (up_n _ _ (by omega)) (up_n _ _ (by omega)) (up_n _ _ (by omega)) (up_n _ _ (by omega)) (up_n _ _ (by omega)) (fun w hw => hs2 _ (by omega)) (upG_n _ _ (by omega)) (upG_n _ _ (by omega)) (Nat.le_refl _) (fun _ _ => rfl)
  · exact TI.cut hG h0 h.n6 h.s2 h.w1 h.c1.1 h.c1.2 h.c2 hsn hL hK hbe hbe0 hss
theorem LI.pz {a b : Nat} {k : Nat → Nat} (h : LI cw ck cr cf cn cnt sc dc ww wa st df dt sw sk sr sf sl ss nm bc bn bf kn tt qk sa sv) (hG : GoodP cw cr cf cn cnt ww wa a b k) : b = 0 ↔ (∃ bn bf bc, GoodP cw cr cf cn cnt ww st bn bf bc ∧ bn = 0) := by
  have hG' : GoodP cw cr cf cn cnt ww st a b k := GoodP.still (fun i hi => (h.s1 i hi).symm) hG
  constructor
  · intro q
    exact ⟨a, b, k, hG', (hG'.zero h.w1).mpr q⟩
  · rintro ⟨x, y, u, hu, h0⟩
    rw [← (hu.uniq hG').2.1]
    exact hu.none h0
theorem LI.mv (h : LI cw ck cr cf cn cnt sc dc ww wa st df dt sw sk sr sf sl ss nm bc bn bf kn tt qk sa sv) : ∀ a, a < sc → ∀ b, b < sc → MVc sa sv a b = MVm ww sf sl ss (fun i => sa i 0) a b := fun a ha b hb => TI.mv (h.tI a ha) (h.tI b hb)
end LIS
theorem x_int (v : Int32) : ∃ a : Int, (-2147483648 ≤ a ∧ a < 2147483648) ∧ v = zI a := ⟨v.toInt, ⟨Int32.le_toInt v, Int32.toInt_lt v⟩, (Int32.ofInt_toInt v).symm⟩
theorem x_and (v : Int32) : ∃ k : Nat, k < 16 ∧ v &&& 15 = nI k := by
  refine ⟨(v.toBitVec &&& 15#32).toNat, ?_, ?_⟩
  · rw [BitVec.toNat_and]
    exact Nat.lt_of_le_of_lt Nat.and_le_right (by decide)
  · apply Int32.toBitVec_inj.mp
    show v.toBitVec &&& 15#32 = _
    show _ = BitVec.ofNat 32 (v.toBitVec &&& 15#32).toNat
    rw [BitVec.ofNat_toNat, BitVec.setWidth_eq]
section LAR
variable {p : Program} {l : Launch} {e : Env} {R : Room} {s : State} {m : MethodId} {args : Array Value} {below : List Frame} {meth : Method} {c : Code} {H : Heap} {locs : List Loc} {cells slots : Nat} {Q : State → Prop} {cc : ByteArray} {pc : Nat} {ls : Array Slot} {rest : List Value}
theorem la_lcmp (hexec : p.tables.exec = Jvm.exec) (hb : c.code = cc) {x : Int64} (hdg : decode cc pc = .ok (.lcmp, 1)) (k : W p l e R s m args below meth c H locs cells slots Q (F0 m (pc + 1) ls (.int (nI 0) :: rest))) : W p l e R s m args below meth c H locs cells slots Q (F0 m pc ls (.long x :: .long x :: rest)) := by
  rw [nI_0] at k
  intro T hT X
  obtain ⟨t, a, b⟩ := k T hT X
  refine ⟨t, ?_, b⟩
  jvm_step X.here [X.here.top, hexec, hb, hdg]
  exact a
theorem la_sld (hexec : p.tables.exec = Jvm.exec) (hb : c.code = cc) {b L k : Nat} {xs : Nat → Int32} {A : Nat → Prop} {H0 : Heap} {v : Int32} (hX : va_X b L xs s H0) (hbl : b < H0.size) (hbA : ¬ A b) (hS : va_S A H0 H locs) (hk : k < L) (hL : L ≤ 3072) (hv : xs k = v) (hdg : decode cc pc = .ok (.iaload, 1))
    (kk : W p l e R s m args below meth c H locs cells slots Q (F0 m (pc + 1) ls (.int v :: rest))) : W p l e R s m args below meth c H locs cells slots Q (F0 m pc ls (.int (nI k) :: .ref b :: rest)) := by
  refine va_sld hexec hb hX hbl hbA hS (i := nI k) (nI_in hk (by omega)) hdg ?_
  rw [nI_clamp (by omega), hv]
  exact kk
end LAR
abbrev LF (p : Program) (l : Launch) (s : State) (m : MethodId) (meth : Method) (c : Code) (dC : Nat → ClassId) (dI : Nat → Nat → Nat) (b L : Nat) (xs : Nat → Int32) (e1 e2 : Nat) (cI cS cJ : ClassId) (su : Nat → Option Nat) (ad : Nat → Nat → Nat) : Prop :=
  (p.tables.exec = Jvm.exec) ∧ (c.code = code) ∧ (meth.sig.returnType = ret) ∧ (c.maxLocals = 7) ∧ (s.vm.findClass R_LA = some m.cls) ∧ (∀ w ∈ gw, w.before #[Value.ref b] s = true) ∧ (va_X b L xs s s.heap) ∧ (b < s.heap.size) ∧ (meth.locks = false) ∧ (l.stackTraces = false) ∧ (EY e1 e2 s s.heap) ∧ (va_K (dC, dI) vwCl [(cI, .int), (cS, .object "SlitWidths$SetUp"), (cJ, .long)] s) ∧ (L ≤ 3072) ∧ (∀ i, i < 9 → su i = some (ad i 0))
/-- from the loop's head on, whatever stands between the two -/
def LGo (p : Program) (l : Launch) (e : Env) (s : State) (m : MethodId) (below : List Frame) (meth : Method) (c : Code) (dC : Nat → ClassId) (dI : Nat → Nat → Nat) (b : Nat) (cI cS cJ : ClassId) (su : Nat → Option Nat) (ad : Nat → Nat → Nat) (x0 k0 v0 a0 j0 q qa ab ap aq ac vw vs jf jt qn qs qf ob : Nat) (z : Nat → Nat) (j : Nat) : Prop :=
  ∀ (g ww wa st bc pi pf ct df dt nm sp fw nw be sw sk sr sf sl ss re mo : Nat → Nat) (bn bf kn most bs tt qk : Nat) (room : Int) (sa : Nat → Nat → Nat → Nat) (sv : Nat → Nat → Nat) (og : Nat → Int64) (H : Heap) (locs : List Loc) (ls : Array Slot), LI (g 1) (g 2) (g 3) (g 4) (g 5) (g 6) (g 7) (g 8) ww wa st df dt sw sk sr sf sl ss nm bc bn bf kn tt qk sa sv → va_P (dC, dI) vwCl ([oSW_rrrrrrn x0 k0 v0 a0 j0 q qa (g 7), oCO_nnnnn k0 (g 1) (g 2) (g 3) (g 4) (g 5), oWI_rrn v0 vw vs (g 6), aI_ vw cI 5 ww, aI_ vs cI 5 st, oPS_rnnnrrrznn a0 ab bn bf kn ap aq ac room most bs, aI_ ab cI 5 bc, aI_ ap cI 5 pi, aI_ aq cI 6 pf, aI_ ac cI 5 ct, oDE_rrn j0 jf jt (g 8), aI_ jf cI 10 df, aI_ jt cI 10 dt, oSQ_rnnrr q qn tt qk qs qf, aI_ qn cI 9 nm, aI_ qs cI 81 sp, aI_ qf cI 4608 fw, aR_ qa cS 9 su, oMO_nnnnnnnrrrrnrrrrrrnrrrr (z 0) (g 0) (g 1) (g 2) (g 3) (g 4) (g 5) (g 6) (z 1) (z 2) (z 3) (z 4) (g 7) (z 5) (z 6) (z 7) (z 8) (z 9) (z 10) (g 8) (z 11) (z 12) (z 13) (z 14), aI_ (z 1) cI 5 ww, aI_ (z 2) cI 5 wa, aI_ (z 3) cI 5 nw, aI_ (z 4) cI 5 be, aI_ (z 5) cI 9 sw, aI_ (z 6) cI 9 sk, aI_ (z 7) cI 9 sr, aI_ (z 8) cI 9 sf, aI_ (z 9) cI 9 sl, aI_ (z 10) cI 45 ss, aI_ (z 11) cI 10 df, aI_ (z 12) cI 10 dt, aI_ (z 13) cI 4608 re, aI_ (z 14) cI 81 mo, aL_ ob cJ og] ++ suT cI ad sa sv 9) H → va_D (lwA s) ([oSW_rrrrrrn x0 k0 v0 a0 j0 q qa (g 7), oCO_nnnnn k0 (g 1) (g 2) (g 3) (g 4) (g 5), oWI_rrn v0 vw vs (g 6), aI_ vw cI 5 ww, aI_ vs cI 5 st, oPS_rnnnrrrznn a0 ab bn bf kn ap aq ac room most bs, aI_ ab cI 5 bc, aI_ ap cI 5 pi, aI_ aq cI 6 pf, aI_ ac cI 5 ct, oDE_rrn j0 jf jt (g 8), aI_ jf cI 10 df, aI_ jt cI 10 dt, oSQ_rnnrr q qn tt qk qs qf, aI_ qn cI 9 nm, aI_ qs cI 81 sp, aI_ qf cI 4608 fw, aR_ qa cS 9 su, oMO_nnnnnnnrrrrnrrrrrrnrrrr (z 0) (g 0) (g 1) (g 2) (g 3) (g 4) (g 5) (g 6) (z 1) (z 2) (z 3) (z 4) (g 7) (z 5) (z 6) (z 7) (z 8) (z 9) (z 10) (g 8) (z 11) (z 12) (z 13) (z 14), aI_ (z 1) cI 5 ww, aI_ (z 2) cI 5 wa, aI_ (z 3) cI 5 nw, aI_ (z 4) cI 5 be, aI_ (z 5) cI 9 sw, aI_ (z 6) cI 9 sk, aI_ (z 7) cI 9 sr, aI_ (z 8) cI 9 sf, aI_ (z 9) cI 9 sl, aI_ (z 10) cI 45 ss, aI_ (z 11) cI 10 df, aI_ (z 12) cI 10 dt, aI_ (z 13) cI 4608 re, aI_ (z 14) cI 81 mo, aL_ ob cJ og] ++ suT cI ad sa sv 9) → va_S (lwA s) s.heap H locs → lv_has ls 7 [(4, .int (nI (6 * j))), (0, .ref b), (1, .ref x0), (2, .ref (z 0)), (3, .ref ob)] →
    W p l e room_1 s m #[Value.ref b] below meth c H locs (79 + j) (11083 + 6 * j) (lw_Z below #[Value.ref b] s) (F0 m 23 ls [])
