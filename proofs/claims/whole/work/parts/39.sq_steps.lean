set_option maxHeartbeats 4000000 in
set_option maxRecDepth 100000 in
/-- measureSteps(setUps, count) -/
theorem c_SQ_measureSteps (l : Launch) (dC : Nat → ClassId) (dI : Nat → Nat → Nat) (sz : Nat) (q qn qs qf : Nat) (cI : ClassId) (cS : ClassId) (qa : Nat) (sp : Nat → Nat) (su : Nat → Option Nat) (ad : Nat → Nat → Nat) (sa : Nat → Nat → Nat → Nat) (sv : Nat → Nat → Nat) (tt kn n : Nat) (hn : n ≤ 9) (hsu : ∀ i, i < 9 → su i = some (ad i 0)) (hko : ∀ i, i < n → KOK sa sv i) : Met l y_SQ_measureSteps w_SQ_measureSteps { frames := 1, cells := 0, slots := 0, locals := 25 } (rw_Pc (dC, dI) vwCl [(cI, .int), (cS, .object "SlitWidths$SetUp")] sz [.ref q, .ref qa, .int (nI n)] ([(q, .inr (3, [.ref qn, .int (nI tt), .int (nI kn), .ref qs, .ref qf])), (qs, .inl (cI, 81, .inl (aN sp))), (qa, .inl (cS, 9, .inr (.inr (.inr (.inr su)))))] ++ suT cI ad sa sv 9)) (va_Qv (fun (u : (Nat → Nat)) => ∀ a, a < n → ∀ b, b < n → u (a * 9 + b) = MVc sa sv a b) (rw_B (dC, dI) vwCl [(cI, .int), (cS, .object "SlitWidths$SetUp")] (va_A ([(q, .inr (3, [.ref qn, .int (nI tt), .int (nI kn), .ref qs, .ref qf])), (qs, .inl (cI, 81, .inl (aN sp))), (qa, .inl (cS, 9, .inr (.inr (.inr (.inr su)))))] ++ suT cI ad sa sv 9) sz) (fun u : (Nat → Nat) => ([(q, .inr (3, [.ref qn, .int (nI tt), .int (nI kn), .ref qs, .ref qf])), (qs, .inl (cI, 81, .inl (aN u))), (qa, .inl (cS, 9, .inr (.inr (.inr (.inr su)))))] ++ suT cI ad sa sv 9))) (va_A ([(q, .inr (3, [.ref qn, .int (nI tt), .int (nI kn), .ref qs, .ref qf])), (qs, .inl (cI, 81, .inl (aN sp))), (qa, .inl (cS, 9, .inr (.inr (.inr (.inr su)))))] ++ suT cI ad sa sv 9) sz)) 0 0 (va_A ([(q, .inr (3, [.ref qn, .int (nI tt), .int (nI kn), .ref qs, .ref qf])), (qs, .inl (cI, 81, .inl (aN sp))), (qa, .inl (cS, 9, .inr (.inr (.inr (.inr su)))))] ++ suT cI ad sa sv 9) sz) := by
  refine Met.ofW (cc := b_SQ_measureSteps) (maxL := 5) (ret := none) (by decide) rfl ?_
  intro p e s m args below meth c s₁ B hml hv
  obtain ⟨rfl, hsz, hP, hK, hD0⟩ := hv
  have hx := B.exec
  have hb := B.bytes
  have hr := B.returns
  have hts := gw_h (atoms_spec (ws := w_SQ_measureSteps) B.pre)
  have hown : s.vm.findClass R_SQ = some m.cls := findClass_of_methodNamed B.named
  have hlocks := B.notSynchronized
  subst hsz
  have hD := hD0.self (sz := s.heap.size)
  generalize hAe : va_A ([(q, .inr (3, [.ref qn, .int (nI tt), .int (nI kn), .ref qs, .ref qf])), (qs, .inl (cI, 81, .inl (aN sp))), (qa, .inl (cS, 9, .inr (.inr (.inr (.inr su)))))] ++ suT cI ad sa sv 9) s.heap.size = A at hD ⊢
  have hA : ∀ q : Nat, s.heap.size ≤ q → A q := fun q h => by rw [← hAe]; exact Or.inr h
  have hS : va_S A s.heap s.heap [] := va_S.rf
  have hP : va_P (dC, dI) vwCl ([(q, .inr (3, [.ref qn, .int (nI tt), .int (nI kn), .ref qs, .ref qf])), (qs, .inl (cI, 81, .inl (aN sp))), (qa, .inl (cS, 9, .inr (.inr (.inr (.inr su)))))] ++ suT cI ad sa sv 9) s.heap := hP
  have hl := lv_entry ([.ref q, .ref qa, .int (nI n)]) (n := 5) (Nat.le_of_ble_eq_true rfl)
  rw [lg_entry_eq]
  generalize (lg_sl ([.ref q, .ref qa, .int (nI n)]) ++ List.replicate (5 - (lg_sl ([.ref q, .ref qa, .int (nI n)])).length) Slot.unset).toArray = ls at hl ⊢
  have hl : lv_has ls 5 [(0, .ref q), (1, .ref qa), (2, .int (nI n))] := hl
  refine lv_iconst (v := nI 0) hx hb d_SQ_measureSteps_0 (by decide +kernel) ?_
  refine lv_istore_n (lv' := [(3, .int (nI 0)), (0, .ref q), (1, .ref qa), (2, .int (nI n))]) hx hb d_SQ_measureSteps_1 rfl hl (by decide) rfl (fun ls hl => ?_)
  have la : ∀ (n_la : Nat) (a9 : Nat) (sp : Nat → Nat), (n + 1 ≤ a9 + n_la) → (a9 ≤ n) → (∀ a', a' < n → ∀ b', b' < n → (a' < a9 ∨ (a' = a9 ∧ b' < 0)) → sp (a' * 9 + b') = MVc sa sv a' b') → ∀ (H : Heap) (locs : List Loc) (ls : Array Slot), va_P (dC, dI) vwCl ([(q, .inr (3, [.ref qn, .int (nI tt), .int (nI kn), .ref qs, .ref qf])), (qs, .inl (cI, 81, .inl (aN sp))), (qa, .inl (cS, 9, .inr (.inr (.inr (.inr su)))))] ++ suT cI ad sa sv 9) H → va_D A ([(q, .inr (3, [.ref qn, .int (nI tt), .int (nI kn), .ref qs, .ref qf])), (qs, .inl (cI, 81, .inl (aN sp))), (qa, .inl (cS, 9, .inr (.inr (.inr (.inr su)))))] ++ suT cI ad sa sv 9) → va_S A s.heap H locs → lv_has ls 5 [(0, .ref q), (1, .ref qa), (2, .int (nI n)), (3, .int (nI a9))] → W p l e (headSpec w_SQ_measureSteps { frames := 1, cells := 0, slots := 0, locals := 25 }).room s m [.ref q, .ref qa, .int (nI n)].toArray below meth c H locs 0 0 (MQ below (va_Qv (fun (u : (Nat → Nat)) => ∀ a, a < n → ∀ b, b < n → u (a * 9 + b) = MVc sa sv a b) (rw_B (dC, dI) vwCl [(cI, .int), (cS, .object "SlitWidths$SetUp")] A (fun u : (Nat → Nat) => ([(q, .inr (3, [.ref qn, .int (nI tt), .int (nI kn), .ref qs, .ref qf])), (qs, .inl (cI, 81, .inl (aN u))), (qa, .inl (cS, 9, .inr (.inr (.inr (.inr su)))))] ++ suT cI ad sa sv 9))) A) [.ref q, .ref qa, .int (nI n)].toArray s 0 0 A) (F0 m 2 ls []) := by
    intro n_la
    induction n_la with
    | zero =>
      intro a9 sp hma ha9 hI
      exact absurd hma (by omega)
    | succ n_la ih_la =>
      intro a9 sp hma ha9 hI H locs ls hP hD hS hl
      refine lv_iload_n hx hb d_SQ_measureSteps_2 rfl (lv_at hl 3 rfl) ?_
      refine lv_iload_n hx hb d_SQ_measureSteps_3 rfl (lv_at hl 2 rfl) ?_
      refine ix_icmp_ge (tgt := 50) hx hb (nI_tI (n := a9) (by omega)) (nI_tI (n := n) (by omega)) d_SQ_measureSteps_4 (by decide) (fun c_4 => ?_) (fun c_4 => ?_)
      · exact W.vret hx hb hr (fun t ht hW => ⟨⟨sp, rfl, fun a ha b hb => hI a ha b hb (by omega), by rw [ht]; exact hP, va_K.moved hW.alike hK, hD⟩, hS.F ht⟩) hS.2.2 d_SQ_measureSteps_50
      refine lv_iconst (v := nI 0) hx hb d_SQ_measureSteps_7 (by decide +kernel) ?_
      refine lv_istore (lv' := [(4, .int (nI 0)), (0, .ref q), (1, .ref qa), (2, .int (nI n)), (3, .int (nI a9))]) hx hb d_SQ_measureSteps_8 hl (by decide) rfl (fun ls hl => ?_)
      have lb : ∀ (n_lb : Nat) (b9 : Nat) (sp : Nat → Nat), (n + 1 ≤ b9 + n_lb) → (b9 ≤ n) → (∀ a', a' < n → ∀ b', b' < n → (a' < a9 ∨ (a' = a9 ∧ b' < b9)) → sp (a' * 9 + b') = MVc sa sv a' b') → ∀ (H : Heap) (locs : List Loc) (ls : Array Slot), va_P (dC, dI) vwCl ([(q, .inr (3, [.ref qn, .int (nI tt), .int (nI kn), .ref qs, .ref qf])), (qs, .inl (cI, 81, .inl (aN sp))), (qa, .inl (cS, 9, .inr (.inr (.inr (.inr su)))))] ++ suT cI ad sa sv 9) H → va_D A ([(q, .inr (3, [.ref qn, .int (nI tt), .int (nI kn), .ref qs, .ref qf])), (qs, .inl (cI, 81, .inl (aN sp))), (qa, .inl (cS, 9, .inr (.inr (.inr (.inr su)))))] ++ suT cI ad sa sv 9) → va_S A s.heap H locs → lv_has ls 5 [(0, .ref q), (1, .ref qa), (2, .int (nI n)), (3, .int (nI a9)), (4, .int (nI b9))] → W p l e (headSpec w_SQ_measureSteps { frames := 1, cells := 0, slots := 0, locals := 25 }).room s m [.ref q, .ref qa, .int (nI n)].toArray below meth c H locs 0 0 (MQ below (va_Qv (fun (u : (Nat → Nat)) => ∀ a, a < n → ∀ b, b < n → u (a * 9 + b) = MVc sa sv a b) (rw_B (dC, dI) vwCl [(cI, .int), (cS, .object "SlitWidths$SetUp")] A (fun u : (Nat → Nat) => ([(q, .inr (3, [.ref qn, .int (nI tt), .int (nI kn), .ref qs, .ref qf])), (qs, .inl (cI, 81, .inl (aN u))), (qa, .inl (cS, 9, .inr (.inr (.inr (.inr su)))))] ++ suT cI ad sa sv 9))) A) [.ref q, .ref qa, .int (nI n)].toArray s 0 0 A) (F0 m 10 ls []) := by
        intro n_lb
        induction n_lb with
        | zero =>
          intro b9 sp hmb hb9 hI
          exact absurd hmb (by omega)
        | succ n_lb ih_lb =>
          intro b9 sp hmb hb9 hI H locs ls hP hD hS hl
          refine lv_iload hx hb d_SQ_measureSteps_10 (lv_at hl 4 rfl) ?_
          refine lv_iload_n hx hb d_SQ_measureSteps_12 rfl (lv_at hl 2 rfl) ?_
          refine ix_icmp_ge (tgt := 44) hx hb (nI_tI (n := b9) (by omega)) (nI_tI (n := n) (by omega)) d_SQ_measureSteps_13 (by decide) (fun c_13 => ?_) (fun c_13 => ?_)
          · refine lv_iinc (v := nI (a9 + 1)) (lv' := [(3, .int (nI (a9 + 1))), (0, .ref q), (1, .ref qa), (2, .int (nI n)), (4, .int (nI b9))]) hx hb d_SQ_measureSteps_44 hl (k := 3) rfl (n_incN a9 1) (by decide) rfl (fun ls hl => ?_)
            refine lv_goto (tgt := 2) hx hb d_SQ_measureSteps_47 (by decide) ?_
            exact ih_la (a9 + 1) sp (by omega) (by omega) (fun a' h1 b' h2 h3 => hI a' h1 b' h2 (by omega)) _ _ _ hP hD hS (lv_sub hl [1, 2, 3, 0] rfl)
          refine lv_aload_n hx hb d_SQ_measureSteps_16 rfl (lv_at hl 0 rfl) ?_
          refine va_get (D := (dC, dI)) (ci := 3) (v := .ref qs) (C := R_SQ) (T := F_SQ) (N := 5) hx hb hts in_SQ hown hK hP 0 rfl rfl 3 (by decide) (hts _ m_163) (fun _ h9 => h9) rfl d_SQ_measureSteps_17 ?_
          refine lv_iload_n hx hb d_SQ_measureSteps_20 rfl (lv_at hl 3 rfl) ?_
          refine lv_bipush (v := nI 9) hx hb d_SQ_measureSteps_21 (by decide +kernel) ?_
          refine lv_imul hx hb d_SQ_measureSteps_23 ?_
          refine lv_topr (show _ = nI (a9 * 9) from nn_mul _ _) ?_
          refine lv_iload hx hb d_SQ_measureSteps_24 (lv_at hl 4 rfl) ?_
          refine lv_iadd hx hb d_SQ_measureSteps_26 ?_
          refine lv_topr (show _ = nI ((a9 * 9) + b9) from nn_add _ _) ?_
          refine lv_aload_n hx hb d_SQ_measureSteps_27 rfl (lv_at hl 1 rfl) ?_
          refine lv_iload hx hb d_SQ_measureSteps_28 (lv_at hl 4 rfl) ?_
          refine ix_aldq (i := b9) (v := ad b9 0) hx hb hK hP 2 1 rfl rfl (by omega) (by decide) (hsu _ (by omega)) d_SQ_measureSteps_30 ?_
          refine lv_aload_n hx hb d_SQ_measureSteps_31 rfl (lv_at hl 1 rfl) ?_
          refine lv_iload_n hx hb d_SQ_measureSteps_32 rfl (lv_at hl 3 rfl) ?_
          refine ix_aldq (i := a9) (v := ad a9 0) hx hb hK hP 2 1 rfl rfl (by omega) (by decide) (hsu _ (by omega)) d_SQ_measureSteps_33 ?_
          have hPc : va_P (dC, dI) vwCl _ H := ((su_at hP (i := b9) (by omega)).sub [0, 4] rfl).app ((su_at hP (i := a9) (by omega)).sub [0, 4] rfl)
          refine ro_calli (va_runV (As := [.ref (ad a9 0)]) (rest := [.int (nI ((a9 * 9) + b9)), .ref qs]) ⟨hx, hb, hml, hown, hts⟩ (c_SU_placesNotIn l dC dI (ad b9 0) (ad b9 1) (ad b9 2) (ad b9 3) (ad b9 4) (ad a9 0) (ad a9 1) (ad a9 2) (ad a9 3) (ad a9 4) cI (sa b9 3) (sa a9 3) (sv b9 0) (sv b9 1) (sv b9 2) (sv b9 3) (sv b9 4) (sv b9 5) (sv b9 6) (sv a9 0) (sv a9 1) (sv a9 2) (sv a9 3) (sv a9 4) (sv a9 5) (sv a9 6) (hko b9 (by omega)).1 (hko a9 (by omega)).1 (hko b9 (by omega)).2.1 (hko a9 (by omega)).2.1 (hko b9 (by omega)).2.2 (hko a9 (by omega)).2.2) (cwV 1 hts (gw_V m_282 m_283 m_284 m_7 m_285) rfl rfl rfl (by decide +kernel) ⟨Nat.le_of_ble_eq_true rfl, Nat.le_of_ble_eq_true rfl⟩) ⟨ro_blind, va_recv hK hPc (ci := 4) (q0 := 0) rfl rfl, fun U hU hW => ⟨rfl, by rw [hU]; exact hPc, va_K.moved hW.alike (hK.sub (tys' := [(cI, .int)]) [0] rfl)⟩⟩ rfl rfl hl.1 rfl (lv_room (Nat.le_of_ble_eq_true rfl)) d_SQ_measureSteps_34 ⟨Nat.le_of_ble_eq_true rfl, Nat.le_of_ble_eq_true rfl⟩) hS hP (fun r H locs er hP hS => ?_)
          subst er
          refine ix_iast (i := (a9 * 9) + b9) hx hb hK hP hD hS 1 0 rfl rfl (by omega) (by decide) d_SQ_measureSteps_37 (fun H locs hP hD hS => ?_)
          have hP : va_P (dC, dI) vwCl ([(q, .inr (3, [.ref qn, .int (nI tt), .int (nI kn), .ref qs, .ref qf])), (qs, .inl (cI, 81, .inl (aN (up sp ((a9 * 9) + b9) (MVc sa sv a9 b9))))), (qa, .inl (cS, 9, .inr (.inr (.inr (.inr su)))))] ++ suT cI ad sa sv 9) H := hP
          have hD : va_D A ([(q, .inr (3, [.ref qn, .int (nI tt), .int (nI kn), .ref qs, .ref qf])), (qs, .inl (cI, 81, .inl (aN (up sp ((a9 * 9) + b9) (MVc sa sv a9 b9))))), (qa, .inl (cS, 9, .inr (.inr (.inr (.inr su)))))] ++ suT cI ad sa sv 9) := hD
          refine lv_iinc (v := nI (b9 + 1)) (lv' := [(4, .int (nI (b9 + 1))), (0, .ref q), (1, .ref qa), (2, .int (nI n)), (3, .int (nI a9))]) hx hb d_SQ_measureSteps_38 hl (k := 4) rfl (n_incN b9 1) (by decide) rfl (fun ls hl => ?_)
          refine lv_goto (tgt := 10) hx hb d_SQ_measureSteps_41 (by decide) ?_
          exact ih_lb (b9 + 1) (up sp (a9 * 9 + b9) (MVc sa sv a9 b9)) (by omega) (by omega) (sp_put (F := MVc sa sv) hn hI (by omega) (by omega)) _ _ _ hP hD hS (lv_sub hl [1, 2, 3, 4, 0] rfl)
      exact lb (n + 1) 0 sp (by omega) (by omega) hI _ _ _ hP hD hS (lv_sub hl [1, 2, 3, 4, 0] rfl)
  exact la (n + 1) 0 sp (by omega) (by omega) (fun a' h1 b' h2 h3 => by omega) _ _ _ hP hD hS (lv_sub hl [1, 2, 3, 0] rfl)
