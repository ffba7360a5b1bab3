set_option maxHeartbeats 4000000 in
set_option maxRecDepth 100000 in
/-- step(last, next) -/
theorem c_SQ_step (l : Launch) (dC : Nat → ClassId) (dI : Nat → Nat → Nat) (q qn qs qf : Nat) (cI : ClassId) (sp : Nat → Nat) (tt kn : Nat) (la : Int) (nx : Nat) (h1 : la = -1 ∨ (0 ≤ la ∧ la < 9)) (h2 : nx < 9) : Met l y_SQ_step w_SQ_step { frames := 0, cells := 0, slots := 0, locals := 0 } (ro_Pc (dC, dI) vwCl [(cI, .int)] [.ref q, .int (zI la), .int (nI nx)] [(q, .inr (3, [.ref qn, .int (nI tt), .int (nI kn), .ref qs, .ref qf])), (qs, .inl (cI, 81, .inl (aN sp)))]) (ro_Qi (fun r => r = nI (stp sp la nx))) 0 0 ro_no := by
  refine Met.ofW (cc := b_SQ_step) (maxL := 3) (ret := (some .int)) (by decide) rfl ?_
  intro p e s m args below meth c s₁ B hml hv
  obtain ⟨rfl, hP, hK⟩ := hv
  have hx := B.exec
  have hb := B.bytes
  have hr := B.returns
  have hts := gw_h (atoms_spec (ws := w_SQ_step) B.pre)
  have hown : s.vm.findClass R_SQ = some m.cls := findClass_of_methodNamed B.named
  have hlocks := B.notSynchronized
  have hS : va_S ro_no s.heap s.heap [] := va_S.rf
  have hP : va_P (dC, dI) vwCl [(q, .inr (3, [.ref qn, .int (nI tt), .int (nI kn), .ref qs, .ref qf])), (qs, .inl (cI, 81, .inl (aN sp)))] s.heap := hP
  have hl := lv_entry ([.ref q, .int (zI la), .int (nI nx)]) (n := 3) (Nat.le_of_ble_eq_true rfl)
  rw [lg_entry_eq]
  generalize (lg_sl ([.ref q, .int (zI la), .int (nI nx)]) ++ List.replicate (3 - (lg_sl ([.ref q, .int (zI la), .int (nI nx)])).length) Slot.unset).toArray = ls at hl ⊢
  have hl : lv_has ls 3 [(0, .ref q), (1, .int (zI la)), (2, .int (nI nx))] := hl
  refine lv_iload_n hx hb d_SQ_step_0 rfl (lv_at hl 1 rfl) ?_
  refine lv_iconst (v := zI (-1)) hx hb d_SQ_step_1 (by decide +kernel) ?_
  refine ix_icmp_ne (tgt := 9) hx hb (zI_toInt (z := la) (by omega) (by omega)) (zI_toInt (z := -1) (by omega) (by omega)) d_SQ_step_2 (by decide) (fun c_2 => ?_) (fun c_2 => ?_)
  · refine lv_aload_n hx hb d_SQ_step_9 rfl (lv_at hl 0 rfl) ?_
    refine va_get (D := (dC, dI)) (ci := 3) (v := .ref qs) (C := R_SQ) (T := F_SQ) (N := 5) hx hb hts in_SQ hown hK hP 0 rfl rfl 3 (by decide) (hts _ m_163) (fun _ h9 => h9) rfl d_SQ_step_10 ?_
    refine lv_iload_n hx hb d_SQ_step_13 rfl (lv_at hl 1 rfl) ?_
    refine lv_bipush (v := nI 9) hx hb d_SQ_step_14 (by decide +kernel) ?_
    refine lv_imul hx hb d_SQ_step_16 ?_
    refine lv_topr (show _ = zI (la * ((9 : Nat) : Int)) from zn_mul _ _) ?_
    refine lv_iload_n hx hb d_SQ_step_17 rfl (lv_at hl 2 rfl) ?_
    refine lv_iadd hx hb d_SQ_step_18 ?_
    refine lv_topr (show _ = zI ((la * ((9 : Nat) : Int)) + ((nx : Nat) : Int)) from zn_add _ _) ?_
    refine lv_topr (show _ = nI (la.toNat * 9 + nx) from z_toN (by omega)) ?_
    refine ix_ialdN (i := la.toNat * 9 + nx) hx hb hK hP 1 0 rfl rfl (by omega) (by decide) d_SQ_step_19 ?_
    exact W.iret (v := nI (sp (la.toNat * 9 + nx))) hx hb hr (fun t ht hW => ⟨⟨nI (sp (la.toNat * 9 + nx)), (), rfl, by unfold stp; rw [if_neg (by omega)], trivial⟩, hS.F ht⟩) hS.2.2 d_SQ_step_20
  refine lv_iconst (v := nI 0) hx hb d_SQ_step_5 (by decide +kernel) ?_
  refine lv_goto (tgt := 20) hx hb d_SQ_step_6 (by decide) ?_
  exact W.iret (v := nI 0) hx hb hr (fun t ht hW => ⟨⟨nI 0, (), rfl, by unfold stp; rw [if_pos (by omega)], trivial⟩, hS.F ht⟩) hS.2.2 d_SQ_step_20
set_option maxHeartbeats 4000000 in
set_option maxRecDepth 100000 in
/-- through(set, last, next) -/
theorem c_SQ_through (l : Launch) (dC : Nat → ClassId) (dI : Nat → Nat → Nat) (q qn qs qf : Nat) (cI : ClassId) (sp fw : Nat → Nat) (tt kn S : Nat) (la : Int) (nx : Nat) (h1 : la = -1 ∨ (0 ≤ la ∧ la < 9)) (h2 : nx < 9) (h3 : S < 512) : Met l y_SQ_through w_SQ_through { frames := 1, cells := 0, slots := 0, locals := 22 } (ro_Pc (dC, dI) vwCl [(cI, .int)] [.ref q, .int (nI S), .int (zI la), .int (nI nx)] [(q, .inr (3, [.ref qn, .int (nI tt), .int (nI kn), .ref qs, .ref qf])), (qs, .inl (cI, 81, .inl (aN sp))), (qf, .inl (cI, 4608, .inl (aN fw)))]) (ro_Qi (fun r => r = nI (thr sp fw S la nx))) 0 0 ro_no := by
  refine Met.ofW (cc := b_SQ_through) (maxL := 4) (ret := (some .int)) (by decide) rfl ?_
  intro p e s m args below meth c s₁ B hml hv
  obtain ⟨rfl, hP, hK⟩ := hv
  have hx := B.exec
  have hb := B.bytes
  have hr := B.returns
  have hts := gw_h (atoms_spec (ws := w_SQ_through) B.pre)
  have hown : s.vm.findClass R_SQ = some m.cls := findClass_of_methodNamed B.named
  have hlocks := B.notSynchronized
  have hS : va_S ro_no s.heap s.heap [] := va_S.rf
  have hP : va_P (dC, dI) vwCl [(q, .inr (3, [.ref qn, .int (nI tt), .int (nI kn), .ref qs, .ref qf])), (qs, .inl (cI, 81, .inl (aN sp))), (qf, .inl (cI, 4608, .inl (aN fw)))] s.heap := hP
  have hl := lv_entry ([.ref q, .int (nI S), .int (zI la), .int (nI nx)]) (n := 4) (Nat.le_of_ble_eq_true rfl)
  rw [lg_entry_eq]
  generalize (lg_sl ([.ref q, .int (nI S), .int (zI la), .int (nI nx)]) ++ List.replicate (4 - (lg_sl ([.ref q, .int (nI S), .int (zI la), .int (nI nx)])).length) Slot.unset).toArray = ls at hl ⊢
  have hl : lv_has ls 4 [(0, .ref q), (1, .int (nI S)), (2, .int (zI la)), (3, .int (nI nx))] := hl
  have hc := clr_le S nx
  refine lv_aload_n hx hb d_SQ_through_0 rfl (lv_at hl 0 rfl) ?_
  refine lv_iload_n hx hb d_SQ_through_1 rfl (lv_at hl 2 rfl) ?_
  refine lv_iload_n hx hb d_SQ_through_2 rfl (lv_at hl 3 rfl) ?_
  have hPc := hP.sub (ws' := [(q, .inr (3, [.ref qn, .int (nI tt), .int (nI kn), .ref qs, .ref qf])), (qs, .inl (cI, 81, .inl (aN sp)))]) [0, 1] rfl
  refine ro_calli (va_runV (As := [.int (zI la), .int (nI nx)]) (rest := []) ⟨hx, hb, hml, hown, hts⟩ (c_SQ_step l dC dI q qn qs qf cI sp tt kn la nx h1 h2) (cwV 2 hts (gw_V m_298 m_300 s_7 m_6 m_301) rfl rfl rfl (by decide +kernel) ⟨Nat.le_of_ble_eq_true rfl, Nat.le_of_ble_eq_true rfl⟩) ⟨ro_blind, va_recv hK hPc (ci := 3) (q0 := 0) rfl rfl, fun U hU hW => ⟨rfl, by rw [hU]; exact hPc, va_K.moved hW.alike hK⟩⟩ rfl rfl hl.1 rfl (lv_room (Nat.le_of_ble_eq_true rfl)) d_SQ_through_3 ⟨Nat.le_of_ble_eq_true rfl, Nat.le_of_ble_eq_true rfl⟩) hS hP (fun r H locs er hP hS => ?_)
  subst er
  refine lv_aload_n hx hb d_SQ_through_6 rfl (lv_at hl 0 rfl) ?_
  refine va_get (D := (dC, dI)) (ci := 3) (v := .ref qf) (C := R_SQ) (T := F_SQ) (N := 5) hx hb hts in_SQ hown hK hP 0 rfl rfl 4 (by decide) (hts _ m_164) (fun _ h9 => h9) rfl d_SQ_through_7 ?_
  refine lv_iload_n hx hb d_SQ_through_10 rfl (lv_at hl 1 rfl) ?_
  refine lv_iconst (v := nI 1) hx hb d_SQ_through_11 (by decide +kernel) ?_
  refine lv_iload_n hx hb d_SQ_through_12 rfl (lv_at hl 3 rfl) ?_
  refine lv_ishl hx hb d_SQ_through_13 ?_
  refine lv_iconst (v := zI (-1)) hx hb d_SQ_through_14 (by decide +kernel) ?_
  refine lv_ixor hx hb d_SQ_through_15 ?_
  refine lv_iand hx hb d_SQ_through_16 ?_
  refine lv_topr (show _ = nI (clr S nx) from bt_clr S h3 nx h2) ?_
  refine lv_bipush (v := nI 9) hx hb d_SQ_through_17 (by decide +kernel) ?_
  refine lv_imul hx hb d_SQ_through_19 ?_
  refine lv_topr (show _ = nI ((clr S nx) * 9) from nn_mul _ _) ?_
  refine lv_iload_n hx hb d_SQ_through_20 rfl (lv_at hl 3 rfl) ?_
  refine lv_iadd hx hb d_SQ_through_21 ?_
  refine lv_topr (show _ = nI (((clr S nx) * 9) + nx) from nn_add _ _) ?_
  refine ix_ialdN (i := ((clr S nx) * 9) + nx) hx hb hK hP 2 0 rfl rfl (by omega) (by decide) d_SQ_through_22 ?_
  refine lv_iadd hx hb d_SQ_through_23 ?_
  refine lv_topr (show _ = nI ((stp sp la nx) + (fw (((clr S nx) * 9) + nx))) from nn_add _ _) ?_
  exact W.iret (v := nI ((stp sp la nx) + (fw (((clr S nx) * 9) + nx)))) hx hb hr (fun t ht hW => ⟨⟨nI ((stp sp la nx) + (fw (((clr S nx) * 9) + nx))), (), rfl, rfl, trivial⟩, hS.F ht⟩) hS.2.2 d_SQ_through_24
set_option maxHeartbeats 4000000 in
set_option maxRecDepth 100000 in
/-- lowestNext(set, last, count) -/
theorem c_SQ_lowestNext (l : Launch) (dC : Nat → ClassId) (dI : Nat → Nat → Nat) (q qn qs qf : Nat) (cI : ClassId) (sp fw : Nat → Nat) (tt kn S : Nat) (la : Int) (n : Nat) (h1 : la = -1 ∨ (0 ≤ la ∧ la < 9)) (h2 : n ≤ 9) (h3 : S < 512) (h4 : ∀ x, x < n → bit S x = 1 → thr sp fw S la x < 2147483648) : Met l y_SQ_lowestNext w_SQ_lowestNext { frames := 2, cells := 0, slots := 0, locals := 45 } (ro_Pc (dC, dI) vwCl [(cI, .int)] [.ref q, .int (nI S), .int (zI la), .int (nI n)] [(q, .inr (3, [.ref qn, .int (nI tt), .int (nI kn), .ref qs, .ref qf])), (qs, .inl (cI, 81, .inl (aN sp))), (qf, .inl (cI, 4608, .inl (aN fw)))]) (ro_Qi (fun r => ∃ z, r = zI z ∧ LN (thr sp fw S la) S n z)) 0 0 ro_no := by
  refine Met.ofW (cc := b_SQ_lowestNext) (maxL := 8) (ret := (some .int)) (by decide) rfl ?_
  intro p e s m args below meth c s₁ B hml hv
  obtain ⟨rfl, hP, hK⟩ := hv
  have hx := B.exec
  have hb := B.bytes
  have hr := B.returns
  have hts := gw_h (atoms_spec (ws := w_SQ_lowestNext) B.pre)
  have hown : s.vm.findClass R_SQ = some m.cls := findClass_of_methodNamed B.named
  have hlocks := B.notSynchronized
  have hS : va_S ro_no s.heap s.heap [] := va_S.rf
  have hP : va_P (dC, dI) vwCl [(q, .inr (3, [.ref qn, .int (nI tt), .int (nI kn), .ref qs, .ref qf])), (qs, .inl (cI, 81, .inl (aN sp))), (qf, .inl (cI, 4608, .inl (aN fw)))] s.heap := hP
  have hl := lv_entry ([.ref q, .int (nI S), .int (zI la), .int (nI n)]) (n := 8) (Nat.le_of_ble_eq_true rfl)
  rw [lg_entry_eq]
  generalize (lg_sl ([.ref q, .int (nI S), .int (zI la), .int (nI n)]) ++ List.replicate (8 - (lg_sl ([.ref q, .int (nI S), .int (zI la), .int (nI n)])).length) Slot.unset).toArray = ls at hl ⊢
  have hl : lv_has ls 8 [(0, .ref q), (1, .int (nI S)), (2, .int (zI la)), (3, .int (nI n))] := hl
  refine lv_iconst (v := zI (-1)) hx hb d_SQ_lowestNext_0 (by decide +kernel) ?_
  refine lv_istore (lv' := [(4, .int (zI (-1))), (0, .ref q), (1, .int (nI S)), (2, .int (zI la)), (3, .int (nI n))]) hx hb d_SQ_lowestNext_1 hl (by decide) rfl (fun ls hl => ?_)
  refine lv_iconst (v := nI 0) hx hb d_SQ_lowestNext_3 (by decide +kernel) ?_
  refine lv_istore (lv' := [(5, .int (nI 0)), (4, .int (zI (-1))), (0, .ref q), (1, .int (nI S)), (2, .int (zI la)), (3, .int (nI n))]) hx hb d_SQ_lowestNext_4 hl (by decide) rfl (fun ls hl => ?_)
  refine lv_iconst (v := nI 0) hx hb d_SQ_lowestNext_6 (by decide +kernel) ?_
  refine lv_istore (lv' := [(6, .int (nI 0)), (5, .int (nI 0)), (4, .int (zI (-1))), (0, .ref q), (1, .int (nI S)), (2, .int (zI la)), (3, .int (nI n))]) hx hb d_SQ_lowestNext_7 hl (by decide) rfl (fun ls hl => ?_)
  have out : ∀ (n_out : Nat) (b : Nat) (lo : Int) (le : Nat), (n + 1 ≤ b + n_out) → (b ≤ n) → (LNI (thr sp fw S la) S b lo le) → (le < 2147483648) → ∀ (H : Heap) (locs : List Loc) (ls : Array Slot), va_P (dC, dI) vwCl [(q, .inr (3, [.ref qn, .int (nI tt), .int (nI kn), .ref qs, .ref qf])), (qs, .inl (cI, 81, .inl (aN sp))), (qf, .inl (cI, 4608, .inl (aN fw)))] H → va_S ro_no s.heap H locs → lv_has ls 8 [(0, .ref q), (1, .int (nI S)), (2, .int (zI la)), (3, .int (nI n)), (4, .int (zI lo)), (5, .int (nI le)), (6, .int (nI b))] → W p l e (headSpec w_SQ_lowestNext { frames := 2, cells := 0, slots := 0, locals := 45 }).room s m [.ref q, .int (nI S), .int (zI la), .int (nI n)].toArray below meth c H locs 0 0 (MQ below (ro_Qi (fun r => ∃ z, r = zI z ∧ LN (thr sp fw S la) S n z)) [.ref q, .int (nI S), .int (zI la), .int (nI n)].toArray s 0 0 ro_no) (F0 m 9 ls []) := by
    intro n_out
    induction n_out with
    | zero =>
      intro b lo le hm hbn hI hle
      exact absurd hm (by omega)
    | succ n_out ih_out =>
      intro b lo le hm hbn hI hle H locs ls hP hS hl
      refine lv_iload hx hb d_SQ_lowestNext_9 (lv_at hl 6 rfl) ?_
      refine lv_iload_n hx hb d_SQ_lowestNext_11 rfl (lv_at hl 3 rfl) ?_
      refine ix_icmp_ge (tgt := 61) hx hb (nI_tI (n := b) (by omega)) (nI_tI (n := n) (by omega)) d_SQ_lowestNext_12 (by decide) (fun c_12 => ?_) (fun c_12 => ?_)
      · refine lv_iload hx hb d_SQ_lowestNext_61 (lv_at hl 4 rfl) ?_
        have hbe : b = n := by omega
        exact W.iret (v := zI lo) hx hb hr (fun t ht hW => ⟨⟨zI lo, (), rfl, ⟨_, rfl, hbe ▸ hI.ln⟩, trivial⟩, hS.F ht⟩) hS.2.2 d_SQ_lowestNext_63
      refine lv_iload_n hx hb d_SQ_lowestNext_15 rfl (lv_at hl 1 rfl) ?_
      refine lv_iload hx hb d_SQ_lowestNext_16 (lv_at hl 6 rfl) ?_
      refine lv_ishr hx hb d_SQ_lowestNext_18 ?_
      refine lv_iconst (v := nI 1) hx hb d_SQ_lowestNext_19 (by decide +kernel) ?_
      refine lv_iand hx hb d_SQ_lowestNext_20 ?_
      have hb01 := bit_01 S b
      refine lv_topr (show _ = nI (bit S b) from bt_bit S h3 b (by omega)) ?_
      refine ix_if_eq (tgt := 55) hx hb (nI_tI (n := bit S b) (by omega)) d_SQ_lowestNext_21 (by decide) (fun c_21 => ?_) (fun c_21 => ?_)
      · refine lv_iinc (v := nI (b + 1)) (lv' := [(6, .int (nI (b + 1))), (0, .ref q), (1, .int (nI S)), (2, .int (zI la)), (3, .int (nI n)), (4, .int (zI lo)), (5, .int (nI le))]) hx hb d_SQ_lowestNext_55 hl (k := 6) rfl (n_incN b 1) (by decide) rfl (fun ls hl => ?_)
        refine lv_goto (tgt := 9) hx hb d_SQ_lowestNext_58 (by decide) ?_
        exact ih_out (b + 1) lo le (by omega) (by omega) (hI.skip (by omega)) hle _ _ _ hP hS (lv_sub hl [1, 2, 3, 4, 5, 6, 0] rfl)
      have hb1 : bit S b = 1 := by omega
      have hth := h4 b (by omega) hb1
      have hrg := hI.range
      refine lv_aload_n hx hb d_SQ_lowestNext_24 rfl (lv_at hl 0 rfl) ?_
      refine lv_iload_n hx hb d_SQ_lowestNext_25 rfl (lv_at hl 1 rfl) ?_
      refine lv_iload_n hx hb d_SQ_lowestNext_26 rfl (lv_at hl 2 rfl) ?_
      refine lv_iload hx hb d_SQ_lowestNext_27 (lv_at hl 6 rfl) ?_
      have hPc := hP.sub (ws' := [(q, .inr (3, [.ref qn, .int (nI tt), .int (nI kn), .ref qs, .ref qf])), (qs, .inl (cI, 81, .inl (aN sp))), (qf, .inl (cI, 4608, .inl (aN fw)))]) [0, 1, 2] rfl
      refine ro_calli (va_runV (As := [.int (nI S), .int (zI la), .int (nI b)]) (rest := []) ⟨hx, hb, hml, hown, hts⟩ (c_SQ_through l dC dI q qn qs qf cI sp fw tt kn S la b h1 (by omega) h3) (cwV 3 hts (gw_V m_294 m_296 s_6 m_6 m_297) rfl rfl rfl (by decide +kernel) ⟨Nat.le_of_ble_eq_true rfl, Nat.le_of_ble_eq_true rfl⟩) ⟨ro_blind, va_recv hK hPc (ci := 3) (q0 := 0) rfl rfl, fun U hU hW => ⟨rfl, by rw [hU]; exact hPc, va_K.moved hW.alike hK⟩⟩ rfl rfl hl.1 rfl (lv_room (Nat.le_of_ble_eq_true rfl)) d_SQ_lowestNext_29 ⟨Nat.le_of_ble_eq_true rfl, Nat.le_of_ble_eq_true rfl⟩) hS hP (fun r H locs er hP hS => ?_)
      subst er
      refine lv_istore (lv' := [(7, .int (nI (thr sp fw S la b))), (0, .ref q), (1, .int (nI S)), (2, .int (zI la)), (3, .int (nI n)), (4, .int (zI lo)), (5, .int (nI le)), (6, .int (nI b))]) hx hb d_SQ_lowestNext_32 hl (by decide) rfl (fun ls hl => ?_)
      refine lv_iload hx hb d_SQ_lowestNext_34 (lv_at hl 5 rfl) ?_
      refine lv_iconst (v := zI (-1)) hx hb d_SQ_lowestNext_36 (by decide +kernel) ?_
      refine ix_icmp_eq (tgt := 47) hx hb (zI_toInt (z := lo) (by omega) (by omega)) (zI_toInt (z := -1) (by omega) (by omega)) d_SQ_lowestNext_37 (by decide) (fun c_37 => ?_) (fun c_37 => ?_)
      · refine lv_iload hx hb d_SQ_lowestNext_47 (lv_at hl 7 rfl) ?_
        refine lv_topr (show _ = zI (b : Int) from zI_n b) ?_
        refine lv_istore (lv' := [(4, .int (zI (b : Int))), (7, .int (nI (thr sp fw S la b))), (0, .ref q), (1, .int (nI S)), (2, .int (zI la)), (3, .int (nI n)), (5, .int (nI le)), (6, .int (nI b))]) hx hb d_SQ_lowestNext_49 hl (by decide) rfl (fun ls hl => ?_)
        refine lv_iload hx hb d_SQ_lowestNext_51 (lv_at hl 1 rfl) ?_
        refine lv_istore (lv' := [(5, .int (nI (thr sp fw S la b))), (4, .int (zI (b : Int))), (7, .int (nI (thr sp fw S la b))), (0, .ref q), (1, .int (nI S)), (2, .int (zI la)), (3, .int (nI n)), (6, .int (nI b))]) hx hb d_SQ_lowestNext_53 hl (by decide) rfl (fun ls hl => ?_)
        refine lv_iinc (v := nI (b + 1)) (lv' := [(6, .int (nI (b + 1))), (5, .int (nI (thr sp fw S la b))), (4, .int (zI (b : Int))), (7, .int (nI (thr sp fw S la b))), (0, .ref q), (1, .int (nI S)), (2, .int (zI la)), (3, .int (nI n))]) hx hb d_SQ_lowestNext_55 hl (k := 7) rfl (n_incN b 1) (by decide) rfl (fun ls hl => ?_)
        refine lv_goto (tgt := 9) hx hb d_SQ_lowestNext_58 (by decide) ?_
        exact ih_out (b + 1) (b : Int) (thr sp fw S la b) (by omega) (by omega) (hI.take hb1 (by omega)) hth _ _ _ hP hS (lv_sub hl [4, 5, 6, 7, 2, 1, 0] rfl)
      refine lv_iload hx hb d_SQ_lowestNext_40 (lv_at hl 0 rfl) ?_
      refine lv_iload hx hb d_SQ_lowestNext_42 (lv_at hl 6 rfl) ?_
      refine ix_icmp_ge (tgt := 55) hx hb (nI_tI (n := thr sp fw S la b) (by omega)) (nI_tI (n := le) (by omega)) d_SQ_lowestNext_44 (by decide) (fun c_44 => ?_) (fun c_44 => ?_)
      · refine lv_iinc (v := nI (b + 1)) (lv' := [(6, .int (nI (b + 1))), (7, .int (nI (thr sp fw S la b))), (0, .ref q), (1, .int (nI S)), (2, .int (zI la)), (3, .int (nI n)), (4, .int (zI lo)), (5, .int (nI le))]) hx hb d_SQ_lowestNext_55 hl (k := 7) rfl (n_incN b 1) (by decide) rfl (fun ls hl => ?_)
        refine lv_goto (tgt := 9) hx hb d_SQ_lowestNext_58 (by decide) ?_
        exact ih_out (b + 1) lo le (by omega) (by omega) (hI.keep (by omega) (by omega)) hle _ _ _ hP hS (lv_sub hl [2, 3, 4, 5, 6, 7, 0] rfl)
      refine lv_iload hx hb d_SQ_lowestNext_47 (lv_at hl 7 rfl) ?_
      refine lv_topr (show _ = zI (b : Int) from zI_n b) ?_
      refine lv_istore (lv' := [(4, .int (zI (b : Int))), (7, .int (nI (thr sp fw S la b))), (0, .ref q), (1, .int (nI S)), (2, .int (zI la)), (3, .int (nI n)), (5, .int (nI le)), (6, .int (nI b))]) hx hb d_SQ_lowestNext_49 hl (by decide) rfl (fun ls hl => ?_)
      refine lv_iload hx hb d_SQ_lowestNext_51 (lv_at hl 1 rfl) ?_
      refine lv_istore (lv' := [(5, .int (nI (thr sp fw S la b))), (4, .int (zI (b : Int))), (7, .int (nI (thr sp fw S la b))), (0, .ref q), (1, .int (nI S)), (2, .int (zI la)), (3, .int (nI n)), (6, .int (nI b))]) hx hb d_SQ_lowestNext_53 hl (by decide) rfl (fun ls hl => ?_)
      refine lv_iinc (v := nI (b + 1)) (lv' := [(6, .int (nI (b + 1))), (5, .int (nI (thr sp fw S la b))), (4, .int (zI (b : Int))), (7, .int (nI (thr sp fw S la b))), (0, .ref q), (1, .int (nI S)), (2, .int (zI la)), (3, .int (nI n))]) hx hb d_SQ_lowestNext_55 hl (k := 7) rfl (n_incN b 1) (by decide) rfl (fun ls hl => ?_)
      refine lv_goto (tgt := 9) hx hb d_SQ_lowestNext_58 (by decide) ?_
      exact ih_out (b + 1) (b : Int) (thr sp fw S la b) (by omega) (by omega) (hI.take hb1 (by omega)) hth _ _ _ hP hS (lv_sub hl [4, 5, 6, 7, 2, 1, 0] rfl)
  exact out (n + 1) 0 (-1) 0 (by omega) (by omega) (LNI.init _ S 0) (by decide) _ _ _ hP hS (lv_sub hl [3, 4, 5, 6, 2, 1, 0] rfl)
