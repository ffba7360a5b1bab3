set_option maxHeartbeats 4000000 in
set_option maxRecDepth 100000 in
/-- thrown() -/
theorem c_MO_thrown (l : Launch) (dC : Nat → ClassId) (dI : Nat → Nat → Nat) (z g : Nat → Nat) (cI : ClassId) : Met l y_MO_thrown w_MO_thrown { frames := 0, cells := 0, slots := 0, locals := 0 } (ro_Pc (dC, dI) vwCl [(cI, .int)] [.ref (z 0)] [(z 0, .inr (7, [.int (nI (g 0)), .int (nI (g 1)), .int (nI (g 2)), .int (nI (g 3)), .int (nI (g 4)), .int (nI (g 5)), .int (nI (g 6)), .ref (z 1), .ref (z 2), .ref (z 3), .ref (z 4), .int (nI (g 7)), .ref (z 5), .ref (z 6), .ref (z 7), .ref (z 8), .ref (z 9), .ref (z 10), .int (nI (g 8)), .ref (z 11), .ref (z 12), .ref (z 13), .ref (z 14)]))]) (ro_Qi (fun r => r = nI (g 0))) 0 0 ro_no := by
  refine Met.ofW (cc := b_MO_thrown) (maxL := 1) (ret := (some .int)) (by decide) rfl ?_
  intro p e s m args below meth c s₁ B hml hv
  obtain ⟨rfl, hP, hK⟩ := hv
  have hx := B.exec
  have hb := B.bytes
  have hr := B.returns
  have hts := gw_h (atoms_spec (ws := w_MO_thrown) B.pre)
  have hown : s.vm.findClass R_MO = some m.cls := findClass_of_methodNamed B.named
  have hlocks := B.notSynchronized
  have hS : va_S ro_no s.heap s.heap [] := va_S.rf
  have hP : va_P (dC, dI) vwCl [(z 0, .inr (7, [.int (nI (g 0)), .int (nI (g 1)), .int (nI (g 2)), .int (nI (g 3)), .int (nI (g 4)), .int (nI (g 5)), .int (nI (g 6)), .ref (z 1), .ref (z 2), .ref (z 3), .ref (z 4), .int (nI (g 7)), .ref (z 5), .ref (z 6), .ref (z 7), .ref (z 8), .ref (z 9), .ref (z 10), .int (nI (g 8)), .ref (z 11), .ref (z 12), .ref (z 13), .ref (z 14)]))] s.heap := hP
  have hl := lv_entry ([.ref (z 0)]) (n := 1) (Nat.le_of_ble_eq_true rfl)
  rw [lg_entry_eq]
  generalize (lg_sl ([.ref (z 0)]) ++ List.replicate (1 - (lg_sl ([.ref (z 0)])).length) Slot.unset).toArray = ls at hl ⊢
  have hl : lv_has ls 1 [(0, .ref (z 0))] := hl
  refine lv_aload_n hx hb d_MO_thrown_0 rfl (lv_at hl 0 rfl) ?_
  refine va_get (D := (dC, dI)) (ci := 7) (v := .int (nI (g 0))) (C := R_MO) (T := F_MO) (N := 23) hx hb hts in_MO hown hK hP 0 rfl rfl 0 (by decide) (hts _ m_572) (fun _ h9 => h9) rfl d_MO_thrown_1 ?_
  exact W.iret (v := nI (g 0)) hx hb hr (fun t ht hW => ⟨⟨nI (g 0), (), rfl, rfl, trivial⟩, hS.F ht⟩) hS.2.2 d_MO_thrown_4
set_option maxHeartbeats 4000000 in
set_option maxRecDepth 100000 in
/-- in(v, low, high) -/
theorem c_MO_in (l : Launch) (dC : Nat → ClassId) (dI : Nat → Nat → Nat) (cI : ClassId) (v9 a9 b9 : Int) (hv : -2147483648 ≤ v9 ∧ v9 < 2147483648) (ha : -2147483648 ≤ a9 ∧ a9 < 2147483648) (hb9 : -2147483648 ≤ b9 ∧ b9 < 2147483648) : Met l y_MO_in w_MO_in { frames := 0, cells := 0, slots := 0, locals := 0 } (ro_Pc (dC, dI) vwCl [(cI, .int)] [.int (zI v9), .int (zI a9), .int (zI b9)] []) (ro_Qi (fun r => r = nI (b01 (a9 ≤ v9 ∧ v9 ≤ b9)))) 0 0 ro_no := by
  refine Met.ofW (cc := b_MO_in) (maxL := 3) (ret := (some .boolean)) (by decide) rfl ?_
  intro p e s m args below meth c s₁ B hml hv
  obtain ⟨rfl, hP, hK⟩ := hv
  have hx := B.exec
  have hb := B.bytes
  have hr := B.returns
  have hts := gw_h (atoms_spec (ws := w_MO_in) B.pre)
  have hown : s.vm.findClass R_MO = some m.cls := findClass_of_methodNamed B.named
  have hlocks := B.notSynchronized
  have hS : va_S ro_no s.heap s.heap [] := va_S.rf
  have hP : va_P (dC, dI) vwCl [] s.heap := hP
  have hl := lv_entry ([.int (zI v9), .int (zI a9), .int (zI b9)]) (n := 3) (Nat.le_of_ble_eq_true rfl)
  rw [lg_entry_eq]
  generalize (lg_sl ([.int (zI v9), .int (zI a9), .int (zI b9)]) ++ List.replicate (3 - (lg_sl ([.int (zI v9), .int (zI a9), .int (zI b9)])).length) Slot.unset).toArray = ls at hl ⊢
  have hl : lv_has ls 3 [(0, .int (zI v9)), (1, .int (zI a9)), (2, .int (zI b9))] := hl
  refine lv_iload_n hx hb d_MO_in_0 rfl (lv_at hl 0 rfl) ?_
  refine lv_iload_n hx hb d_MO_in_1 rfl (lv_at hl 1 rfl) ?_
  refine ix_icmp_lt (tgt := 14) hx hb (zI_toInt (z := v9) (by omega) (by omega)) (zI_toInt (z := a9) (by omega) (by omega)) d_MO_in_2 (by decide) (fun c_2 => ?_) (fun c_2 => ?_)
  · refine lv_iconst (v := nI 0) hx hb d_MO_in_14 (by decide +kernel) ?_
    exact W.zret (v := nI 0) (ty := .boolean) hx hb hr (by decide +kernel) (fun t ht hW => ⟨⟨nI 0, (), rfl, by rw [b01_f (by omega)], trivial⟩, hS.F ht⟩) hS.2.2 d_MO_in_15
  refine lv_iload_n hx hb d_MO_in_5 rfl (lv_at hl 0 rfl) ?_
  refine lv_iload_n hx hb d_MO_in_6 rfl (lv_at hl 2 rfl) ?_
  refine ix_icmp_gt (tgt := 14) hx hb (zI_toInt (z := v9) (by omega) (by omega)) (zI_toInt (z := b9) (by omega) (by omega)) d_MO_in_7 (by decide) (fun c_7 => ?_) (fun c_7 => ?_)
  · refine lv_iconst (v := nI 0) hx hb d_MO_in_14 (by decide +kernel) ?_
    exact W.zret (v := nI 0) (ty := .boolean) hx hb hr (by decide +kernel) (fun t ht hW => ⟨⟨nI 0, (), rfl, by rw [b01_f (by omega)], trivial⟩, hS.F ht⟩) hS.2.2 d_MO_in_15
  refine lv_iconst (v := nI 1) hx hb d_MO_in_10 (by decide +kernel) ?_
  refine lv_goto (tgt := 15) hx hb d_MO_in_11 (by decide) ?_
  exact W.zret (v := nI 1) (ty := .boolean) hx hb hr (by decide +kernel) (fun t ht hW => ⟨⟨nI 1, (), rfl, by rw [b01_t (by omega)], trivial⟩, hS.F ht⟩) hS.2.2 d_MO_in_15
set_option maxHeartbeats 4000000 in
set_option maxRecDepth 100000 in
/-- isSetup(s) -/
theorem c_MO_isSetup (l : Launch) (dC : Nat → ClassId) (dI : Nat → Nat → Nat) (z g : Nat → Nat) (cI : ClassId) (v9 : Int) (hv : -2147483648 ≤ v9 ∧ v9 < 2147483648) (h7 : g 7 ≤ 9) : Met l y_MO_isSetup w_MO_isSetup { frames := 1, cells := 0, slots := 0, locals := 22 } (ro_Pc (dC, dI) vwCl [(cI, .int)] [.ref (z 0), .int (zI v9)] [(z 0, .inr (7, [.int (nI (g 0)), .int (nI (g 1)), .int (nI (g 2)), .int (nI (g 3)), .int (nI (g 4)), .int (nI (g 5)), .int (nI (g 6)), .ref (z 1), .ref (z 2), .ref (z 3), .ref (z 4), .int (nI (g 7)), .ref (z 5), .ref (z 6), .ref (z 7), .ref (z 8), .ref (z 9), .ref (z 10), .int (nI (g 8)), .ref (z 11), .ref (z 12), .ref (z 13), .ref (z 14)]))]) (ro_Qi (fun r => r = nI (b01 (0 ≤ v9 ∧ v9 < g 7)))) 0 0 ro_no := by
  refine Met.ofW (cc := b_MO_isSetup) (maxL := 2) (ret := (some .boolean)) (by decide) rfl ?_
  intro p e s m args below meth c s₁ B hml hv
  obtain ⟨rfl, hP, hK⟩ := hv
  have hx := B.exec
  have hb := B.bytes
  have hr := B.returns
  have hts := gw_h (atoms_spec (ws := w_MO_isSetup) B.pre)
  have hown : s.vm.findClass R_MO = some m.cls := findClass_of_methodNamed B.named
  have hlocks := B.notSynchronized
  have hS : va_S ro_no s.heap s.heap [] := va_S.rf
  have hP : va_P (dC, dI) vwCl [(z 0, .inr (7, [.int (nI (g 0)), .int (nI (g 1)), .int (nI (g 2)), .int (nI (g 3)), .int (nI (g 4)), .int (nI (g 5)), .int (nI (g 6)), .ref (z 1), .ref (z 2), .ref (z 3), .ref (z 4), .int (nI (g 7)), .ref (z 5), .ref (z 6), .ref (z 7), .ref (z 8), .ref (z 9), .ref (z 10), .int (nI (g 8)), .ref (z 11), .ref (z 12), .ref (z 13), .ref (z 14)]))] s.heap := hP
  have hl := lv_entry ([.ref (z 0), .int (zI v9)]) (n := 2) (Nat.le_of_ble_eq_true rfl)
  rw [lg_entry_eq]
  generalize (lg_sl ([.ref (z 0), .int (zI v9)]) ++ List.replicate (2 - (lg_sl ([.ref (z 0), .int (zI v9)])).length) Slot.unset).toArray = ls at hl ⊢
  have hl : lv_has ls 2 [(0, .ref (z 0)), (1, .int (zI v9))] := hl
  refine lv_iload_n hx hb d_MO_isSetup_0 rfl (lv_at hl 1 rfl) ?_
  refine lv_iconst (v := nI 0) hx hb d_MO_isSetup_1 (by decide +kernel) ?_
  refine lv_topr (show _ = zI 0 from zI_n 0) ?_
  refine lv_aload_n hx hb d_MO_isSetup_2 rfl (lv_at hl 0 rfl) ?_
  refine va_get (D := (dC, dI)) (ci := 7) (v := .int (nI (g 7))) (C := R_MO) (T := F_MO) (N := 23) hx hb hts in_MO hown hK hP 0 rfl rfl 11 (by decide) (hts _ m_583) (fun _ h9 => h9) rfl d_MO_isSetup_3 ?_
  refine lv_iconst (v := nI 1) hx hb d_MO_isSetup_6 (by decide +kernel) ?_
  refine lv_isub hx hb d_MO_isSetup_7 ?_
  refine lv_topr (show _ = zI (((g 7 : Nat) : Int) - ((1 : Nat) : Int)) from nn_sub _ _) ?_
  refine lv_topr (show _ = zI ((g 7 : Int) - 1) from congrArg zI (by omega)) ?_
  refine ro_calli (va_runS (As := [.int (zI v9), .int (zI 0), .int (zI ((g 7 : Int) - 1))]) (rest := []) ⟨hx, hb, hml, hown, hts⟩ (c_MO_in l dC dI cI v9 0 ((g 7 : Int) - 1) hv (by omega) (by omega)) (va_cwS 3 hts (gw_S m_650 m_651 m_8 m_652) rfl rfl rfl (by decide +kernel) ⟨Nat.le_of_ble_eq_true rfl, Nat.le_of_ble_eq_true rfl⟩) ⟨ro_blind, fun U hU hW => ⟨rfl, fun k q h => by simp at h, va_K.moved hW.alike hK⟩⟩ rfl rfl hl.1 rfl (lv_room (Nat.le_of_ble_eq_true rfl)) d_MO_isSetup_8 ⟨Nat.le_of_ble_eq_true rfl, Nat.le_of_ble_eq_true rfl⟩) hS hP (fun r H locs er hP hS => ?_)
  subst er
  have e9 : b01 (0 ≤ v9 ∧ v9 ≤ (g 7 : Int) - 1) = b01 (0 ≤ v9 ∧ v9 < (g 7 : Int)) := by unfold b01; split <;> split <;> omega
  rcases (show b01 (0 ≤ v9 ∧ v9 ≤ (g 7 : Int) - 1) = 0 ∨ b01 (0 ≤ v9 ∧ v9 ≤ (g 7 : Int) - 1) = 1 by have := @b01_le (0 ≤ v9 ∧ v9 ≤ (g 7 : Int) - 1) _; omega) with h | h
  · rw [h]
    exact W.zret (v := nI 0) (ty := .boolean) hx hb hr (by decide +kernel) (fun t ht hW => ⟨⟨nI 0, (), rfl, by rw [← e9, h], trivial⟩, hS.F ht⟩) hS.2.2 d_MO_isSetup_11
  · rw [h]
    exact W.zret (v := nI 1) (ty := .boolean) hx hb hr (by decide +kernel) (fun t ht hW => ⟨⟨nI 1, (), rfl, by rw [← e9, h], trivial⟩, hS.F ht⟩) hS.2.2 d_MO_isSetup_11
set_option maxHeartbeats 4000000 in
set_option maxRecDepth 100000 in
/-- many(s) -/
theorem c_MO_many (l : Launch) (dC : Nat → ClassId) (dI : Nat → Nat → Nat) (z g : Nat → Nat) (cI : ClassId) (ss : Nat → Nat) (s9 : Nat) (hs9 : s9 < 9) : Met l y_MO_many w_MO_many { frames := 0, cells := 0, slots := 0, locals := 0 } (ro_Pc (dC, dI) vwCl [(cI, .int)] [.ref (z 0), .int (nI s9)] [(z 0, .inr (7, [.int (nI (g 0)), .int (nI (g 1)), .int (nI (g 2)), .int (nI (g 3)), .int (nI (g 4)), .int (nI (g 5)), .int (nI (g 6)), .ref (z 1), .ref (z 2), .ref (z 3), .ref (z 4), .int (nI (g 7)), .ref (z 5), .ref (z 6), .ref (z 7), .ref (z 8), .ref (z 9), .ref (z 10), .int (nI (g 8)), .ref (z 11), .ref (z 12), .ref (z 13), .ref (z 14)])), (z 10, .inl (cI, 45, .inl (aN ss)))]) (ro_Qi (fun r => r = nI (sumN (fun w => ss (5 * s9 + w)) 5))) 0 0 ro_no := by
  refine Met.ofW (cc := b_MO_many) (maxL := 4) (ret := (some .int)) (by decide) rfl ?_
  intro p e s m args below meth c s₁ B hml hv
  obtain ⟨rfl, hP, hK⟩ := hv
  have hx := B.exec
  have hb := B.bytes
  have hr := B.returns
  have hts := gw_h (atoms_spec (ws := w_MO_many) B.pre)
  have hown : s.vm.findClass R_MO = some m.cls := findClass_of_methodNamed B.named
  have hlocks := B.notSynchronized
  have hS : va_S ro_no s.heap s.heap [] := va_S.rf
  have hP : va_P (dC, dI) vwCl [(z 0, .inr (7, [.int (nI (g 0)), .int (nI (g 1)), .int (nI (g 2)), .int (nI (g 3)), .int (nI (g 4)), .int (nI (g 5)), .int (nI (g 6)), .ref (z 1), .ref (z 2), .ref (z 3), .ref (z 4), .int (nI (g 7)), .ref (z 5), .ref (z 6), .ref (z 7), .ref (z 8), .ref (z 9), .ref (z 10), .int (nI (g 8)), .ref (z 11), .ref (z 12), .ref (z 13), .ref (z 14)])), (z 10, .inl (cI, 45, .inl (aN ss)))] s.heap := hP
  have hl := lv_entry ([.ref (z 0), .int (nI s9)]) (n := 4) (Nat.le_of_ble_eq_true rfl)
  rw [lg_entry_eq]
  generalize (lg_sl ([.ref (z 0), .int (nI s9)]) ++ List.replicate (4 - (lg_sl ([.ref (z 0), .int (nI s9)])).length) Slot.unset).toArray = ls at hl ⊢
  have hl : lv_has ls 4 [(0, .ref (z 0)), (1, .int (nI s9))] := hl
  refine lv_iconst (v := nI 0) hx hb d_MO_many_0 (by decide +kernel) ?_
  refine lv_istore_n (lv' := [(2, .int (nI 0)), (0, .ref (z 0)), (1, .int (nI s9))]) hx hb d_MO_many_1 rfl hl (by decide) rfl (fun ls hl => ?_)
  refine lv_iconst (v := nI 0) hx hb d_MO_many_2 (by decide +kernel) ?_
  refine lv_istore_n (lv' := [(3, .int (nI 0)), (2, .int (nI 0)), (0, .ref (z 0)), (1, .int (nI s9))]) hx hb d_MO_many_3 rfl hl (by decide) rfl (fun ls hl => ?_)
  have lp : ∀ (n_lp : Nat) (i9 : Nat) (n9 : Nat), (6 ≤ i9 + n_lp) → (i9 ≤ 5) → (n9 = sumN (fun w => ss (5 * s9 + w)) i9) → ∀ (H : Heap) (locs : List Loc) (ls : Array Slot), va_P (dC, dI) vwCl [(z 0, .inr (7, [.int (nI (g 0)), .int (nI (g 1)), .int (nI (g 2)), .int (nI (g 3)), .int (nI (g 4)), .int (nI (g 5)), .int (nI (g 6)), .ref (z 1), .ref (z 2), .ref (z 3), .ref (z 4), .int (nI (g 7)), .ref (z 5), .ref (z 6), .ref (z 7), .ref (z 8), .ref (z 9), .ref (z 10), .int (nI (g 8)), .ref (z 11), .ref (z 12), .ref (z 13), .ref (z 14)])), (z 10, .inl (cI, 45, .inl (aN ss)))] H → va_S ro_no s.heap H locs → lv_has ls 4 [(0, .ref (z 0)), (1, .int (nI s9)), (2, .int (nI n9)), (3, .int (nI i9))] → W p l e (headSpec w_MO_many { frames := 0, cells := 0, slots := 0, locals := 0 }).room s m [.ref (z 0), .int (nI s9)].toArray below meth c H locs 0 0 (MQ below (ro_Qi (fun r => r = nI (sumN (fun w => ss (5 * s9 + w)) 5))) [.ref (z 0), .int (nI s9)].toArray s 0 0 ro_no) (F0 m 4 ls []) := by
    intro n_lp
    induction n_lp with
    | zero =>
      intro i9 n9 hm hi hn
      exact absurd hm (by omega)
    | succ n_lp ih_lp =>
      intro i9 n9 hm hi hn H locs ls hP hS hl
      refine lv_iload_n hx hb d_MO_many_4 rfl (lv_at hl 3 rfl) ?_
      refine lv_iconst (v := nI 5) hx hb d_MO_many_5 (by decide +kernel) ?_
      refine ix_icmp_ge (tgt := 28) hx hb (nI_tI (n := i9) (by omega)) (nI_tI (n := 5) (by omega)) d_MO_many_6 (by decide) (fun c_6 => ?_) (fun c_6 => ?_)
      · refine lv_iload_n hx hb d_MO_many_28 rfl (lv_at hl 2 rfl) ?_
        exact W.iret (v := nI n9) hx hb hr (fun t ht hW => ⟨⟨nI n9, (), rfl, by rw [hn, show i9 = 5 by omega], trivial⟩, hS.F ht⟩) hS.2.2 d_MO_many_29
      refine lv_iload_n hx hb d_MO_many_9 rfl (lv_at hl 2 rfl) ?_
      refine lv_aload_n hx hb d_MO_many_10 rfl (lv_at hl 0 rfl) ?_
      refine va_get (D := (dC, dI)) (ci := 7) (v := .ref (z 10)) (C := R_MO) (T := F_MO) (N := 23) hx hb hts in_MO hown hK hP 0 rfl rfl 17 (by decide) (hts _ m_589) (fun _ h9 => h9) rfl d_MO_many_11 ?_
      refine lv_iconst (v := nI 5) hx hb d_MO_many_14 (by decide +kernel) ?_
      refine lv_iload_n hx hb d_MO_many_15 rfl (lv_at hl 1 rfl) ?_
      refine lv_imul hx hb d_MO_many_16 ?_
      refine lv_topr (show _ = nI (5 * s9) from nn_mul _ _) ?_
      refine lv_iload_n hx hb d_MO_many_17 rfl (lv_at hl 3 rfl) ?_
      refine lv_iadd hx hb d_MO_many_18 ?_
      refine lv_topr (show _ = nI ((5 * s9) + i9) from nn_add _ _) ?_
      refine ix_ialdN (i := (5 * s9) + i9) hx hb hK hP 1 0 rfl rfl (by omega) (by decide) d_MO_many_19 ?_
      refine lv_iadd hx hb d_MO_many_20 ?_
      refine lv_topr (show _ = nI (n9 + (ss ((5 * s9) + i9))) from nn_add _ _) ?_
      refine lv_istore_n (lv' := [(2, .int (nI (n9 + (ss ((5 * s9) + i9))))), (0, .ref (z 0)), (1, .int (nI s9)), (3, .int (nI i9))]) hx hb d_MO_many_21 rfl hl (by decide) rfl (fun ls hl => ?_)
      refine lv_iinc (v := nI (i9 + 1)) (lv' := [(3, .int (nI (i9 + 1))), (2, .int (nI (n9 + (ss ((5 * s9) + i9))))), (0, .ref (z 0)), (1, .int (nI s9))]) hx hb d_MO_many_22 hl (k := 3) rfl (n_incN i9 1) (by decide) rfl (fun ls hl => ?_)
      refine lv_goto (tgt := 4) hx hb d_MO_many_25 (by decide) ?_
      exact ih_lp (i9 + 1) (n9 + (ss ((5 * s9) + i9))) (by omega) (by omega) (by rw [hn]; rfl) _ _ _ hP hS (lv_sub hl [2, 3, 1, 0] rfl)
  exact lp 6 0 0 (by omega) (by omega) rfl _ _ _ hP hS (lv_sub hl [2, 3, 1, 0] rfl)
set_option maxHeartbeats 4000000 in
set_option maxRecDepth 100000 in
/-- wantOf(s, k): the k-th strip's wanted width -/
theorem c_MO_wantOf (l : Launch) (dC : Nat → ClassId) (dI : Nat → Nat → Nat) (z g : Nat → Nat) (cI : ClassId) (ss nu : Nat → Nat) (s9 k9 : Nat) (hs9 : s9 < 9) (hW9 : HW (fun w => ss (5 * s9 + w)) nu) (hk9 : k9 < sumN (fun w => ss (5 * s9 + w)) 5) (hb9 : ∀ w, w < 5 → ss (5 * s9 + w) ≤ 1000) (hk8 : k9 < 1000000) : Met l y_MO_wantOf w_MO_wantOf { frames := 0, cells := 0, slots := 0, locals := 0 } (ro_Pc (dC, dI) vwCl [(cI, .int)] [.ref (z 0), .int (nI s9), .int (nI k9)] [(z 0, .inr (7, [.int (nI (g 0)), .int (nI (g 1)), .int (nI (g 2)), .int (nI (g 3)), .int (nI (g 4)), .int (nI (g 5)), .int (nI (g 6)), .ref (z 1), .ref (z 2), .ref (z 3), .ref (z 4), .int (nI (g 7)), .ref (z 5), .ref (z 6), .ref (z 7), .ref (z 8), .ref (z 9), .ref (z 10), .int (nI (g 8)), .ref (z 11), .ref (z 12), .ref (z 13), .ref (z 14)])), (z 10, .inl (cI, 45, .inl (aN ss)))]) (ro_Qi (fun r => r = nI (nu k9))) 0 0 ro_no := by
  refine Met.ofW (cc := b_MO_wantOf) (maxL := 5) (ret := (some .int)) (by decide) rfl ?_
  intro p e s m args below meth c s₁ B hml hv
  obtain ⟨rfl, hP, hK⟩ := hv
  have hx := B.exec
  have hb := B.bytes
  have hr := B.returns
  have hts := gw_h (atoms_spec (ws := w_MO_wantOf) B.pre)
  have hown : s.vm.findClass R_MO = some m.cls := findClass_of_methodNamed B.named
  have hlocks := B.notSynchronized
  have hS : va_S ro_no s.heap s.heap [] := va_S.rf
  have hP : va_P (dC, dI) vwCl [(z 0, .inr (7, [.int (nI (g 0)), .int (nI (g 1)), .int (nI (g 2)), .int (nI (g 3)), .int (nI (g 4)), .int (nI (g 5)), .int (nI (g 6)), .ref (z 1), .ref (z 2), .ref (z 3), .ref (z 4), .int (nI (g 7)), .ref (z 5), .ref (z 6), .ref (z 7), .ref (z 8), .ref (z 9), .ref (z 10), .int (nI (g 8)), .ref (z 11), .ref (z 12), .ref (z 13), .ref (z 14)])), (z 10, .inl (cI, 45, .inl (aN ss)))] s.heap := hP
  have hl := lv_entry ([.ref (z 0), .int (nI s9), .int (nI k9)]) (n := 5) (Nat.le_of_ble_eq_true rfl)
  rw [lg_entry_eq]
  generalize (lg_sl ([.ref (z 0), .int (nI s9), .int (nI k9)]) ++ List.replicate (5 - (lg_sl ([.ref (z 0), .int (nI s9), .int (nI k9)])).length) Slot.unset).toArray = ls at hl ⊢
  have hl : lv_has ls 5 [(0, .ref (z 0)), (1, .int (nI s9)), (2, .int (nI k9))] := hl
  obtain ⟨hwa, hwb, hwc⟩ := hW9 k9 hk9
  refine lv_iconst (v := nI 0) hx hb d_MO_wantOf_0 (by decide +kernel) ?_
  refine lv_istore_n (lv' := [(3, .int (nI 0)), (0, .ref (z 0)), (1, .int (nI s9)), (2, .int (nI k9))]) hx hb d_MO_wantOf_1 rfl hl (by decide) rfl (fun ls hl => ?_)
  refine lv_iload_n hx hb d_MO_wantOf_2 rfl (lv_at hl 3 rfl) ?_
  refine lv_istore (lv' := [(4, .int (nI k9)), (3, .int (nI 0)), (0, .ref (z 0)), (1, .int (nI s9)), (2, .int (nI k9))]) hx hb d_MO_wantOf_3 hl (by decide) rfl (fun ls hl => ?_)
  have lp : ∀ (n_lp : Nat) (i9 : Nat) (l9 : Nat), (6 ≤ i9 + n_lp) → (i9 ≤ 5) → (l9 + sumN (fun w => ss (5 * s9 + w)) i9 = k9) → ∀ (H : Heap) (locs : List Loc) (ls : Array Slot), va_P (dC, dI) vwCl [(z 0, .inr (7, [.int (nI (g 0)), .int (nI (g 1)), .int (nI (g 2)), .int (nI (g 3)), .int (nI (g 4)), .int (nI (g 5)), .int (nI (g 6)), .ref (z 1), .ref (z 2), .ref (z 3), .ref (z 4), .int (nI (g 7)), .ref (z 5), .ref (z 6), .ref (z 7), .ref (z 8), .ref (z 9), .ref (z 10), .int (nI (g 8)), .ref (z 11), .ref (z 12), .ref (z 13), .ref (z 14)])), (z 10, .inl (cI, 45, .inl (aN ss)))] H → va_S ro_no s.heap H locs → lv_has ls 5 [(0, .ref (z 0)), (1, .int (nI s9)), (2, .int (nI k9)), (3, .int (nI i9)), (4, .int (nI l9))] → W p l e (headSpec w_MO_wantOf { frames := 0, cells := 0, slots := 0, locals := 0 }).room s m [.ref (z 0), .int (nI s9), .int (nI k9)].toArray below meth c H locs 0 0 (MQ below (ro_Qi (fun r => r = nI (nu k9))) [.ref (z 0), .int (nI s9), .int (nI k9)].toArray s 0 0 ro_no) (F0 m 5 ls []) := by
    intro n_lp
    induction n_lp with
    | zero =>
      intro i9 l9 hm hi hl9
      exact absurd hm (by omega)
    | succ n_lp ih_lp =>
      intro i9 l9 hm hi hl9 H locs ls hP hS hl
      have hi5 : i9 < 5 := by
        rcases Nat.lt_or_ge i9 5 with h | h
        · exact h
        · have := sumN_mono (f := (fun w => ss (5 * s9 + w))) h
          omega
      have hbi := hb9 i9 hi5
      refine lv_iload hx hb d_MO_wantOf_5 (lv_at hl 4 rfl) ?_
      refine lv_aload_n hx hb d_MO_wantOf_7 rfl (lv_at hl 0 rfl) ?_
      refine va_get (D := (dC, dI)) (ci := 7) (v := .ref (z 10)) (C := R_MO) (T := F_MO) (N := 23) hx hb hts in_MO hown hK hP 0 rfl rfl 17 (by decide) (hts _ m_589) (fun _ h9 => h9) rfl d_MO_wantOf_8 ?_
      refine lv_iconst (v := nI 5) hx hb d_MO_wantOf_11 (by decide +kernel) ?_
      refine lv_iload_n hx hb d_MO_wantOf_12 rfl (lv_at hl 1 rfl) ?_
      refine lv_imul hx hb d_MO_wantOf_13 ?_
      refine lv_topr (show _ = nI (5 * s9) from nn_mul _ _) ?_
      refine lv_iload_n hx hb d_MO_wantOf_14 rfl (lv_at hl 3 rfl) ?_
      refine lv_iadd hx hb d_MO_wantOf_15 ?_
      refine lv_topr (show _ = nI ((5 * s9) + i9) from nn_add _ _) ?_
      refine ix_ialdN (i := (5 * s9) + i9) hx hb hK hP 1 0 rfl rfl (by omega) (by decide) d_MO_wantOf_16 ?_
      refine ix_icmp_lt (tgt := 41) hx hb (nI_tI (n := l9) (by omega)) (nI_tI (n := ss ((5 * s9) + i9)) (by omega)) d_MO_wantOf_17 (by decide) (fun c_17 => ?_) (fun c_17 => ?_)
      · refine lv_iload_n hx hb d_MO_wantOf_41 rfl (lv_at hl 3 rfl) ?_
        have e9 : i9 = nu k9 := wo_uniq (f := (fun w => ss (5 * s9 + w))) (k := k9) (by omega) (by show k9 < sumN (fun w => ss (5 * s9 + w)) i9 + ss (5 * s9 + i9); omega) hwa hwb
        exact W.iret (v := nI i9) hx hb hr (fun t ht hW => ⟨⟨nI i9, (), rfl, by rw [e9], trivial⟩, hS.F ht⟩) hS.2.2 d_MO_wantOf_42
      refine lv_iload hx hb d_MO_wantOf_20 (lv_at hl 4 rfl) ?_
      refine lv_aload_n hx hb d_MO_wantOf_22 rfl (lv_at hl 0 rfl) ?_
      refine va_get (D := (dC, dI)) (ci := 7) (v := .ref (z 10)) (C := R_MO) (T := F_MO) (N := 23) hx hb hts in_MO hown hK hP 0 rfl rfl 17 (by decide) (hts _ m_589) (fun _ h9 => h9) rfl d_MO_wantOf_23 ?_
      refine lv_iconst (v := nI 5) hx hb d_MO_wantOf_26 (by decide +kernel) ?_
      refine lv_iload_n hx hb d_MO_wantOf_27 rfl (lv_at hl 1 rfl) ?_
      refine lv_imul hx hb d_MO_wantOf_28 ?_
      refine lv_topr (show _ = nI (5 * s9) from nn_mul _ _) ?_
      refine lv_iload_n hx hb d_MO_wantOf_29 rfl (lv_at hl 3 rfl) ?_
      refine lv_iadd hx hb d_MO_wantOf_30 ?_
      refine lv_topr (show _ = nI ((5 * s9) + i9) from nn_add _ _) ?_
      refine ix_ialdN (i := (5 * s9) + i9) hx hb hK hP 1 0 rfl rfl (by omega) (by decide) d_MO_wantOf_31 ?_
      refine lv_isub hx hb d_MO_wantOf_32 ?_
      refine lv_topr (show _ = nI (l9 - (ss ((5 * s9) + i9))) from nn_subN (by omega)) ?_
      refine lv_istore (lv' := [(4, .int (nI (l9 - (ss ((5 * s9) + i9))))), (0, .ref (z 0)), (1, .int (nI s9)), (2, .int (nI k9)), (3, .int (nI i9))]) hx hb d_MO_wantOf_33 hl (by decide) rfl (fun ls hl => ?_)
      refine lv_iinc (v := nI (i9 + 1)) (lv' := [(3, .int (nI (i9 + 1))), (4, .int (nI (l9 - (ss ((5 * s9) + i9))))), (0, .ref (z 0)), (1, .int (nI s9)), (2, .int (nI k9))]) hx hb d_MO_wantOf_35 hl (k := 4) rfl (n_incN i9 1) (by decide) rfl (fun ls hl => ?_)
      refine lv_goto (tgt := 5) hx hb d_MO_wantOf_38 (by decide) ?_
      exact ih_lp (i9 + 1) (l9 - (ss ((5 * s9) + i9))) (by omega) (by omega) (by show _ + (sumN (fun w => ss (5 * s9 + w)) i9 + ss (5 * s9 + i9)) = k9; omega) _ _ _ hP hS (lv_sub hl [2, 3, 4, 0, 1] rfl)
  exact lp 6 0 k9 (by omega) (by omega) rfl _ _ _ hP hS (lv_sub hl [2, 3, 4, 1, 0] rfl)
set_option maxHeartbeats 4000000 in
set_option maxRecDepth 100000 in
/-- beginOf(s, k) -/
theorem c_MO_beginOf (l : Launch) (dC : Nat → ClassId) (dI : Nat → Nat → Nat) (z g : Nat → Nat) (cI : ClassId) (ww sf sl ss nu : Nat → Nat) (s9 k9 : Nat) (hs9 : s9 < 9) (hW9 : HW (fun w => ss (5 * s9 + w)) nu) (hk9 : k9 ≤ sumN (fun w => ss (5 * s9 + w)) 5) (hb9 : ∀ w, w < 5 → ss (5 * s9 + w) ≤ 1000) (hk8 : k9 < 1000000) : Met l y_MO_beginOf w_MO_beginOf { frames := 1, cells := 0, slots := 0, locals := 24 } (ro_Pc (dC, dI) vwCl [(cI, .int)] [.ref (z 0), .int (nI s9), .int (nI k9)] [(z 0, .inr (7, [.int (nI (g 0)), .int (nI (g 1)), .int (nI (g 2)), .int (nI (g 3)), .int (nI (g 4)), .int (nI (g 5)), .int (nI (g 6)), .ref (z 1), .ref (z 2), .ref (z 3), .ref (z 4), .int (nI (g 7)), .ref (z 5), .ref (z 6), .ref (z 7), .ref (z 8), .ref (z 9), .ref (z 10), .int (nI (g 8)), .ref (z 11), .ref (z 12), .ref (z 13), .ref (z 14)])), (z 1, .inl (cI, 5, .inl (aN ww))), (z 8, .inl (cI, 9, .inl (aN sf))), (z 9, .inl (cI, 9, .inl (aN sl))), (z 10, .inl (cI, 45, .inl (aN ss)))]) (ro_Qi (fun r => r = nI (sl s9 + bgm ww nu (sf s9) k9))) 0 0 ro_no := by
  refine Met.ofW (cc := b_MO_beginOf) (maxL := 5) (ret := (some .int)) (by decide) rfl ?_
  intro p e s m args below meth c s₁ B hml hv
  obtain ⟨rfl, hP, hK⟩ := hv
  have hx := B.exec
  have hb := B.bytes
  have hr := B.returns
  have hts := gw_h (atoms_spec (ws := w_MO_beginOf) B.pre)
  have hown : s.vm.findClass R_MO = some m.cls := findClass_of_methodNamed B.named
  have hlocks := B.notSynchronized
  have hS : va_S ro_no s.heap s.heap [] := va_S.rf
  have hP : va_P (dC, dI) vwCl [(z 0, .inr (7, [.int (nI (g 0)), .int (nI (g 1)), .int (nI (g 2)), .int (nI (g 3)), .int (nI (g 4)), .int (nI (g 5)), .int (nI (g 6)), .ref (z 1), .ref (z 2), .ref (z 3), .ref (z 4), .int (nI (g 7)), .ref (z 5), .ref (z 6), .ref (z 7), .ref (z 8), .ref (z 9), .ref (z 10), .int (nI (g 8)), .ref (z 11), .ref (z 12), .ref (z 13), .ref (z 14)])), (z 1, .inl (cI, 5, .inl (aN ww))), (z 8, .inl (cI, 9, .inl (aN sf))), (z 9, .inl (cI, 9, .inl (aN sl))), (z 10, .inl (cI, 45, .inl (aN ss)))] s.heap := hP
  have hl := lv_entry ([.ref (z 0), .int (nI s9), .int (nI k9)]) (n := 5) (Nat.le_of_ble_eq_true rfl)
  rw [lg_entry_eq]
  generalize (lg_sl ([.ref (z 0), .int (nI s9), .int (nI k9)]) ++ List.replicate (5 - (lg_sl ([.ref (z 0), .int (nI s9), .int (nI k9)])).length) Slot.unset).toArray = ls at hl ⊢
  have hl : lv_has ls 5 [(0, .ref (z 0)), (1, .int (nI s9)), (2, .int (nI k9))] := hl
  refine lv_aload_n hx hb d_MO_beginOf_0 rfl (lv_at hl 0 rfl) ?_
  refine va_get (D := (dC, dI)) (ci := 7) (v := .ref (z 9)) (C := R_MO) (T := F_MO) (N := 23) hx hb hts in_MO hown hK hP 0 rfl rfl 16 (by decide) (hts _ m_588) (fun _ h9 => h9) rfl d_MO_beginOf_1 ?_
  refine lv_iload_n hx hb d_MO_beginOf_4 rfl (lv_at hl 1 rfl) ?_
  refine ix_ialdN (i := s9) hx hb hK hP 3 0 rfl rfl (by omega) (by decide) d_MO_beginOf_5 ?_
  refine lv_istore_n (lv' := [(3, .int (nI (sl s9))), (0, .ref (z 0)), (1, .int (nI s9)), (2, .int (nI k9))]) hx hb d_MO_beginOf_6 rfl hl (by decide) rfl (fun ls hl => ?_)
  refine lv_iconst (v := nI 0) hx hb d_MO_beginOf_7 (by decide +kernel) ?_
  refine lv_istore (lv' := [(4, .int (nI 0)), (3, .int (nI (sl s9))), (0, .ref (z 0)), (1, .int (nI s9)), (2, .int (nI k9))]) hx hb d_MO_beginOf_8 hl (by decide) rfl (fun ls hl => ?_)
  have lp : ∀ (n_lp : Nat) (i9 : Nat) (a9 : Nat), (k9 + 1 ≤ i9 + n_lp) → (i9 ≤ k9) → (a9 = sl s9 + bgm ww nu (sf s9) i9) → ∀ (H : Heap) (locs : List Loc) (ls : Array Slot), va_P (dC, dI) vwCl [(z 0, .inr (7, [.int (nI (g 0)), .int (nI (g 1)), .int (nI (g 2)), .int (nI (g 3)), .int (nI (g 4)), .int (nI (g 5)), .int (nI (g 6)), .ref (z 1), .ref (z 2), .ref (z 3), .ref (z 4), .int (nI (g 7)), .ref (z 5), .ref (z 6), .ref (z 7), .ref (z 8), .ref (z 9), .ref (z 10), .int (nI (g 8)), .ref (z 11), .ref (z 12), .ref (z 13), .ref (z 14)])), (z 1, .inl (cI, 5, .inl (aN ww))), (z 8, .inl (cI, 9, .inl (aN sf))), (z 9, .inl (cI, 9, .inl (aN sl))), (z 10, .inl (cI, 45, .inl (aN ss)))] H → va_S ro_no s.heap H locs → lv_has ls 5 [(0, .ref (z 0)), (1, .int (nI s9)), (2, .int (nI k9)), (3, .int (nI a9)), (4, .int (nI i9))] → W p l e (headSpec w_MO_beginOf { frames := 1, cells := 0, slots := 0, locals := 24 }).room s m [.ref (z 0), .int (nI s9), .int (nI k9)].toArray below meth c H locs 0 0 (MQ below (ro_Qi (fun r => r = nI (sl s9 + bgm ww nu (sf s9) k9))) [.ref (z 0), .int (nI s9), .int (nI k9)].toArray s 0 0 ro_no) (F0 m 10 ls []) := by
    intro n_lp
    induction n_lp with
    | zero =>
      intro i9 a9 hm hi ha9
      exact absurd hm (by omega)
    | succ n_lp ih_lp =>
      intro i9 a9 hm hi ha9 H locs ls hP hS hl
      refine lv_iload hx hb d_MO_beginOf_10 (lv_at hl 4 rfl) ?_
      refine lv_iload_n hx hb d_MO_beginOf_12 rfl (lv_at hl 2 rfl) ?_
      refine ix_icmp_ge (tgt := 44) hx hb (nI_tI (n := i9) (by omega)) (nI_tI (n := k9) (by omega)) d_MO_beginOf_13 (by decide) (fun c_13 => ?_) (fun c_13 => ?_)
      · refine lv_iload_n hx hb d_MO_beginOf_44 rfl (lv_at hl 3 rfl) ?_
        exact W.iret (v := nI a9) hx hb hr (fun t ht hW => ⟨⟨nI a9, (), rfl, by rw [ha9, show i9 = k9 by omega], trivial⟩, hS.F ht⟩) hS.2.2 d_MO_beginOf_45
      refine lv_iload_n hx hb d_MO_beginOf_16 rfl (lv_at hl 3 rfl) ?_
      refine lv_aload_n hx hb d_MO_beginOf_17 rfl (lv_at hl 0 rfl) ?_
      refine va_get (D := (dC, dI)) (ci := 7) (v := .ref (z 1)) (C := R_MO) (T := F_MO) (N := 23) hx hb hts in_MO hown hK hP 0 rfl rfl 7 (by decide) (hts _ m_579) (fun _ h9 => h9) rfl d_MO_beginOf_18 ?_
      refine lv_aload_n hx hb d_MO_beginOf_21 rfl (lv_at hl 0 rfl) ?_
      refine lv_iload_n hx hb d_MO_beginOf_22 rfl (lv_at hl 1 rfl) ?_
      refine lv_iload hx hb d_MO_beginOf_23 (lv_at hl 4 rfl) ?_
      have hPc := hP.sub (ws' := [(z 0, .inr (7, [.int (nI (g 0)), .int (nI (g 1)), .int (nI (g 2)), .int (nI (g 3)), .int (nI (g 4)), .int (nI (g 5)), .int (nI (g 6)), .ref (z 1), .ref (z 2), .ref (z 3), .ref (z 4), .int (nI (g 7)), .ref (z 5), .ref (z 6), .ref (z 7), .ref (z 8), .ref (z 9), .ref (z 10), .int (nI (g 8)), .ref (z 11), .ref (z 12), .ref (z 13), .ref (z 14)])), (z 10, .inl (cI, 45, .inl (aN ss)))]) [0, 4] rfl
      refine ro_calli (va_runV (As := [.int (nI s9), .int (nI i9)]) (rest := [.ref (z 1), .int (nI a9)]) ⟨hx, hb, hml, hown, hts⟩ (c_MO_wantOf l dC dI z g cI ss nu s9 i9 hs9 hW9 (by omega) hb9 (by omega)) (cwV 2 hts (gw_V m_706 m_708 s_23 m_8 m_709) rfl rfl rfl (by decide +kernel) ⟨Nat.le_of_ble_eq_true rfl, Nat.le_of_ble_eq_true rfl⟩) ⟨ro_blind, va_recv hK hPc (ci := 7) (q0 := 0) rfl rfl, fun U hU hW => ⟨rfl, by rw [hU]; exact hPc, va_K.moved hW.alike hK⟩⟩ rfl rfl hl.1 rfl (lv_room (Nat.le_of_ble_eq_true rfl)) d_MO_beginOf_25 ⟨Nat.le_of_ble_eq_true rfl, Nat.le_of_ble_eq_true rfl⟩) hS hP (fun r H locs er hP hS => ?_)
      subst er
      refine ix_ialdN (i := nu i9) hx hb hK hP 1 0 rfl rfl (by exact (hW9 i9 (by omega)).2.2) (by decide) d_MO_beginOf_28 ?_
      refine lv_aload_n hx hb d_MO_beginOf_29 rfl (lv_at hl 0 rfl) ?_
      refine va_get (D := (dC, dI)) (ci := 7) (v := .ref (z 8)) (C := R_MO) (T := F_MO) (N := 23) hx hb hts in_MO hown hK hP 0 rfl rfl 15 (by decide) (hts _ m_587) (fun _ h9 => h9) rfl d_MO_beginOf_30 ?_
      refine lv_iload_n hx hb d_MO_beginOf_33 rfl (lv_at hl 1 rfl) ?_
      refine ix_ialdN (i := s9) hx hb hK hP 2 0 rfl rfl (by omega) (by decide) d_MO_beginOf_34 ?_
      refine lv_iadd hx hb d_MO_beginOf_35 ?_
      refine lv_topr (show _ = nI ((ww (nu i9)) + (sf s9)) from nn_add _ _) ?_
      refine lv_iadd hx hb d_MO_beginOf_36 ?_
      refine lv_topr (show _ = nI (a9 + ((ww (nu i9)) + (sf s9))) from nn_add _ _) ?_
      refine lv_istore_n (lv' := [(3, .int (nI (a9 + ((ww (nu i9)) + (sf s9))))), (0, .ref (z 0)), (1, .int (nI s9)), (2, .int (nI k9)), (4, .int (nI i9))]) hx hb d_MO_beginOf_37 rfl hl (by decide) rfl (fun ls hl => ?_)
      refine lv_iinc (v := nI (i9 + 1)) (lv' := [(4, .int (nI (i9 + 1))), (3, .int (nI (a9 + ((ww (nu i9)) + (sf s9))))), (0, .ref (z 0)), (1, .int (nI s9)), (2, .int (nI k9))]) hx hb d_MO_beginOf_38 hl (k := 4) rfl (n_incN i9 1) (by decide) rfl (fun ls hl => ?_)
      refine lv_goto (tgt := 10) hx hb d_MO_beginOf_41 (by decide) ?_
      exact ih_lp (i9 + 1) (a9 + ((ww (nu i9)) + (sf s9))) (by omega) (by omega) (by rw [ha9]; show _ = sl s9 + (bgm ww nu (sf s9) i9 + (ww (nu i9) + sf s9)); omega) _ _ _ hP hS (lv_sub hl [2, 3, 4, 1, 0] rfl)
  exact lp (k9 + 1) 0 (sl s9) (by omega) (by omega) rfl _ _ _ hP hS (lv_sub hl [2, 3, 4, 1, 0] rfl)
set_option maxHeartbeats 4000000 in
set_option maxRecDepth 100000 in
/-- endOf(s, k) -/
theorem c_MO_endOf (l : Launch) (dC : Nat → ClassId) (dI : Nat → Nat → Nat) (z g : Nat → Nat) (cI : ClassId) (ww sf sl ss nu : Nat → Nat) (s9 k9 : Nat) (hs9 : s9 < 9) (hW9 : HW (fun w => ss (5 * s9 + w)) nu) (hk9 : k9 < sumN (fun w => ss (5 * s9 + w)) 5) (hb9 : ∀ w, w < 5 → ss (5 * s9 + w) ≤ 1000) (hk8 : k9 < 1000000) : Met l y_MO_endOf w_MO_endOf { frames := 2, cells := 0, slots := 0, locals := 48 } (ro_Pc (dC, dI) vwCl [(cI, .int)] [.ref (z 0), .int (nI s9), .int (nI k9)] [(z 0, .inr (7, [.int (nI (g 0)), .int (nI (g 1)), .int (nI (g 2)), .int (nI (g 3)), .int (nI (g 4)), .int (nI (g 5)), .int (nI (g 6)), .ref (z 1), .ref (z 2), .ref (z 3), .ref (z 4), .int (nI (g 7)), .ref (z 5), .ref (z 6), .ref (z 7), .ref (z 8), .ref (z 9), .ref (z 10), .int (nI (g 8)), .ref (z 11), .ref (z 12), .ref (z 13), .ref (z 14)])), (z 1, .inl (cI, 5, .inl (aN ww))), (z 8, .inl (cI, 9, .inl (aN sf))), (z 9, .inl (cI, 9, .inl (aN sl))), (z 10, .inl (cI, 45, .inl (aN ss)))]) (ro_Qi (fun r => r = nI (sl s9 + bgm ww nu (sf s9) k9 + ww (nu k9)))) 0 0 ro_no := by
  refine Met.ofW (cc := b_MO_endOf) (maxL := 3) (ret := (some .int)) (by decide) rfl ?_
  intro p e s m args below meth c s₁ B hml hv
  obtain ⟨rfl, hP, hK⟩ := hv
  have hx := B.exec
  have hb := B.bytes
  have hr := B.returns
  have hts := gw_h (atoms_spec (ws := w_MO_endOf) B.pre)
  have hown : s.vm.findClass R_MO = some m.cls := findClass_of_methodNamed B.named
  have hlocks := B.notSynchronized
  have hS : va_S ro_no s.heap s.heap [] := va_S.rf
  have hP : va_P (dC, dI) vwCl [(z 0, .inr (7, [.int (nI (g 0)), .int (nI (g 1)), .int (nI (g 2)), .int (nI (g 3)), .int (nI (g 4)), .int (nI (g 5)), .int (nI (g 6)), .ref (z 1), .ref (z 2), .ref (z 3), .ref (z 4), .int (nI (g 7)), .ref (z 5), .ref (z 6), .ref (z 7), .ref (z 8), .ref (z 9), .ref (z 10), .int (nI (g 8)), .ref (z 11), .ref (z 12), .ref (z 13), .ref (z 14)])), (z 1, .inl (cI, 5, .inl (aN ww))), (z 8, .inl (cI, 9, .inl (aN sf))), (z 9, .inl (cI, 9, .inl (aN sl))), (z 10, .inl (cI, 45, .inl (aN ss)))] s.heap := hP
  have hl := lv_entry ([.ref (z 0), .int (nI s9), .int (nI k9)]) (n := 3) (Nat.le_of_ble_eq_true rfl)
  rw [lg_entry_eq]
  generalize (lg_sl ([.ref (z 0), .int (nI s9), .int (nI k9)]) ++ List.replicate (3 - (lg_sl ([.ref (z 0), .int (nI s9), .int (nI k9)])).length) Slot.unset).toArray = ls at hl ⊢
  have hl : lv_has ls 3 [(0, .ref (z 0)), (1, .int (nI s9)), (2, .int (nI k9))] := hl
  refine lv_aload_n hx hb d_MO_endOf_0 rfl (lv_at hl 0 rfl) ?_
  refine lv_iload_n hx hb d_MO_endOf_1 rfl (lv_at hl 1 rfl) ?_
  refine lv_iload_n hx hb d_MO_endOf_2 rfl (lv_at hl 2 rfl) ?_
  have hPc := hP.sub (ws' := [(z 0, .inr (7, [.int (nI (g 0)), .int (nI (g 1)), .int (nI (g 2)), .int (nI (g 3)), .int (nI (g 4)), .int (nI (g 5)), .int (nI (g 6)), .ref (z 1), .ref (z 2), .ref (z 3), .ref (z 4), .int (nI (g 7)), .ref (z 5), .ref (z 6), .ref (z 7), .ref (z 8), .ref (z 9), .ref (z 10), .int (nI (g 8)), .ref (z 11), .ref (z 12), .ref (z 13), .ref (z 14)])), (z 1, .inl (cI, 5, .inl (aN ww))), (z 8, .inl (cI, 9, .inl (aN sf))), (z 9, .inl (cI, 9, .inl (aN sl))), (z 10, .inl (cI, 45, .inl (aN ss)))]) [0, 1, 2, 3, 4] rfl
  refine ro_calli (va_runV (As := [.int (nI s9), .int (nI k9)]) (rest := []) ⟨hx, hb, hml, hown, hts⟩ (c_MO_beginOf l dC dI z g cI ww sf sl ss nu s9 k9 hs9 hW9 (by omega) hb9 hk8) (cwV 2 hts (gw_V m_710 m_712 s_24 m_8 m_713) rfl rfl rfl (by decide +kernel) ⟨Nat.le_of_ble_eq_true rfl, Nat.le_of_ble_eq_true rfl⟩) ⟨ro_blind, va_recv hK hPc (ci := 7) (q0 := 0) rfl rfl, fun U hU hW => ⟨rfl, by rw [hU]; exact hPc, va_K.moved hW.alike hK⟩⟩ rfl rfl hl.1 rfl (lv_room (Nat.le_of_ble_eq_true rfl)) d_MO_endOf_3 ⟨Nat.le_of_ble_eq_true rfl, Nat.le_of_ble_eq_true rfl⟩) hS hP (fun r H locs er hP hS => ?_)
  subst er
  refine lv_aload_n hx hb d_MO_endOf_6 rfl (lv_at hl 0 rfl) ?_
  refine va_get (D := (dC, dI)) (ci := 7) (v := .ref (z 1)) (C := R_MO) (T := F_MO) (N := 23) hx hb hts in_MO hown hK hP 0 rfl rfl 7 (by decide) (hts _ m_579) (fun _ h9 => h9) rfl d_MO_endOf_7 ?_
  refine lv_aload_n hx hb d_MO_endOf_10 rfl (lv_at hl 0 rfl) ?_
  refine lv_iload_n hx hb d_MO_endOf_11 rfl (lv_at hl 1 rfl) ?_
  refine lv_iload_n hx hb d_MO_endOf_12 rfl (lv_at hl 2 rfl) ?_
  have hPc := hP.sub (ws' := [(z 0, .inr (7, [.int (nI (g 0)), .int (nI (g 1)), .int (nI (g 2)), .int (nI (g 3)), .int (nI (g 4)), .int (nI (g 5)), .int (nI (g 6)), .ref (z 1), .ref (z 2), .ref (z 3), .ref (z 4), .int (nI (g 7)), .ref (z 5), .ref (z 6), .ref (z 7), .ref (z 8), .ref (z 9), .ref (z 10), .int (nI (g 8)), .ref (z 11), .ref (z 12), .ref (z 13), .ref (z 14)])), (z 10, .inl (cI, 45, .inl (aN ss)))]) [0, 4] rfl
  refine ro_calli (va_runV (As := [.int (nI s9), .int (nI k9)]) (rest := [.ref (z 1), .int (nI (sl s9 + bgm ww nu (sf s9) k9))]) ⟨hx, hb, hml, hown, hts⟩ (c_MO_wantOf l dC dI z g cI ss nu s9 k9 hs9 hW9 hk9 hb9 hk8) (cwV 2 hts (gw_V m_706 m_708 s_23 m_8 m_709) rfl rfl rfl (by decide +kernel) ⟨Nat.le_of_ble_eq_true rfl, Nat.le_of_ble_eq_true rfl⟩) ⟨ro_blind, va_recv hK hPc (ci := 7) (q0 := 0) rfl rfl, fun U hU hW => ⟨rfl, by rw [hU]; exact hPc, va_K.moved hW.alike hK⟩⟩ rfl rfl hl.1 rfl (lv_room (Nat.le_of_ble_eq_true rfl)) d_MO_endOf_13 ⟨Nat.le_of_ble_eq_true rfl, Nat.le_of_ble_eq_true rfl⟩) hS hP (fun r H locs er hP hS => ?_)
  subst er
  refine ix_ialdN (i := nu k9) hx hb hK hP 1 0 rfl rfl (by exact (hW9 k9 hk9).2.2) (by decide) d_MO_endOf_16 ?_
  refine lv_iadd hx hb d_MO_endOf_17 ?_
  refine lv_topr (show _ = nI ((sl s9 + bgm ww nu (sf s9) k9) + (ww (nu k9))) from nn_add _ _) ?_
  exact W.iret (v := nI ((sl s9 + bgm ww nu (sf s9) k9) + (ww (nu k9)))) hx hb hr (fun t ht hW => ⟨⟨nI ((sl s9 + bgm ww nu (sf s9) k9) + (ww (nu k9))), (), rfl, rfl, trivial⟩, hS.F ht⟩) hS.2.2 d_MO_endOf_18
