set_option maxHeartbeats 4000000 in
set_option maxRecDepth 100000 in
/-- kilosBefore(place): the kilos times the place over the width, rounded down -/
theorem c_SU_kilosBefore (l : Launch) (dC : Nat → ClassId) (dI : Nat → Nat → Nat) (o on ob oe ok : Nat) (cI : ClassId) (sc lf kc wd kg tr sp : Nat) (pl : Nat) (h1 : 1 ≤ wd) (h2 : wd < 2147483648) (h3 : kg * pl < 2147483648) : Met l y_SU_kilosBefore w_SU_kilosBefore { frames := 0, cells := 0, slots := 0, locals := 0 } (ro_Pc (dC, dI) vwCl [(cI, .int)] [.ref o, .int (nI pl)] [(o, .inr (4, [.ref on, .ref ob, .ref oe, .int (nI sc), .int (nI lf), .ref ok, .int (nI kc), .int (nI wd), .int (nI kg), .int (nI tr), .int (nI sp)]))]) (ro_Qi (fun r => r = nI (kg * pl / wd))) 0 0 ro_no := by
  refine Met.ofW (cc := b_SU_kilosBefore) (maxL := 2) (ret := (some .int)) (by decide) rfl ?_
  intro p e s m args below meth c s₁ B hml hv
  obtain ⟨rfl, hP, hK⟩ := hv
  have hx := B.exec
  have hb := B.bytes
  have hr := B.returns
  have hts := gw_h (atoms_spec (ws := w_SU_kilosBefore) B.pre)
  have hown : s.vm.findClass R_SU = some m.cls := findClass_of_methodNamed B.named
  have hlocks := B.notSynchronized
  have hS : va_S ro_no s.heap s.heap [] := va_S.rf
  have hP : va_P (dC, dI) vwCl [(o, .inr (4, [.ref on, .ref ob, .ref oe, .int (nI sc), .int (nI lf), .ref ok, .int (nI kc), .int (nI wd), .int (nI kg), .int (nI tr), .int (nI sp)]))] s.heap := hP
  have hl := lv_entry ([.ref o, .int (nI pl)]) (n := 2) (Nat.le_of_ble_eq_true rfl)
  rw [lg_entry_eq]
  generalize (lg_sl ([.ref o, .int (nI pl)]) ++ List.replicate (2 - (lg_sl ([.ref o, .int (nI pl)])).length) Slot.unset).toArray = ls at hl ⊢
  have hl : lv_has ls 2 [(0, .ref o), (1, .int (nI pl))] := hl
  refine lv_aload_n hx hb d_SU_kilosBefore_0 rfl (lv_at hl 0 rfl) ?_
  refine va_get (D := (dC, dI)) (ci := 4) (v := .int (nI wd)) (C := R_SU) (T := F_SU) (N := 11) hx hb hts in_SU hown hK hP 0 rfl rfl 7 (by decide) (hts _ m_195) (fun _ h9 => h9) rfl d_SU_kilosBefore_1 ?_
  refine lv_iconst (v := nI 1) hx hb d_SU_kilosBefore_4 (by decide +kernel) ?_
  refine ix_icmp_ge (tgt := 12) hx hb (nI_tI (n := wd) (by omega)) (nI_tI (n := 1) (by omega)) d_SU_kilosBefore_5 (by decide) (fun c_5 => ?_) (fun c_5 => absurd c_5 (by omega))
  refine lv_aload_n hx hb d_SU_kilosBefore_12 rfl (lv_at hl 0 rfl) ?_
  refine va_get (D := (dC, dI)) (ci := 4) (v := .int (nI kg)) (C := R_SU) (T := F_SU) (N := 11) hx hb hts in_SU hown hK hP 0 rfl rfl 8 (by decide) (hts _ m_196) (fun _ h9 => h9) rfl d_SU_kilosBefore_13 ?_
  refine lv_iload_n hx hb d_SU_kilosBefore_16 rfl (lv_at hl 1 rfl) ?_
  refine lv_imul hx hb d_SU_kilosBefore_17 ?_
  refine lv_topr (show _ = nI (kg * pl) from nn_mul _ _) ?_
  refine lv_aload_n hx hb d_SU_kilosBefore_18 rfl (lv_at hl 0 rfl) ?_
  refine va_get (D := (dC, dI)) (ci := 4) (v := .int (nI wd)) (C := R_SU) (T := F_SU) (N := 11) hx hb hts in_SU hown hK hP 0 rfl rfl 7 (by decide) (hts _ m_195) (fun _ h9 => h9) rfl d_SU_kilosBefore_19 ?_
  refine ix_idiv hx hb (x := kg * pl) (d := wd) (by omega) (by omega) (by omega) d_SU_kilosBefore_22 ?_
  exact W.iret (v := nI ((kg * pl) / wd)) hx hb hr (fun t ht hW => ⟨⟨nI ((kg * pl) / wd), (), rfl, rfl, trivial⟩, hS.F ht⟩) hS.2.2 d_SU_kilosBefore_23
set_option maxHeartbeats 4000000 in
set_option maxRecDepth 100000 in
/-- stripWeight(k): the weight of strip k -/
theorem c_SU_stripWeight (l : Launch) (dC : Nat → ClassId) (dI : Nat → Nat → Nat) (o on ob oe ok : Nat) (cI : ClassId) (bg en : Nat → Nat) (sc lf kc wd kg tr sp : Nat) (k : Nat) (hk : k < 30) (h1 : 1 ≤ wd) (h2 : wd < 2147483648) (h3 : kg * (lf + en k) < 2147483648) (h4 : bg k ≤ en k) : Met l y_SU_stripWeight w_SU_stripWeight { frames := 1, cells := 0, slots := 0, locals := 21 } (ro_Pc (dC, dI) vwCl [(cI, .int)] [.ref o, .int (nI k)] [(o, .inr (4, [.ref on, .ref ob, .ref oe, .int (nI sc), .int (nI lf), .ref ok, .int (nI kc), .int (nI wd), .int (nI kg), .int (nI tr), .int (nI sp)])), (ob, .inl (cI, 30, .inl (aN bg))), (oe, .inl (cI, 30, .inl (aN en)))]) (ro_Qi (fun r => r = nI (wt kg wd lf bg en k))) 0 0 ro_no := by
  refine Met.ofW (cc := b_SU_stripWeight) (maxL := 2) (ret := (some .int)) (by decide) rfl ?_
  intro p e s m args below meth c s₁ B hml hv
  obtain ⟨rfl, hP, hK⟩ := hv
  have hx := B.exec
  have hb := B.bytes
  have hr := B.returns
  have hts := gw_h (atoms_spec (ws := w_SU_stripWeight) B.pre)
  have hown : s.vm.findClass R_SU = some m.cls := findClass_of_methodNamed B.named
  have hlocks := B.notSynchronized
  have hS : va_S ro_no s.heap s.heap [] := va_S.rf
  have hP : va_P (dC, dI) vwCl [(o, .inr (4, [.ref on, .ref ob, .ref oe, .int (nI sc), .int (nI lf), .ref ok, .int (nI kc), .int (nI wd), .int (nI kg), .int (nI tr), .int (nI sp)])), (ob, .inl (cI, 30, .inl (aN bg))), (oe, .inl (cI, 30, .inl (aN en)))] s.heap := hP
  have hl := lv_entry ([.ref o, .int (nI k)]) (n := 2) (Nat.le_of_ble_eq_true rfl)
  rw [lg_entry_eq]
  generalize (lg_sl ([.ref o, .int (nI k)]) ++ List.replicate (2 - (lg_sl ([.ref o, .int (nI k)])).length) Slot.unset).toArray = ls at hl ⊢
  have hl : lv_has ls 2 [(0, .ref o), (1, .int (nI k))] := hl
  have h5 : kg * (lf + bg k) < 2147483648 := Nat.lt_of_le_of_lt (Nat.mul_le_mul_left _ (by omega)) h3
  refine lv_aload_n hx hb d_SU_stripWeight_0 rfl (lv_at hl 0 rfl) ?_
  refine lv_aload_n hx hb d_SU_stripWeight_1 rfl (lv_at hl 0 rfl) ?_
  refine va_get (D := (dC, dI)) (ci := 4) (v := .int (nI lf)) (C := R_SU) (T := F_SU) (N := 11) hx hb hts in_SU hown hK hP 0 rfl rfl 4 (by decide) (hts _ m_191) (fun _ h9 => h9) rfl d_SU_stripWeight_2 ?_
  refine lv_aload_n hx hb d_SU_stripWeight_5 rfl (lv_at hl 0 rfl) ?_
  refine va_get (D := (dC, dI)) (ci := 4) (v := .ref oe) (C := R_SU) (T := F_SU) (N := 11) hx hb hts in_SU hown hK hP 0 rfl rfl 2 (by decide) (hts _ m_187) (fun _ h9 => h9) rfl d_SU_stripWeight_6 ?_
  refine lv_iload_n hx hb d_SU_stripWeight_9 rfl (lv_at hl 1 rfl) ?_
  refine ix_ialdN (i := k) hx hb hK hP 2 0 rfl rfl (by omega) (by decide) d_SU_stripWeight_10 ?_
  refine lv_iadd hx hb d_SU_stripWeight_11 ?_
  refine lv_topr (show _ = nI (lf + (en k)) from nn_add _ _) ?_
  have hPc := hP.sub (ws' := [(o, .inr (4, [.ref on, .ref ob, .ref oe, .int (nI sc), .int (nI lf), .ref ok, .int (nI kc), .int (nI wd), .int (nI kg), .int (nI tr), .int (nI sp)]))]) [0] rfl
  refine ro_calli (va_runV (As := [.int (nI (lf + (en k)))]) (rest := []) ⟨hx, hb, hml, hown, hts⟩ (c_SU_kilosBefore l dC dI o on ob oe ok cI sc lf kc wd kg tr sp (lf + (en k)) h1 h2 (by first | exact h3 | exact h5)) (cwV 1 hts (gw_V m_509 m_511 s_14 m_7 m_512) rfl rfl rfl (by decide +kernel) ⟨Nat.le_of_ble_eq_true rfl, Nat.le_of_ble_eq_true rfl⟩) ⟨ro_blind, va_recv hK hPc (ci := 4) (q0 := 0) rfl rfl, fun U hU hW => ⟨rfl, by rw [hU]; exact hPc, va_K.moved hW.alike hK⟩⟩ rfl rfl hl.1 rfl (lv_room (Nat.le_of_ble_eq_true rfl)) d_SU_stripWeight_12 ⟨Nat.le_of_ble_eq_true rfl, Nat.le_of_ble_eq_true rfl⟩) hS hP (fun r H locs er hP hS => ?_)
  subst er
  refine lv_aload_n hx hb d_SU_stripWeight_15 rfl (lv_at hl 0 rfl) ?_
  refine lv_aload_n hx hb d_SU_stripWeight_16 rfl (lv_at hl 0 rfl) ?_
  refine va_get (D := (dC, dI)) (ci := 4) (v := .int (nI lf)) (C := R_SU) (T := F_SU) (N := 11) hx hb hts in_SU hown hK hP 0 rfl rfl 4 (by decide) (hts _ m_191) (fun _ h9 => h9) rfl d_SU_stripWeight_17 ?_
  refine lv_aload_n hx hb d_SU_stripWeight_20 rfl (lv_at hl 0 rfl) ?_
  refine va_get (D := (dC, dI)) (ci := 4) (v := .ref ob) (C := R_SU) (T := F_SU) (N := 11) hx hb hts in_SU hown hK hP 0 rfl rfl 1 (by decide) (hts _ m_185) (fun _ h9 => h9) rfl d_SU_stripWeight_21 ?_
  refine lv_iload_n hx hb d_SU_stripWeight_24 rfl (lv_at hl 1 rfl) ?_
  refine ix_ialdN (i := k) hx hb hK hP 1 0 rfl rfl (by omega) (by decide) d_SU_stripWeight_25 ?_
  refine lv_iadd hx hb d_SU_stripWeight_26 ?_
  refine lv_topr (show _ = nI (lf + (bg k)) from nn_add _ _) ?_
  have hPc := hP.sub (ws' := [(o, .inr (4, [.ref on, .ref ob, .ref oe, .int (nI sc), .int (nI lf), .ref ok, .int (nI kc), .int (nI wd), .int (nI kg), .int (nI tr), .int (nI sp)]))]) [0] rfl
  refine ro_calli (va_runV (As := [.int (nI (lf + (bg k)))]) (rest := [.int (nI (kg * (lf + (en k)) / wd))]) ⟨hx, hb, hml, hown, hts⟩ (c_SU_kilosBefore l dC dI o on ob oe ok cI sc lf kc wd kg tr sp (lf + (bg k)) h1 h2 (by first | exact h3 | exact h5)) (cwV 1 hts (gw_V m_509 m_511 s_14 m_7 m_512) rfl rfl rfl (by decide +kernel) ⟨Nat.le_of_ble_eq_true rfl, Nat.le_of_ble_eq_true rfl⟩) ⟨ro_blind, va_recv hK hPc (ci := 4) (q0 := 0) rfl rfl, fun U hU hW => ⟨rfl, by rw [hU]; exact hPc, va_K.moved hW.alike hK⟩⟩ rfl rfl hl.1 rfl (lv_room (Nat.le_of_ble_eq_true rfl)) d_SU_stripWeight_27 ⟨Nat.le_of_ble_eq_true rfl, Nat.le_of_ble_eq_true rfl⟩) hS hP (fun r H locs er hP hS => ?_)
  subst er
  refine lv_isub hx hb d_SU_stripWeight_30 ?_
  refine lv_topr (show _ = nI ((kg * (lf + (en k)) / wd) - (kg * (lf + (bg k)) / wd)) from nn_subN (by exact Nat.div_le_div_right (Nat.mul_le_mul_left _ (by omega)))) ?_
  exact W.iret (v := nI ((kg * (lf + (en k)) / wd) - (kg * (lf + (bg k)) / wd))) hx hb hr (fun t ht hW => ⟨⟨nI ((kg * (lf + (en k)) / wd) - (kg * (lf + (bg k)) / wd)), (), rfl, rfl, trivial⟩, hS.F ht⟩) hS.2.2 d_SU_stripWeight_31
set_option maxHeartbeats 4000000 in
set_option maxRecDepth 100000 in
/-- scrapWeight(): the kilos less all weights -/
theorem c_SU_scrapWeight (l : Launch) (dC : Nat → ClassId) (dI : Nat → Nat → Nat) (o on ob oe ok : Nat) (cI : ClassId) (bg en : Nat → Nat) (sc lf kc wd kg tr sp : Nat) (hsc : sc ≤ 30) (h0 : kg < 2147483648) (h1 : 1 ≤ wd) (h2 : wd < 2147483648) (h3 : ∀ k, k < sc → kg * (lf + en k) < 2147483648) (h4 : ∀ k, k < sc → bg k ≤ en k) : Met l y_SU_scrapWeight w_SU_scrapWeight { frames := 2, cells := 0, slots := 0, locals := 42 } (ro_Pc (dC, dI) vwCl [(cI, .int)] [.ref o] [(o, .inr (4, [.ref on, .ref ob, .ref oe, .int (nI sc), .int (nI lf), .ref ok, .int (nI kc), .int (nI wd), .int (nI kg), .int (nI tr), .int (nI sp)])), (ob, .inl (cI, 30, .inl (aN bg))), (oe, .inl (cI, 30, .inl (aN en)))]) (ro_Qi (fun r => r = zI ((kg : Int) - ((sumN (wt kg wd lf bg en) sc : Nat) : Int)))) 0 0 ro_no := by
  refine Met.ofW (cc := b_SU_scrapWeight) (maxL := 3) (ret := (some .int)) (by decide) rfl ?_
  intro p e s m args below meth c s₁ B hml hv
  obtain ⟨rfl, hP, hK⟩ := hv
  have hx := B.exec
  have hb := B.bytes
  have hr := B.returns
  have hts := gw_h (atoms_spec (ws := w_SU_scrapWeight) B.pre)
  have hown : s.vm.findClass R_SU = some m.cls := findClass_of_methodNamed B.named
  have hlocks := B.notSynchronized
  have hS : va_S ro_no s.heap s.heap [] := va_S.rf
  have hP : va_P (dC, dI) vwCl [(o, .inr (4, [.ref on, .ref ob, .ref oe, .int (nI sc), .int (nI lf), .ref ok, .int (nI kc), .int (nI wd), .int (nI kg), .int (nI tr), .int (nI sp)])), (ob, .inl (cI, 30, .inl (aN bg))), (oe, .inl (cI, 30, .inl (aN en)))] s.heap := hP
  have hl := lv_entry ([.ref o]) (n := 3) (Nat.le_of_ble_eq_true rfl)
  rw [lg_entry_eq]
  generalize (lg_sl ([.ref o]) ++ List.replicate (3 - (lg_sl ([.ref o])).length) Slot.unset).toArray = ls at hl ⊢
  have hl : lv_has ls 3 [(0, .ref o)] := hl
  refine lv_aload_n hx hb d_SU_scrapWeight_0 rfl (lv_at hl 0 rfl) ?_
  refine va_get (D := (dC, dI)) (ci := 4) (v := .int (nI kg)) (C := R_SU) (T := F_SU) (N := 11) hx hb hts in_SU hown hK hP 0 rfl rfl 8 (by decide) (hts _ m_196) (fun _ h9 => h9) rfl d_SU_scrapWeight_1 ?_
  refine lv_istore_n (lv' := [(1, .int (nI kg)), (0, .ref o)]) hx hb d_SU_scrapWeight_4 rfl hl (by decide) rfl (fun ls hl => ?_)
  have hl : lv_has ls 3 [(1, .int (zI (kg : Int))), (0, .ref o)] := by rw [← zI_n]; exact hl
  refine lv_iconst (v := nI 0) hx hb d_SU_scrapWeight_5 (by decide +kernel) ?_
  refine lv_istore_n (lv' := [(2, .int (nI 0)), (1, .int (zI (kg : Int))), (0, .ref o)]) hx hb d_SU_scrapWeight_6 rfl hl (by decide) rfl (fun ls hl => ?_)
  have lp : ∀ (n_lp : Nat) (k : Nat) (z : Int), (sc + 1 ≤ k + n_lp) → (k ≤ sc) → (z = (kg : Int) - ((sumN (wt kg wd lf bg en) k : Nat) : Int)) → ∀ (H : Heap) (locs : List Loc) (ls : Array Slot), va_P (dC, dI) vwCl [(o, .inr (4, [.ref on, .ref ob, .ref oe, .int (nI sc), .int (nI lf), .ref ok, .int (nI kc), .int (nI wd), .int (nI kg), .int (nI tr), .int (nI sp)])), (ob, .inl (cI, 30, .inl (aN bg))), (oe, .inl (cI, 30, .inl (aN en)))] H → va_S ro_no s.heap H locs → lv_has ls 3 [(0, .ref o), (1, .int (zI z)), (2, .int (nI k))] → W p l e (headSpec w_SU_scrapWeight { frames := 2, cells := 0, slots := 0, locals := 42 }).room s m [.ref o].toArray below meth c H locs 0 0 (MQ below (ro_Qi (fun r => r = zI ((kg : Int) - ((sumN (wt kg wd lf bg en) sc : Nat) : Int)))) [.ref o].toArray s 0 0 ro_no) (F0 m 7 ls []) := by
    intro n_lp
    induction n_lp with
    | zero =>
      intro k z hm hk hz
      exact absurd hm (by omega)
    | succ n_lp ih_lp =>
      intro k z hm hk hz H locs ls hP hS hl
      refine lv_iload_n hx hb d_SU_scrapWeight_7 rfl (lv_at hl 2 rfl) ?_
      refine lv_aload_n hx hb d_SU_scrapWeight_8 rfl (lv_at hl 0 rfl) ?_
      refine va_get (D := (dC, dI)) (ci := 4) (v := .int (nI sc)) (C := R_SU) (T := F_SU) (N := 11) hx hb hts in_SU hown hK hP 0 rfl rfl 3 (by decide) (hts _ m_189) (fun _ h9 => h9) rfl d_SU_scrapWeight_9 ?_
      refine ix_icmp_ge (tgt := 29) hx hb (nI_tI (n := k) (by omega)) (nI_tI (n := sc) (by omega)) d_SU_scrapWeight_12 (by decide) (fun c_12 => ?_) (fun c_12 => ?_)
      · refine lv_iload_n hx hb d_SU_scrapWeight_29 rfl (lv_at hl 1 rfl) ?_
        have hke : k = sc := by omega
        exact W.iret (v := zI z) hx hb hr (fun t ht hW => ⟨⟨zI z, (), rfl, by rw [hz, hke], trivial⟩, hS.F ht⟩) hS.2.2 d_SU_scrapWeight_30
      refine lv_iload_n hx hb d_SU_scrapWeight_15 rfl (lv_at hl 1 rfl) ?_
      refine lv_aload_n hx hb d_SU_scrapWeight_16 rfl (lv_at hl 0 rfl) ?_
      refine lv_iload_n hx hb d_SU_scrapWeight_17 rfl (lv_at hl 2 rfl) ?_
      have hPc := hP.sub (ws' := [(o, .inr (4, [.ref on, .ref ob, .ref oe, .int (nI sc), .int (nI lf), .ref ok, .int (nI kc), .int (nI wd), .int (nI kg), .int (nI tr), .int (nI sp)])), (ob, .inl (cI, 30, .inl (aN bg))), (oe, .inl (cI, 30, .inl (aN en)))]) [0, 1, 2] rfl
      refine ro_calli (va_runV (As := [.int (nI k)]) (rest := [.int (zI z)]) ⟨hx, hb, hml, hown, hts⟩ (c_SU_stripWeight l dC dI o on ob oe ok cI bg en sc lf kc wd kg tr sp k (by omega) h1 h2 (h3 k (by omega)) (h4 k (by omega))) (cwV 1 hts (gw_V m_524 m_506 m_507 m_7 m_508) rfl rfl rfl (by decide +kernel) ⟨Nat.le_of_ble_eq_true rfl, Nat.le_of_ble_eq_true rfl⟩) ⟨ro_blind, va_recv hK hPc (ci := 4) (q0 := 0) rfl rfl, fun U hU hW => ⟨rfl, by rw [hU]; exact hPc, va_K.moved hW.alike hK⟩⟩ rfl rfl hl.1 rfl (lv_room (Nat.le_of_ble_eq_true rfl)) d_SU_scrapWeight_18 ⟨Nat.le_of_ble_eq_true rfl, Nat.le_of_ble_eq_true rfl⟩) hS hP (fun r H locs er hP hS => ?_)
      subst er
      refine lv_isub hx hb d_SU_scrapWeight_21 ?_
      refine lv_topr (show _ = zI (z - ((wt kg wd lf bg en k : Nat) : Int)) from zn_sub _ _) ?_
      refine lv_istore_n (lv' := [(1, .int (zI (z - ((wt kg wd lf bg en k : Nat) : Int)))), (0, .ref o), (2, .int (nI k))]) hx hb d_SU_scrapWeight_22 rfl hl (by decide) rfl (fun ls hl => ?_)
      refine lv_iinc (v := nI (k + 1)) (lv' := [(2, .int (nI (k + 1))), (1, .int (zI (z - ((wt kg wd lf bg en k : Nat) : Int)))), (0, .ref o)]) hx hb d_SU_scrapWeight_23 hl (k := 2) rfl (n_incN k 1) (by decide) rfl (fun ls hl => ?_)
      refine lv_goto (tgt := 7) hx hb d_SU_scrapWeight_26 (by decide) ?_
      exact ih_lp (k + 1) _ (by omega) (by omega) (by rw [hz, sumN]; omega) _ _ _ hP hS (lv_sub hl [2, 1, 0] rfl)
  exact lp (sc + 1) 0 (kg : Int) (by omega) (by omega) (by simp [sumN]) _ _ _ hP hS (lv_sub hl [2, 1, 0] rfl)
set_option maxHeartbeats 4000000 in
set_option maxRecDepth 100000 in
/-- placesNotIn(other): how many places of this one the other has not; both rise -/
theorem c_SU_placesNotIn (l : Launch) (dC : Nat → ClassId) (dI : Nat → Nat → Nat) (o on ob oe ok o' on' ob' oe' ok' : Nat) (cI : ClassId) (kp kp' : Nat → Nat) (sc lf kc wd kg tr sp sc' lf' kc' wd' kg' tr' sp' : Nat) (h1 : kc ≤ 60) (h2 : kc' ≤ 60) (h3 : ∀ i, i + 1 < kc → kp i < kp (i + 1)) (h4 : ∀ i, i + 1 < kc' → kp' i < kp' (i + 1)) (h5 : ∀ i, i < kc → lf + kp i < 1000000) (h6 : ∀ i, i < kc' → lf' + kp' i < 1000000) : Met l y_SU_placesNotIn w_SU_placesNotIn { frames := 0, cells := 0, slots := 0, locals := 0 } (ro_Pc (dC, dI) vwCl [(cI, .int)] [.ref o, .ref o'] [(o, .inr (4, [.ref on, .ref ob, .ref oe, .int (nI sc), .int (nI lf), .ref ok, .int (nI kc), .int (nI wd), .int (nI kg), .int (nI tr), .int (nI sp)])), (ok, .inl (cI, 60, .inl (aN kp))), (o', .inr (4, [.ref on', .ref ob', .ref oe', .int (nI sc'), .int (nI lf'), .ref ok', .int (nI kc'), .int (nI wd'), .int (nI kg'), .int (nI tr'), .int (nI sp')])), (ok', .inl (cI, 60, .inl (aN kp')))]) (ro_Qi (fun r => r = nI (cntNot (fun x => lf + kp x) (fun x => lf' + kp' x) kc' kc))) 0 0 ro_no := by
  refine Met.ofW (cc := b_SU_placesNotIn) (maxL := 6) (ret := (some .int)) (by decide) rfl ?_
  intro p e s m args below meth c s₁ B hml hv
  obtain ⟨rfl, hP, hK⟩ := hv
  have hx := B.exec
  have hb := B.bytes
  have hr := B.returns
  have hts := gw_h (atoms_spec (ws := w_SU_placesNotIn) B.pre)
  have hown : s.vm.findClass R_SU = some m.cls := findClass_of_methodNamed B.named
  have hlocks := B.notSynchronized
  have hS : va_S ro_no s.heap s.heap [] := va_S.rf
  have hP : va_P (dC, dI) vwCl [(o, .inr (4, [.ref on, .ref ob, .ref oe, .int (nI sc), .int (nI lf), .ref ok, .int (nI kc), .int (nI wd), .int (nI kg), .int (nI tr), .int (nI sp)])), (ok, .inl (cI, 60, .inl (aN kp))), (o', .inr (4, [.ref on', .ref ob', .ref oe', .int (nI sc'), .int (nI lf'), .ref ok', .int (nI kc'), .int (nI wd'), .int (nI kg'), .int (nI tr'), .int (nI sp')])), (ok', .inl (cI, 60, .inl (aN kp')))] s.heap := hP
  have hl := lv_entry ([.ref o, .ref o']) (n := 6) (Nat.le_of_ble_eq_true rfl)
  rw [lg_entry_eq]
  generalize (lg_sl ([.ref o, .ref o']) ++ List.replicate (6 - (lg_sl ([.ref o, .ref o'])).length) Slot.unset).toArray = ls at hl ⊢
  have hl : lv_has ls 6 [(0, .ref o), (1, .ref o')] := hl
  refine lv_iconst (v := nI 0) hx hb d_SU_placesNotIn_0 (by decide +kernel) ?_
  refine lv_istore_n (lv' := [(2, .int (nI 0)), (0, .ref o), (1, .ref o')]) hx hb d_SU_placesNotIn_1 rfl hl (by decide) rfl (fun ls hl => ?_)
  refine lv_iconst (v := nI 0) hx hb d_SU_placesNotIn_2 (by decide +kernel) ?_
  refine lv_istore_n (lv' := [(3, .int (nI 0)), (2, .int (nI 0)), (0, .ref o), (1, .ref o')]) hx hb d_SU_placesNotIn_3 rfl hl (by decide) rfl (fun ls hl => ?_)
  refine lv_iconst (v := nI 0) hx hb d_SU_placesNotIn_4 (by decide +kernel) ?_
  refine lv_istore (lv' := [(4, .int (nI 0)), (3, .int (nI 0)), (2, .int (nI 0)), (0, .ref o), (1, .ref o')]) hx hb d_SU_placesNotIn_5 hl (by decide) rfl (fun ls hl => ?_)
  have out : ∀ (n_out : Nat) (i : Nat) (a : Nat) (ms : Nat), (kc + 1 ≤ i + n_out) → (i ≤ kc) → (a ≤ kc') → (∀ j, j < a → i < kc → lf' + kp' j < lf + kp i) → (ms = cntNot (fun x => lf + kp x) (fun x => lf' + kp' x) kc' i) → ∀ (H : Heap) (locs : List Loc) (ls : Array Slot), va_P (dC, dI) vwCl [(o, .inr (4, [.ref on, .ref ob, .ref oe, .int (nI sc), .int (nI lf), .ref ok, .int (nI kc), .int (nI wd), .int (nI kg), .int (nI tr), .int (nI sp)])), (ok, .inl (cI, 60, .inl (aN kp))), (o', .inr (4, [.ref on', .ref ob', .ref oe', .int (nI sc'), .int (nI lf'), .ref ok', .int (nI kc'), .int (nI wd'), .int (nI kg'), .int (nI tr'), .int (nI sp')])), (ok', .inl (cI, 60, .inl (aN kp')))] H → va_S ro_no s.heap H locs → lv_has ls 6 [(0, .ref o), (1, .ref o'), (2, .int (nI ms)), (3, .int (nI a)), (4, .int (nI i))] → W p l e (headSpec w_SU_placesNotIn { frames := 0, cells := 0, slots := 0, locals := 0 }).room s m [.ref o, .ref o'].toArray below meth c H locs 0 0 (MQ below (ro_Qi (fun r => r = nI (cntNot (fun x => lf + kp x) (fun x => lf' + kp' x) kc' kc))) [.ref o, .ref o'].toArray s 0 0 ro_no) (F0 m 7 ls []) := by
    intro n_out
    induction n_out with
    | zero =>
      intro i a ms hm hi ha hlo hms
      exact absurd hm (by omega)
    | succ n_out ih_out =>
      intro i a ms hm hi ha hlo hms H locs ls hP hS hl
      refine lv_iload hx hb d_SU_placesNotIn_7 (lv_at hl 4 rfl) ?_
      refine lv_aload_n hx hb d_SU_placesNotIn_9 rfl (lv_at hl 0 rfl) ?_
      refine va_get (D := (dC, dI)) (ci := 4) (v := .int (nI kc)) (C := R_SU) (T := F_SU) (N := 11) hx hb hts in_SU hown hK hP 0 rfl rfl 6 (by decide) (hts _ m_194) (fun _ h9 => h9) rfl d_SU_placesNotIn_10 ?_
      refine ix_icmp_ge (tgt := 93) hx hb (nI_tI (n := i) (by omega)) (nI_tI (n := kc) (by omega)) d_SU_placesNotIn_13 (by decide) (fun c_13 => ?_) (fun c_13 => ?_)
      · refine lv_iload_n hx hb d_SU_placesNotIn_93 rfl (lv_at hl 2 rfl) ?_
        have hie : i = kc := by omega
        exact W.iret (v := nI ms) hx hb hr (fun t ht hW => ⟨⟨nI ms, (), rfl, by rw [hms, hie], trivial⟩, hS.F ht⟩) hS.2.2 d_SU_placesNotIn_94
      refine lv_aload_n hx hb d_SU_placesNotIn_16 rfl (lv_at hl 0 rfl) ?_
      refine va_get (D := (dC, dI)) (ci := 4) (v := .int (nI lf)) (C := R_SU) (T := F_SU) (N := 11) hx hb hts in_SU hown hK hP 0 rfl rfl 4 (by decide) (hts _ m_191) (fun _ h9 => h9) rfl d_SU_placesNotIn_17 ?_
      refine lv_aload_n hx hb d_SU_placesNotIn_20 rfl (lv_at hl 0 rfl) ?_
      refine va_get (D := (dC, dI)) (ci := 4) (v := .ref ok) (C := R_SU) (T := F_SU) (N := 11) hx hb hts in_SU hown hK hP 0 rfl rfl 5 (by decide) (hts _ m_193) (fun _ h9 => h9) rfl d_SU_placesNotIn_21 ?_
      refine lv_iload hx hb d_SU_placesNotIn_24 (lv_at hl 4 rfl) ?_
      refine ix_ialdN (i := i) hx hb hK hP 1 0 rfl rfl (by omega) (by decide) d_SU_placesNotIn_26 ?_
      refine lv_iadd hx hb d_SU_placesNotIn_27 ?_
      refine lv_topr (show _ = nI (lf + (kp i)) from nn_add _ _) ?_
      refine lv_istore (lv' := [(5, .int (nI (lf + (kp i)))), (0, .ref o), (1, .ref o'), (2, .int (nI ms)), (3, .int (nI a)), (4, .int (nI i))]) hx hb d_SU_placesNotIn_28 hl (by decide) rfl (fun ls hl => ?_)
      have hcn := cntNot_le (fun x => lf + kp x) (fun x => lf' + kp' x) kc' i
      have hik : i < kc := by omega
      have h5i := h5 i hik
      have inn : ∀ (n_inn : Nat) (a : Nat), (kc' + 1 ≤ a + n_inn) → (a ≤ kc') → (∀ j, j < a → lf' + kp' j < lf + kp i) → ∀ (H : Heap) (locs : List Loc) (ls : Array Slot), va_P (dC, dI) vwCl [(o, .inr (4, [.ref on, .ref ob, .ref oe, .int (nI sc), .int (nI lf), .ref ok, .int (nI kc), .int (nI wd), .int (nI kg), .int (nI tr), .int (nI sp)])), (ok, .inl (cI, 60, .inl (aN kp))), (o', .inr (4, [.ref on', .ref ob', .ref oe', .int (nI sc'), .int (nI lf'), .ref ok', .int (nI kc'), .int (nI wd'), .int (nI kg'), .int (nI tr'), .int (nI sp')])), (ok', .inl (cI, 60, .inl (aN kp')))] H → va_S ro_no s.heap H locs → lv_has ls 6 [(0, .ref o), (1, .ref o'), (2, .int (nI ms)), (3, .int (nI a)), (4, .int (nI i)), (5, .int (nI (lf + kp i)))] → W p l e (headSpec w_SU_placesNotIn { frames := 0, cells := 0, slots := 0, locals := 0 }).room s m [.ref o, .ref o'].toArray below meth c H locs 0 0 (MQ below (ro_Qi (fun r => r = nI (cntNot (fun x => lf + kp x) (fun x => lf' + kp' x) kc' kc))) [.ref o, .ref o'].toArray s 0 0 ro_no) (F0 m 30 ls []) := by
        intro n_inn
        induction n_inn with
        | zero =>
          intro a hm2 ha hlo
          exact absurd hm2 (by omega)
        | succ n_inn ih_inn =>
          intro a hm2 ha hlo H locs ls hP hS hl
          refine lv_iload_n hx hb d_SU_placesNotIn_30 rfl (lv_at hl 3 rfl) ?_
          refine lv_aload_n hx hb d_SU_placesNotIn_31 rfl (lv_at hl 1 rfl) ?_
          refine va_get (D := (dC, dI)) (ci := 4) (v := .int (nI kc')) (C := R_SU) (T := F_SU) (N := 11) hx hb hts in_SU hown hK hP 2 rfl rfl 6 (by decide) (hts _ m_194) (fun _ h9 => h9) rfl d_SU_placesNotIn_32 ?_
          refine ix_icmp_ge (tgt := 60) hx hb (nI_tI (n := a) (by omega)) (nI_tI (n := kc') (by omega)) d_SU_placesNotIn_35 (by decide) (fun c_35 => ?_) (fun c_35 => ?_)
          · refine lv_iload_n hx hb d_SU_placesNotIn_60 rfl (lv_at hl 3 rfl) ?_
            refine lv_aload_n hx hb d_SU_placesNotIn_61 rfl (lv_at hl 1 rfl) ?_
            refine va_get (D := (dC, dI)) (ci := 4) (v := .int (nI kc')) (C := R_SU) (T := F_SU) (N := 11) hx hb hts in_SU hown hK hP 2 rfl rfl 6 (by decide) (hts _ m_194) (fun _ h9 => h9) rfl d_SU_placesNotIn_62 ?_
            refine ix_icmp_ge (tgt := 84) hx hb (nI_tI (n := a) (by omega)) (nI_tI (n := kc') (by omega)) d_SU_placesNotIn_65 (by decide) (fun c_65 => ?_) (fun c_65 => ?_)
            · refine lv_iinc (v := nI (ms + 1)) (lv' := [(2, .int (nI (ms + 1))), (0, .ref o), (1, .ref o'), (3, .int (nI a)), (4, .int (nI i)), (5, .int (nI (lf + kp i)))]) hx hb d_SU_placesNotIn_84 hl (k := 2) rfl (n_incN ms 1) (by decide) rfl (fun ls hl => ?_)
              refine lv_iinc (v := nI (i + 1)) (lv' := [(4, .int (nI (i + 1))), (2, .int (nI (ms + 1))), (0, .ref o), (1, .ref o'), (3, .int (nI a)), (5, .int (nI (lf + kp i)))]) hx hb d_SU_placesNotIn_87 hl (k := 4) rfl (n_incN i 1) (by decide) rfl (fun ls hl => ?_)
              refine lv_goto (tgt := 7) hx hb d_SU_placesNotIn_90 (by decide) ?_
              exact ih_out (i + 1) a (ms + 1) (by omega) (by omega) ha (fun j hj hk => by have := hlo j hj; have := h3 i hk; omega) (by rw [cntNot_out (f := fun x => lf + kp x) (g := fun x => lf' + kp' x) (n := i) (pn_out h4 hlo (by omega)), ← hms]) _ _ _ hP hS (lv_sub hl [2, 3, 1, 4, 0] rfl)
            have h6b := h6 a (by omega)
            refine lv_aload_n hx hb d_SU_placesNotIn_68 rfl (lv_at hl 1 rfl) ?_
            refine va_get (D := (dC, dI)) (ci := 4) (v := .int (nI lf')) (C := R_SU) (T := F_SU) (N := 11) hx hb hts in_SU hown hK hP 2 rfl rfl 4 (by decide) (hts _ m_191) (fun _ h9 => h9) rfl d_SU_placesNotIn_69 ?_
            refine lv_aload_n hx hb d_SU_placesNotIn_72 rfl (lv_at hl 1 rfl) ?_
            refine va_get (D := (dC, dI)) (ci := 4) (v := .ref ok') (C := R_SU) (T := F_SU) (N := 11) hx hb hts in_SU hown hK hP 2 rfl rfl 5 (by decide) (hts _ m_193) (fun _ h9 => h9) rfl d_SU_placesNotIn_73 ?_
            refine lv_iload_n hx hb d_SU_placesNotIn_76 rfl (lv_at hl 3 rfl) ?_
            refine ix_ialdN (i := a) hx hb hK hP 3 0 rfl rfl (by omega) (by decide) d_SU_placesNotIn_77 ?_
            refine lv_iadd hx hb d_SU_placesNotIn_78 ?_
            refine lv_topr (show _ = nI (lf' + (kp' a)) from nn_add _ _) ?_
            refine lv_iload hx hb d_SU_placesNotIn_79 (lv_at hl 5 rfl) ?_
            refine ix_icmp_eq (tgt := 87) hx hb (nI_tI (n := lf' + (kp' a)) (by omega)) (nI_tI (n := lf + kp i) (by omega)) d_SU_placesNotIn_81 (by decide) (fun c_81 => ?_) (fun c_81 => ?_)
            · refine lv_iinc (v := nI (i + 1)) (lv' := [(4, .int (nI (i + 1))), (0, .ref o), (1, .ref o'), (2, .int (nI ms)), (3, .int (nI a)), (5, .int (nI (lf + kp i)))]) hx hb d_SU_placesNotIn_87 hl (k := 4) rfl (n_incN i 1) (by decide) rfl (fun ls hl => ?_)
              refine lv_goto (tgt := 7) hx hb d_SU_placesNotIn_90 (by decide) ?_
              exact ih_out (i + 1) a (ms) (by omega) (by omega) ha (fun j hj hk => by have := hlo j hj; have := h3 i hk; omega) (by rw [cntNot_in (f := fun x => lf + kp x) (g := fun x => lf' + kp' x) (n := i) ⟨a, by omega, by show lf' + kp' a = lf + kp i; omega⟩]; exact hms) _ _ _ hP hS (lv_sub hl [1, 2, 3, 4, 0] rfl)
            refine lv_iinc (v := nI (ms + 1)) (lv' := [(2, .int (nI (ms + 1))), (0, .ref o), (1, .ref o'), (3, .int (nI a)), (4, .int (nI i)), (5, .int (nI (lf + kp i)))]) hx hb d_SU_placesNotIn_84 hl (k := 2) rfl (n_incN ms 1) (by decide) rfl (fun ls hl => ?_)
            refine lv_iinc (v := nI (i + 1)) (lv' := [(4, .int (nI (i + 1))), (2, .int (nI (ms + 1))), (0, .ref o), (1, .ref o'), (3, .int (nI a)), (5, .int (nI (lf + kp i)))]) hx hb d_SU_placesNotIn_87 hl (k := 4) rfl (n_incN i 1) (by decide) rfl (fun ls hl => ?_)
            refine lv_goto (tgt := 7) hx hb d_SU_placesNotIn_90 (by decide) ?_
            exact ih_out (i + 1) a (ms + 1) (by omega) (by omega) ha (fun j hj hk => by have := hlo j hj; have := h3 i hk; omega) (by rw [cntNot_out (f := fun x => lf + kp x) (g := fun x => lf' + kp' x) (n := i) (pn_out h4 hlo (by omega)), ← hms]) _ _ _ hP hS (lv_sub hl [2, 3, 1, 4, 0] rfl)
          have h6a := h6 a (by omega)
          refine lv_aload_n hx hb d_SU_placesNotIn_38 rfl (lv_at hl 1 rfl) ?_
          refine va_get (D := (dC, dI)) (ci := 4) (v := .int (nI lf')) (C := R_SU) (T := F_SU) (N := 11) hx hb hts in_SU hown hK hP 2 rfl rfl 4 (by decide) (hts _ m_191) (fun _ h9 => h9) rfl d_SU_placesNotIn_39 ?_
          refine lv_aload_n hx hb d_SU_placesNotIn_42 rfl (lv_at hl 1 rfl) ?_
          refine va_get (D := (dC, dI)) (ci := 4) (v := .ref ok') (C := R_SU) (T := F_SU) (N := 11) hx hb hts in_SU hown hK hP 2 rfl rfl 5 (by decide) (hts _ m_193) (fun _ h9 => h9) rfl d_SU_placesNotIn_43 ?_
          refine lv_iload_n hx hb d_SU_placesNotIn_46 rfl (lv_at hl 3 rfl) ?_
          refine ix_ialdN (i := a) hx hb hK hP 3 0 rfl rfl (by omega) (by decide) d_SU_placesNotIn_47 ?_
          refine lv_iadd hx hb d_SU_placesNotIn_48 ?_
          refine lv_topr (show _ = nI (lf' + (kp' a)) from nn_add _ _) ?_
          refine lv_iload hx hb d_SU_placesNotIn_49 (lv_at hl 5 rfl) ?_
          refine ix_icmp_ge (tgt := 60) hx hb (nI_tI (n := lf' + (kp' a)) (by omega)) (nI_tI (n := lf + kp i) (by omega)) d_SU_placesNotIn_51 (by decide) (fun c_51 => ?_) (fun c_51 => ?_)
          · refine lv_iload_n hx hb d_SU_placesNotIn_60 rfl (lv_at hl 3 rfl) ?_
            refine lv_aload_n hx hb d_SU_placesNotIn_61 rfl (lv_at hl 1 rfl) ?_
            refine va_get (D := (dC, dI)) (ci := 4) (v := .int (nI kc')) (C := R_SU) (T := F_SU) (N := 11) hx hb hts in_SU hown hK hP 2 rfl rfl 6 (by decide) (hts _ m_194) (fun _ h9 => h9) rfl d_SU_placesNotIn_62 ?_
            refine ix_icmp_ge (tgt := 84) hx hb (nI_tI (n := a) (by omega)) (nI_tI (n := kc') (by omega)) d_SU_placesNotIn_65 (by decide) (fun c_65 => ?_) (fun c_65 => ?_)
            · refine lv_iinc (v := nI (ms + 1)) (lv' := [(2, .int (nI (ms + 1))), (0, .ref o), (1, .ref o'), (3, .int (nI a)), (4, .int (nI i)), (5, .int (nI (lf + kp i)))]) hx hb d_SU_placesNotIn_84 hl (k := 2) rfl (n_incN ms 1) (by decide) rfl (fun ls hl => ?_)
              refine lv_iinc (v := nI (i + 1)) (lv' := [(4, .int (nI (i + 1))), (2, .int (nI (ms + 1))), (0, .ref o), (1, .ref o'), (3, .int (nI a)), (5, .int (nI (lf + kp i)))]) hx hb d_SU_placesNotIn_87 hl (k := 4) rfl (n_incN i 1) (by decide) rfl (fun ls hl => ?_)
              refine lv_goto (tgt := 7) hx hb d_SU_placesNotIn_90 (by decide) ?_
              exact ih_out (i + 1) a (ms + 1) (by omega) (by omega) ha (fun j hj hk => by have := hlo j hj; have := h3 i hk; omega) (by rw [cntNot_out (f := fun x => lf + kp x) (g := fun x => lf' + kp' x) (n := i) (pn_out h4 hlo (by omega)), ← hms]) _ _ _ hP hS (lv_sub hl [2, 3, 1, 4, 0] rfl)
            have h6b := h6 a (by omega)
            refine lv_aload_n hx hb d_SU_placesNotIn_68 rfl (lv_at hl 1 rfl) ?_
            refine va_get (D := (dC, dI)) (ci := 4) (v := .int (nI lf')) (C := R_SU) (T := F_SU) (N := 11) hx hb hts in_SU hown hK hP 2 rfl rfl 4 (by decide) (hts _ m_191) (fun _ h9 => h9) rfl d_SU_placesNotIn_69 ?_
            refine lv_aload_n hx hb d_SU_placesNotIn_72 rfl (lv_at hl 1 rfl) ?_
            refine va_get (D := (dC, dI)) (ci := 4) (v := .ref ok') (C := R_SU) (T := F_SU) (N := 11) hx hb hts in_SU hown hK hP 2 rfl rfl 5 (by decide) (hts _ m_193) (fun _ h9 => h9) rfl d_SU_placesNotIn_73 ?_
            refine lv_iload_n hx hb d_SU_placesNotIn_76 rfl (lv_at hl 3 rfl) ?_
            refine ix_ialdN (i := a) hx hb hK hP 3 0 rfl rfl (by omega) (by decide) d_SU_placesNotIn_77 ?_
            refine lv_iadd hx hb d_SU_placesNotIn_78 ?_
            refine lv_topr (show _ = nI (lf' + (kp' a)) from nn_add _ _) ?_
            refine lv_iload hx hb d_SU_placesNotIn_79 (lv_at hl 5 rfl) ?_
            refine ix_icmp_eq (tgt := 87) hx hb (nI_tI (n := lf' + (kp' a)) (by omega)) (nI_tI (n := lf + kp i) (by omega)) d_SU_placesNotIn_81 (by decide) (fun c_81 => ?_) (fun c_81 => ?_)
            · refine lv_iinc (v := nI (i + 1)) (lv' := [(4, .int (nI (i + 1))), (0, .ref o), (1, .ref o'), (2, .int (nI ms)), (3, .int (nI a)), (5, .int (nI (lf + kp i)))]) hx hb d_SU_placesNotIn_87 hl (k := 4) rfl (n_incN i 1) (by decide) rfl (fun ls hl => ?_)
              refine lv_goto (tgt := 7) hx hb d_SU_placesNotIn_90 (by decide) ?_
              exact ih_out (i + 1) a (ms) (by omega) (by omega) ha (fun j hj hk => by have := hlo j hj; have := h3 i hk; omega) (by rw [cntNot_in (f := fun x => lf + kp x) (g := fun x => lf' + kp' x) (n := i) ⟨a, by omega, by show lf' + kp' a = lf + kp i; omega⟩]; exact hms) _ _ _ hP hS (lv_sub hl [1, 2, 3, 4, 0] rfl)
            refine lv_iinc (v := nI (ms + 1)) (lv' := [(2, .int (nI (ms + 1))), (0, .ref o), (1, .ref o'), (3, .int (nI a)), (4, .int (nI i)), (5, .int (nI (lf + kp i)))]) hx hb d_SU_placesNotIn_84 hl (k := 2) rfl (n_incN ms 1) (by decide) rfl (fun ls hl => ?_)
            refine lv_iinc (v := nI (i + 1)) (lv' := [(4, .int (nI (i + 1))), (2, .int (nI (ms + 1))), (0, .ref o), (1, .ref o'), (3, .int (nI a)), (5, .int (nI (lf + kp i)))]) hx hb d_SU_placesNotIn_87 hl (k := 4) rfl (n_incN i 1) (by decide) rfl (fun ls hl => ?_)
            refine lv_goto (tgt := 7) hx hb d_SU_placesNotIn_90 (by decide) ?_
            exact ih_out (i + 1) a (ms + 1) (by omega) (by omega) ha (fun j hj hk => by have := hlo j hj; have := h3 i hk; omega) (by rw [cntNot_out (f := fun x => lf + kp x) (g := fun x => lf' + kp' x) (n := i) (pn_out h4 hlo (by omega)), ← hms]) _ _ _ hP hS (lv_sub hl [2, 3, 1, 4, 0] rfl)
          refine lv_iinc (v := nI (a + 1)) (lv' := [(3, .int (nI (a + 1))), (0, .ref o), (1, .ref o'), (2, .int (nI ms)), (4, .int (nI i)), (5, .int (nI (lf + kp i)))]) hx hb d_SU_placesNotIn_54 hl (k := 3) rfl (n_incN a 1) (by decide) rfl (fun ls hl => ?_)
          refine lv_goto (tgt := 30) hx hb d_SU_placesNotIn_57 (by decide) ?_
          exact ih_inn (a + 1) (by omega) (by omega) (lt_s hlo (by omega)) _ _ _ hP hS (lv_sub hl [1, 2, 3, 0, 4, 5] rfl)
      exact inn (kc' + 1) a (by omega) ha (fun j hj => hlo j hj hik) _ _ _ hP hS (lv_sub hl [1, 2, 3, 4, 5, 0] rfl)
  exact out (kc + 1) 0 0 0 (by omega) (by omega) (by omega) (fun j hj => absurd hj (Nat.not_lt_zero j)) rfl _ _ _ hP hS (lv_sub hl [3, 4, 2, 1, 0] rfl)
