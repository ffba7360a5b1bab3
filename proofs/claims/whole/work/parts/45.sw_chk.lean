set_option maxHeartbeats 4000000 in
set_option maxRecDepth 100000 in
/-- within(v, low, high) -/
theorem c_SW_within (l : Launch) (dC : Nat → ClassId) (dI : Nat → Nat → Nat) (cI : ClassId) (v9 a9 b9 : Int) (hv : -2147483648 ≤ v9 ∧ v9 < 2147483648) (ha : -2147483648 ≤ a9 ∧ a9 < 2147483648) (hb9 : -2147483648 ≤ b9 ∧ b9 < 2147483648) : Met l y_SW_within w_SW_within { frames := 0, cells := 0, slots := 0, locals := 0 } (ro_Pc (dC, dI) vwCl [(cI, .int)] [.int (zI v9), .int (zI a9), .int (zI b9)] []) (ro_Qi (fun r => r = nI (b01 (a9 ≤ v9 ∧ v9 ≤ b9)))) 0 0 ro_no := by
  refine Met.ofW (cc := b_SW_within) (maxL := 3) (ret := (some .boolean)) (by decide) rfl ?_
  intro p e s m args below meth c s₁ B hml hv
  obtain ⟨rfl, hP, hK⟩ := hv
  have hx := B.exec
  have hb := B.bytes
  have hr := B.returns
  have hts := gw_h (atoms_spec (ws := w_SW_within) B.pre)
  have hown : s.vm.findClass R_SW = some m.cls := findClass_of_methodNamed B.named
  have hlocks := B.notSynchronized
  have hS : va_S ro_no s.heap s.heap [] := va_S.rf
  have hP : va_P (dC, dI) vwCl [] s.heap := hP
  have hl := lv_entry ([.int (zI v9), .int (zI a9), .int (zI b9)]) (n := 3) (Nat.le_of_ble_eq_true rfl)
  rw [lg_entry_eq]
  generalize (lg_sl ([.int (zI v9), .int (zI a9), .int (zI b9)]) ++ List.replicate (3 - (lg_sl ([.int (zI v9), .int (zI a9), .int (zI b9)])).length) Slot.unset).toArray = ls at hl ⊢
  have hl : lv_has ls 3 [(0, .int (zI v9)), (1, .int (zI a9)), (2, .int (zI b9))] := hl
  refine lv_iload_n hx hb d_SW_within_0 rfl (lv_at hl 0 rfl) ?_
  refine lv_iload_n hx hb d_SW_within_1 rfl (lv_at hl 1 rfl) ?_
  refine ix_icmp_lt (tgt := 14) hx hb (zI_toInt (z := v9) (by omega) (by omega)) (zI_toInt (z := a9) (by omega) (by omega)) d_SW_within_2 (by decide) (fun c_2 => ?_) (fun c_2 => ?_)
  · refine lv_iconst (v := nI 0) hx hb d_SW_within_14 (by decide +kernel) ?_
    exact W.zret (v := nI 0) (ty := .boolean) hx hb hr (by decide +kernel) (fun t ht hW => ⟨⟨nI 0, (), rfl, by rw [b01_f (by omega)], trivial⟩, hS.F ht⟩) hS.2.2 d_SW_within_15
  refine lv_iload_n hx hb d_SW_within_5 rfl (lv_at hl 0 rfl) ?_
  refine lv_iload_n hx hb d_SW_within_6 rfl (lv_at hl 2 rfl) ?_
  refine ix_icmp_gt (tgt := 14) hx hb (zI_toInt (z := v9) (by omega) (by omega)) (zI_toInt (z := b9) (by omega) (by omega)) d_SW_within_7 (by decide) (fun c_7 => ?_) (fun c_7 => ?_)
  · refine lv_iconst (v := nI 0) hx hb d_SW_within_14 (by decide +kernel) ?_
    exact W.zret (v := nI 0) (ty := .boolean) hx hb hr (by decide +kernel) (fun t ht hW => ⟨⟨nI 0, (), rfl, by rw [b01_f (by omega)], trivial⟩, hS.F ht⟩) hS.2.2 d_SW_within_15
  refine lv_iconst (v := nI 1) hx hb d_SW_within_10 (by decide +kernel) ?_
  refine lv_goto (tgt := 15) hx hb d_SW_within_11 (by decide) ?_
  exact W.zret (v := nI 1) (ty := .boolean) hx hb hr (by decide +kernel) (fun t ht hW => ⟨⟨nI 1, (), rfl, by rw [b01_t (by omega)], trivial⟩, hS.F ht⟩) hS.2.2 d_SW_within_15
set_option maxHeartbeats 4000000 in
set_option maxRecDepth 100000 in
/-- checkWanted -/
theorem c_SW_checkWanted (l : Launch) (dC : Nat → ClassId) (dI : Nat → Nat → Nat) (x0 k0 v0 a0 j0 q qa : Nat) (cI : ClassId) (sc vw vs cnt : Nat) (a1 : Int) (ha1 : -2147483648 ≤ a1 ∧ a1 < 2147483648) (hG : 0 ≤ a1 ∧ a1 < cnt) (hL : cnt ≤ 9) : Met l y_SW_checkWanted w_SW_checkWanted { frames := 0, cells := 0, slots := 0, locals := 0 } (ro_Pc (dC, dI) vwCl [(cI, .int)] [.ref x0, .int (zI a1)] [(x0, .inr (6, [.ref k0, .ref v0, .ref a0, .ref j0, .ref q, .ref qa, .int (nI sc)])), (v0, .inr (5, [.ref vw, .ref vs, .int (nI cnt)]))]) (ro_Qv) 0 0 ro_no := by
  refine Met.ofW (cc := b_SW_checkWanted) (maxL := 2) (ret := none) (by decide) rfl ?_
  intro p e s m args below meth c s₁ B hml hv
  obtain ⟨rfl, hP, hK⟩ := hv
  have hx := B.exec
  have hb := B.bytes
  have hr := B.returns
  have hts := gw_h (atoms_spec (ws := w_SW_checkWanted) B.pre)
  have hown : s.vm.findClass R_SW = some m.cls := findClass_of_methodNamed B.named
  have hlocks := B.notSynchronized
  have hS : va_S ro_no s.heap s.heap [] := va_S.rf
  have hP : va_P (dC, dI) vwCl [(x0, .inr (6, [.ref k0, .ref v0, .ref a0, .ref j0, .ref q, .ref qa, .int (nI sc)])), (v0, .inr (5, [.ref vw, .ref vs, .int (nI cnt)]))] s.heap := hP
  have hl := lv_entry ([.ref x0, .int (zI a1)]) (n := 2) (Nat.le_of_ble_eq_true rfl)
  rw [lg_entry_eq]
  generalize (lg_sl ([.ref x0, .int (zI a1)]) ++ List.replicate (2 - (lg_sl ([.ref x0, .int (zI a1)])).length) Slot.unset).toArray = ls at hl ⊢
  have hl : lv_has ls 2 [(0, .ref x0), (1, .int (zI a1))] := hl
  refine lv_iload_n hx hb d_SW_checkWanted_0 rfl (lv_at hl 1 rfl) ?_
  refine ix_if_lt (tgt := 15) hx hb (zI_toInt (z := a1) (by omega) (by omega)) d_SW_checkWanted_1 (by decide) (fun c_1 => absurd c_1 (by omega)) (fun c_1 => ?_)
  refine lv_iload_n hx hb d_SW_checkWanted_4 rfl (lv_at hl 1 rfl) ?_
  refine lv_aload_n hx hb d_SW_checkWanted_5 rfl (lv_at hl 0 rfl) ?_
  refine va_get (D := (dC, dI)) (ci := 6) (v := .ref v0) (C := R_SW) (T := F_SW) (N := 7) hx hb hts in_SW hown hK hP 0 rfl rfl 1 (by decide) (hts _ m_223) (fun _ h9 => h9) rfl d_SW_checkWanted_6 ?_
  refine va_get (D := (dC, dI)) (ci := 5) (v := .int (nI cnt)) (C := R_WI) (T := F_WI) (N := 3) hx hb hts in_WI hown hK hP 1 rfl rfl 2 (by decide) (hts _ m_76) (fun _ h9 => h9) rfl d_SW_checkWanted_9 ?_
  refine ix_icmp_lt (tgt := 25) hx hb (zI_toInt (z := a1) (by omega) (by omega)) (nI_tI (n := cnt) (by omega)) d_SW_checkWanted_12 (by decide) (fun c_12 => ?_) (fun c_12 => absurd c_12 (by omega))
  exact W.vret hx hb hr (fun t ht hW => ⟨⟨(), rfl, trivial, trivial⟩, hS.F ht⟩) hS.2.2 d_SW_checkWanted_25
set_option maxHeartbeats 4000000 in
set_option maxRecDepth 100000 in
/-- checkWanted, thrown -/
theorem t_SW_checkWanted (l : Launch) (hst : l.stackTraces = false) (dC : Nat → ClassId) (dI : Nat → Nat → Nat) (e1 e2 : Nat) (x0 k0 v0 a0 j0 q qa : Nat) (cI : ClassId) (sc vw vs cnt : Nat) (a1 : Int) (ha1 : -2147483648 ≤ a1 ∧ a1 < 2147483648) (hG : ¬ (0 ≤ a1 ∧ a1 < cnt)) (hL : cnt ≤ 9) : TMet l y_SW_checkWanted w_SW_checkWanted { frames := 6, cells := 1, slots := 6, locals := 82 } (ey e1 e2 (ro_Pc (dC, dI) vwCl [(cI, .int)] [.ref x0, .int (zI a1)] [(x0, .inr (6, [.ref k0, .ref v0, .ref a0, .ref j0, .ref q, .ref qa, .int (nI sc)])), (v0, .inr (5, [.ref vw, .ref vs, .int (nI cnt)]))])) "java/lang/IndexOutOfBoundsException" B0 1 6 ro_no := by
  refine TMet.ofW (cc := b_SW_checkWanted) (maxL := 2) (ret := none) (by decide) rfl ?_
  intro p e s m args below meth c s₁ B hml hemp hv
  obtain ⟨⟨rfl, hP, hK⟩, hEY⟩ := hv
  have hx := B.exec
  have hb := B.bytes
  have hts := gw_h (atoms_spec (ws := w_SW_checkWanted) B.pre)
  have hown : s.vm.findClass R_SW = some m.cls := findClass_of_methodNamed B.named
  have hlocks := B.notSynchronized
  have hS : va_S ro_no s.heap s.heap [] := va_S.rf
  have hP : va_P (dC, dI) vwCl [(x0, .inr (6, [.ref k0, .ref v0, .ref a0, .ref j0, .ref q, .ref qa, .int (nI sc)])), (v0, .inr (5, [.ref vw, .ref vs, .int (nI cnt)]))] s.heap := hP
  have hl := lv_entry ([.ref x0, .int (zI a1)]) (n := 2) (Nat.le_of_ble_eq_true rfl)
  rw [lg_entry_eq]
  generalize (lg_sl ([.ref x0, .int (zI a1)]) ++ List.replicate (2 - (lg_sl ([.ref x0, .int (zI a1)])).length) Slot.unset).toArray = ls at hl ⊢
  have hl : lv_has ls 2 [(0, .ref x0), (1, .int (zI a1))] := hl
  refine lv_iload_n hx hb d_SW_checkWanted_0 rfl (lv_at hl 1 rfl) ?_
  refine ix_if_lt (tgt := 15) hx hb (zI_toInt (z := a1) (by omega) (by omega)) d_SW_checkWanted_1 (by decide) (fun c_1 => ?_) (fun c_1 => ?_)
  · obtain ⟨xq, hZ⟩ := hEY.2.1 (94, "no such wanted width") (by decide)
    exact th_new (E := "java/lang/IndexOutOfBoundsException") (own := "SlitWidths") (tx := "no such wanted width") (xq := xq) (a1 := e1) (a2 := e2) hx hb hst hown hts hEY.1 hZ (hts _ m_428) (hts _ m_429) (hts _ m_14) at_145 (by decide) hS (hl.1.trans hml.symm) hemp hlocks (Nat.le_of_ble_eq_true rfl) (Nat.le_of_ble_eq_true rfl) (Nat.le_of_ble_eq_true rfl) (Nat.le_of_ble_eq_true rfl) d_SW_checkWanted_15 d_SW_checkWanted_18 d_SW_checkWanted_19 d_SW_checkWanted_21 d_SW_checkWanted_24
  refine lv_iload_n hx hb d_SW_checkWanted_4 rfl (lv_at hl 1 rfl) ?_
  refine lv_aload_n hx hb d_SW_checkWanted_5 rfl (lv_at hl 0 rfl) ?_
  refine va_get (D := (dC, dI)) (ci := 6) (v := .ref v0) (C := R_SW) (T := F_SW) (N := 7) hx hb hts in_SW hown hK hP 0 rfl rfl 1 (by decide) (hts _ m_223) (fun _ h9 => h9) rfl d_SW_checkWanted_6 ?_
  refine va_get (D := (dC, dI)) (ci := 5) (v := .int (nI cnt)) (C := R_WI) (T := F_WI) (N := 3) hx hb hts in_WI hown hK hP 1 rfl rfl 2 (by decide) (hts _ m_76) (fun _ h9 => h9) rfl d_SW_checkWanted_9 ?_
  refine ix_icmp_lt (tgt := 25) hx hb (zI_toInt (z := a1) (by omega) (by omega)) (nI_tI (n := cnt) (by omega)) d_SW_checkWanted_12 (by decide) (fun c_12 => absurd c_12 (by omega)) (fun c_12 => ?_)
  obtain ⟨xq, hZ⟩ := hEY.2.1 (94, "no such wanted width") (by decide)
  exact th_new (E := "java/lang/IndexOutOfBoundsException") (own := "SlitWidths") (tx := "no such wanted width") (xq := xq) (a1 := e1) (a2 := e2) hx hb hst hown hts hEY.1 hZ (hts _ m_428) (hts _ m_429) (hts _ m_14) at_145 (by decide) hS (hl.1.trans hml.symm) hemp hlocks (Nat.le_of_ble_eq_true rfl) (Nat.le_of_ble_eq_true rfl) (Nat.le_of_ble_eq_true rfl) (Nat.le_of_ble_eq_true rfl) d_SW_checkWanted_15 d_SW_checkWanted_18 d_SW_checkWanted_19 d_SW_checkWanted_21 d_SW_checkWanted_24
set_option maxHeartbeats 4000000 in
set_option maxRecDepth 100000 in
/-- checkSetUp -/
theorem c_SW_checkSetUp (l : Launch) (dC : Nat → ClassId) (dI : Nat → Nat → Nat) (x0 k0 v0 a0 j0 q qa : Nat) (cI : ClassId) (sc : Nat) (a1 : Int) (ha1 : -2147483648 ≤ a1 ∧ a1 < 2147483648) (hG : 0 ≤ a1 ∧ a1 < sc) (hL : sc ≤ 9) : Met l y_SW_checkSetUp w_SW_checkSetUp { frames := 0, cells := 0, slots := 0, locals := 0 } (ro_Pc (dC, dI) vwCl [(cI, .int)] [.ref x0, .int (zI a1)] [(x0, .inr (6, [.ref k0, .ref v0, .ref a0, .ref j0, .ref q, .ref qa, .int (nI sc)]))]) (ro_Qv) 0 0 ro_no := by
  refine Met.ofW (cc := b_SW_checkSetUp) (maxL := 2) (ret := none) (by decide) rfl ?_
  intro p e s m args below meth c s₁ B hml hv
  obtain ⟨rfl, hP, hK⟩ := hv
  have hx := B.exec
  have hb := B.bytes
  have hr := B.returns
  have hts := gw_h (atoms_spec (ws := w_SW_checkSetUp) B.pre)
  have hown : s.vm.findClass R_SW = some m.cls := findClass_of_methodNamed B.named
  have hlocks := B.notSynchronized
  have hS : va_S ro_no s.heap s.heap [] := va_S.rf
  have hP : va_P (dC, dI) vwCl [(x0, .inr (6, [.ref k0, .ref v0, .ref a0, .ref j0, .ref q, .ref qa, .int (nI sc)]))] s.heap := hP
  have hl := lv_entry ([.ref x0, .int (zI a1)]) (n := 2) (Nat.le_of_ble_eq_true rfl)
  rw [lg_entry_eq]
  generalize (lg_sl ([.ref x0, .int (zI a1)]) ++ List.replicate (2 - (lg_sl ([.ref x0, .int (zI a1)])).length) Slot.unset).toArray = ls at hl ⊢
  have hl : lv_has ls 2 [(0, .ref x0), (1, .int (zI a1))] := hl
  refine lv_iload_n hx hb d_SW_checkSetUp_0 rfl (lv_at hl 1 rfl) ?_
  refine ix_if_lt (tgt := 12) hx hb (zI_toInt (z := a1) (by omega) (by omega)) d_SW_checkSetUp_1 (by decide) (fun c_1 => absurd c_1 (by omega)) (fun c_1 => ?_)
  refine lv_iload_n hx hb d_SW_checkSetUp_4 rfl (lv_at hl 1 rfl) ?_
  refine lv_aload_n hx hb d_SW_checkSetUp_5 rfl (lv_at hl 0 rfl) ?_
  refine va_get (D := (dC, dI)) (ci := 6) (v := .int (nI sc)) (C := R_SW) (T := F_SW) (N := 7) hx hb hts in_SW hown hK hP 0 rfl rfl 6 (by decide) (hts _ m_228) (fun _ h9 => h9) rfl d_SW_checkSetUp_6 ?_
  refine ix_icmp_lt (tgt := 22) hx hb (zI_toInt (z := a1) (by omega) (by omega)) (nI_tI (n := sc) (by omega)) d_SW_checkSetUp_9 (by decide) (fun c_9 => ?_) (fun c_9 => absurd c_9 (by omega))
  exact W.vret hx hb hr (fun t ht hW => ⟨⟨(), rfl, trivial, trivial⟩, hS.F ht⟩) hS.2.2 d_SW_checkSetUp_22
set_option maxHeartbeats 4000000 in
set_option maxRecDepth 100000 in
/-- checkSetUp, thrown -/
theorem t_SW_checkSetUp (l : Launch) (hst : l.stackTraces = false) (dC : Nat → ClassId) (dI : Nat → Nat → Nat) (e1 e2 : Nat) (x0 k0 v0 a0 j0 q qa : Nat) (cI : ClassId) (sc : Nat) (a1 : Int) (ha1 : -2147483648 ≤ a1 ∧ a1 < 2147483648) (hG : ¬ (0 ≤ a1 ∧ a1 < sc)) (hL : sc ≤ 9) : TMet l y_SW_checkSetUp w_SW_checkSetUp { frames := 6, cells := 1, slots := 6, locals := 82 } (ey e1 e2 (ro_Pc (dC, dI) vwCl [(cI, .int)] [.ref x0, .int (zI a1)] [(x0, .inr (6, [.ref k0, .ref v0, .ref a0, .ref j0, .ref q, .ref qa, .int (nI sc)]))])) "java/lang/IndexOutOfBoundsException" B0 1 6 ro_no := by
  refine TMet.ofW (cc := b_SW_checkSetUp) (maxL := 2) (ret := none) (by decide) rfl ?_
  intro p e s m args below meth c s₁ B hml hemp hv
  obtain ⟨⟨rfl, hP, hK⟩, hEY⟩ := hv
  have hx := B.exec
  have hb := B.bytes
  have hts := gw_h (atoms_spec (ws := w_SW_checkSetUp) B.pre)
  have hown : s.vm.findClass R_SW = some m.cls := findClass_of_methodNamed B.named
  have hlocks := B.notSynchronized
  have hS : va_S ro_no s.heap s.heap [] := va_S.rf
  have hP : va_P (dC, dI) vwCl [(x0, .inr (6, [.ref k0, .ref v0, .ref a0, .ref j0, .ref q, .ref qa, .int (nI sc)]))] s.heap := hP
  have hl := lv_entry ([.ref x0, .int (zI a1)]) (n := 2) (Nat.le_of_ble_eq_true rfl)
  rw [lg_entry_eq]
  generalize (lg_sl ([.ref x0, .int (zI a1)]) ++ List.replicate (2 - (lg_sl ([.ref x0, .int (zI a1)])).length) Slot.unset).toArray = ls at hl ⊢
  have hl : lv_has ls 2 [(0, .ref x0), (1, .int (zI a1))] := hl
  refine lv_iload_n hx hb d_SW_checkSetUp_0 rfl (lv_at hl 1 rfl) ?_
  refine ix_if_lt (tgt := 12) hx hb (zI_toInt (z := a1) (by omega) (by omega)) d_SW_checkSetUp_1 (by decide) (fun c_1 => ?_) (fun c_1 => ?_)
  · obtain ⟨xq, hZ⟩ := hEY.2.1 (199, "no such set-up") (by decide)
    exact th_new (E := "java/lang/IndexOutOfBoundsException") (own := "SlitWidths") (tx := "no such set-up") (xq := xq) (a1 := e1) (a2 := e2) hx hb hst hown hts hEY.1 hZ (hts _ m_428) (hts _ m_429) (hts _ m_14) at_145 (by decide) hS (hl.1.trans hml.symm) hemp hlocks (Nat.le_of_ble_eq_true rfl) (Nat.le_of_ble_eq_true rfl) (Nat.le_of_ble_eq_true rfl) (Nat.le_of_ble_eq_true rfl) d_SW_checkSetUp_12 d_SW_checkSetUp_15 d_SW_checkSetUp_16 d_SW_checkSetUp_18 d_SW_checkSetUp_21
  refine lv_iload_n hx hb d_SW_checkSetUp_4 rfl (lv_at hl 1 rfl) ?_
  refine lv_aload_n hx hb d_SW_checkSetUp_5 rfl (lv_at hl 0 rfl) ?_
  refine va_get (D := (dC, dI)) (ci := 6) (v := .int (nI sc)) (C := R_SW) (T := F_SW) (N := 7) hx hb hts in_SW hown hK hP 0 rfl rfl 6 (by decide) (hts _ m_228) (fun _ h9 => h9) rfl d_SW_checkSetUp_6 ?_
  refine ix_icmp_lt (tgt := 22) hx hb (zI_toInt (z := a1) (by omega) (by omega)) (nI_tI (n := sc) (by omega)) d_SW_checkSetUp_9 (by decide) (fun c_9 => absurd c_9 (by omega)) (fun c_9 => ?_)
  obtain ⟨xq, hZ⟩ := hEY.2.1 (199, "no such set-up") (by decide)
  exact th_new (E := "java/lang/IndexOutOfBoundsException") (own := "SlitWidths") (tx := "no such set-up") (xq := xq) (a1 := e1) (a2 := e2) hx hb hst hown hts hEY.1 hZ (hts _ m_428) (hts _ m_429) (hts _ m_14) at_145 (by decide) hS (hl.1.trans hml.symm) hemp hlocks (Nat.le_of_ble_eq_true rfl) (Nat.le_of_ble_eq_true rfl) (Nat.le_of_ble_eq_true rfl) (Nat.le_of_ble_eq_true rfl) d_SW_checkSetUp_12 d_SW_checkSetUp_15 d_SW_checkSetUp_16 d_SW_checkSetUp_18 d_SW_checkSetUp_21
