set_option maxHeartbeats 4000000 in
set_option maxRecDepth 100000 in
/-- shift(..), no such set-up -/
theorem t_SW_shift1 (l : Launch) (hst : l.stackTraces = false) (dC : Nat → ClassId) (dI : Nat → Nat → Nat) (e1 e2 : Nat) (x0 k0 v0 a0 j0 q qa : Nat) (cI : ClassId) (sc : Nat) (hsc : sc ≤ 9) (a1 : Int) (ha1 : -2147483648 ≤ a1 ∧ a1 < 2147483648) (hG : ¬ (0 ≤ a1 ∧ a1 < sc)) : TMet l y_SW_shift w_SW_shift { frames := 7, cells := 1, slots := 6, locals := 103 } (ey e1 e2 (ro_Pc (dC, dI) vwCl [(cI, .int)] [.ref x0, .int (zI a1)] [(x0, .inr (6, [.ref k0, .ref v0, .ref a0, .ref j0, .ref q, .ref qa, .int (nI sc)]))])) "java/lang/IndexOutOfBoundsException" B0 1 6 ro_no := by
  refine TMet.ofW (cc := b_SW_shift) (maxL := 3) (ret := (some .int)) (by decide) rfl ?_
  intro p e s m args below meth c s₁ B hml hemp hv
  obtain ⟨⟨rfl, hP, hK⟩, hEY⟩ := hv
  have hx := B.exec
  have hb := B.bytes
  have hts := gw_h (atoms_spec (ws := w_SW_shift) B.pre)
  have hown : s.vm.findClass R_SW = some m.cls := findClass_of_methodNamed B.named
  have hlocks := B.notSynchronized
  have hS : va_S ro_no s.heap s.heap [] := va_S.rf
  have hP : va_P (dC, dI) vwCl [(x0, .inr (6, [.ref k0, .ref v0, .ref a0, .ref j0, .ref q, .ref qa, .int (nI sc)]))] s.heap := hP
  have hl := lv_entry ([.ref x0, .int (zI a1)]) (n := 3) (Nat.le_of_ble_eq_true rfl)
  rw [lg_entry_eq]
  generalize (lg_sl ([.ref x0, .int (zI a1)]) ++ List.replicate (3 - (lg_sl ([.ref x0, .int (zI a1)])).length) Slot.unset).toArray = ls at hl ⊢
  have hl : lv_has ls 3 [(0, .ref x0), (1, .int (zI a1))] := hl
  refine lv_aload_n hx hb d_SW_shift_0 rfl (lv_at hl 0 rfl) ?_
  refine lv_iload_n hx hb d_SW_shift_1 rfl (lv_at hl 1 rfl) ?_
  have hPc := hP.sub (ws' := [(x0, .inr (6, [.ref k0, .ref v0, .ref a0, .ref j0, .ref q, .ref qa, .int (nI sc)]))]) [0] rfl
  have hEH := hEY.ro hS
  refine th_runV (As := [.int (zI a1)]) (rest := []) ⟨hx, hb, hml, hown, hts⟩ (t_SW_checkSetUp l hst dC dI e1 e2 x0 k0 v0 a0 j0 q qa cI sc a1 ha1 (by omega) (by omega)) (cwV 1 hts (gw_V m_499 m_501 s_13 m_1 m_502) rfl rfl rfl (by decide +kernel) ⟨Nat.le_of_ble_eq_true rfl, Nat.le_of_ble_eq_true rfl⟩) ⟨ey_blind ro_blind, va_recv hK hPc (ci := 6) (q0 := 0) rfl rfl, fun U hU hW => ⟨⟨rfl, by rw [hU]; exact hPc, va_K.moved hW.alike hK⟩, by rw [hU]; exact EY.warm hW hEH⟩⟩ rfl hl.1 rfl (Nat.le_of_ble_eq_true rfl) d_SW_shift_2 ⟨Nat.le_of_ble_eq_true rfl, Nat.le_of_ble_eq_true rfl⟩ (fun q9 ce st9 t9 H1 L9 h09 h19 hW9 hB9 hce hcv hcl hL9 => ?_)
  exact TW.out hemp hlocks hce hcv hcl (fun t2 ht2 _ => B0.ro hS h09 h19 hB9 ht2) (fun z hz => (List.mem_append.mp hz).elim (hS.2.2 z) (hL9 z))
set_option maxHeartbeats 4000000 in
set_option maxRecDepth 100000 in
/-- shift(..), no left -/
theorem t_SW_shift2 (l : Launch) (hst : l.stackTraces = false) (dC : Nat → ClassId) (dI : Nat → Nat → Nat) (e1 e2 : Nat) (x0 k0 v0 a0 j0 q qa : Nat) (cI : ClassId) (cS : ClassId) (su : Nat → Option Nat) (ad : Nat → Nat → Nat) (sa : Nat → Nat → Nat → Nat) (sv : Nat → Nat → Nat) (sc : Nat) (hsc : sc ≤ 9) (hsu : ∀ i, i < 9 → su i = some (ad i 0)) (hso : ∀ i, i < sc → SOK sa sv i) (jf jt : Nat) (fr to : Nat → Nat) (dc : Nat) (hdc : dc ≤ 10) (hdf : ∀ d, d < dc → fr d ≤ 20000 ∧ to d ≤ 20000) (a1 : Int) (ha1 : -2147483648 ≤ a1 ∧ a1 < 2147483648) (hG : 0 ≤ a1 ∧ a1 < sc) (hss : SS (sa a1.toNat 1) (sa a1.toNat 2) fr to (sv a1.toNat 0) dc (sv a1.toNat 5) (sv a1.toNat 3 - sv a1.toNat 5 - sv a1.toNat 6) (-1)) : TMet l y_SW_shift w_SW_shift { frames := 7, cells := 1, slots := 6, locals := 103 } (ey e1 e2 (ro_Pc (dC, dI) vwCl [(cI, .int), (cS, .object "SlitWidths$SetUp")] [.ref x0, .int (zI a1)] ([(x0, .inr (6, [.ref k0, .ref v0, .ref a0, .ref j0, .ref q, .ref qa, .int (nI sc)])), (qa, .inl (cS, 9, .inr (.inr (.inr (.inr su))))), (j0, .inr (1, [.ref jf, .ref jt, .int (nI dc)])), (jf, .inl (cI, 10, .inl (aN fr))), (jt, .inl (cI, 10, .inl (aN to)))] ++ suT cI ad sa sv 9))) "java/lang/UnsupportedOperationException" B0 1 6 ro_no := by
  refine TMet.ofW (cc := b_SW_shift) (maxL := 3) (ret := (some .int)) (by decide) rfl ?_
  intro p e s m args below meth c s₁ B hml hemp hv
  obtain ⟨⟨rfl, hP, hK⟩, hEY⟩ := hv
  have hx := B.exec
  have hb := B.bytes
  have hts := gw_h (atoms_spec (ws := w_SW_shift) B.pre)
  have hown : s.vm.findClass R_SW = some m.cls := findClass_of_methodNamed B.named
  have hlocks := B.notSynchronized
  have hS : va_S ro_no s.heap s.heap [] := va_S.rf
  have hP : va_P (dC, dI) vwCl ([(x0, .inr (6, [.ref k0, .ref v0, .ref a0, .ref j0, .ref q, .ref qa, .int (nI sc)])), (qa, .inl (cS, 9, .inr (.inr (.inr (.inr su))))), (j0, .inr (1, [.ref jf, .ref jt, .int (nI dc)])), (jf, .inl (cI, 10, .inl (aN fr))), (jt, .inl (cI, 10, .inl (aN to)))] ++ suT cI ad sa sv 9) s.heap := hP
  have hl := lv_entry ([.ref x0, .int (zI a1)]) (n := 3) (Nat.le_of_ble_eq_true rfl)
  rw [lg_entry_eq]
  generalize (lg_sl ([.ref x0, .int (zI a1)]) ++ List.replicate (3 - (lg_sl ([.ref x0, .int (zI a1)])).length) Slot.unset).toArray = ls at hl ⊢
  have hl : lv_has ls 3 [(0, .ref x0), (1, .int (zI a1))] := hl
  have hs1 := hso a1.toNat (by omega)
  refine lv_aload_n hx hb d_SW_shift_0 rfl (lv_at hl 0 rfl) ?_
  refine lv_iload_n hx hb d_SW_shift_1 rfl (lv_at hl 1 rfl) ?_
  have hPc := hP.sub (ws' := [(x0, .inr (6, [.ref k0, .ref v0, .ref a0, .ref j0, .ref q, .ref qa, .int (nI sc)]))]) [0] rfl
  refine ro_callv (va_runV (As := [.int (zI a1)]) (rest := []) ⟨hx, hb, hml, hown, hts⟩ (c_SW_checkSetUp l dC dI x0 k0 v0 a0 j0 q qa cI sc a1 ha1 (by omega) (by omega)) (cwV 1 hts (gw_V m_499 m_501 s_13 m_1 m_502) rfl rfl rfl (by decide +kernel) ⟨Nat.le_of_ble_eq_true rfl, Nat.le_of_ble_eq_true rfl⟩) ⟨ro_blind, va_recv hK hPc (ci := 6) (q0 := 0) rfl rfl, fun U hU hW => ⟨rfl, by rw [hU]; exact hPc, va_K.moved hW.alike (hK.sub (tys' := [(cI, .int)]) [0] rfl)⟩⟩ rfl rfl hl.1 rfl (lv_room (Nat.le_of_ble_eq_true rfl)) d_SW_shift_2 ⟨Nat.le_of_ble_eq_true rfl, Nat.le_of_ble_eq_true rfl⟩) hS hP (fun H locs hP hS => ?_)
  refine lv_aload_n hx hb d_SW_shift_5 rfl (lv_at hl 0 rfl) ?_
  refine va_get (D := (dC, dI)) (ci := 6) (v := .ref qa) (C := R_SW) (T := F_SW) (N := 7) hx hb hts in_SW hown hK hP 0 rfl rfl 5 (by decide) (hts _ m_227) (fun _ h9 => h9) rfl d_SW_shift_6 ?_
  refine lv_iload_n hx hb d_SW_shift_9 rfl (lv_at hl 1 rfl) ?_
  refine lv_topr (show _ = nI a1.toNat from z_toN (by omega)) ?_
  refine ix_aldq (i := a1.toNat) (v := ad a1.toNat 0) hx hb hK hP 1 1 rfl rfl (by omega) (by decide) (hsu _ (by omega)) d_SW_shift_10 ?_
  refine lv_aload_n hx hb d_SW_shift_11 rfl (lv_at hl 0 rfl) ?_
  refine va_get (D := (dC, dI)) (ci := 6) (v := .ref j0) (C := R_SW) (T := F_SW) (N := 7) hx hb hts in_SW hown hK hP 0 rfl rfl 3 (by decide) (hts _ m_225) (fun _ h9 => h9) rfl d_SW_shift_12 ?_
  have hPc : va_P (dC, dI) vwCl _ H := (((su_at hP (i := a1.toNat) (by omega)).sub [0, 2, 3] rfl).app (hP.sub [2, 3, 4] rfl))
  refine ro_calli (va_runV (As := [.ref j0]) (rest := []) ⟨hx, hb, hml, hown, hts⟩ (c_SU_leastSoundLeft l dC dI (ad a1.toNat 0) (ad a1.toNat 1) (ad a1.toNat 2) (ad a1.toNat 3) (ad a1.toNat 4) cI (sa a1.toNat 1) (sa a1.toNat 2) (sv a1.toNat 0) (sv a1.toNat 1) (sv a1.toNat 2) (sv a1.toNat 3) (sv a1.toNat 4) (sv a1.toNat 5) (sv a1.toNat 6) j0 jf jt fr to dc hs1.1 hdc (fun k hk => by have := hs1.2.2.2.2.2 k hk; omega) (fun k hk => by have := hs1.2.2.2.2.2 k hk; omega) (fun d hd => (hdf d hd).2) (fun d hd => (hdf d hd).1) hs1.2.2.2.2.1 hs1.2.2.1) (cwV 1 hts (gw_V m_557 m_558 m_559 m_7 m_560) rfl rfl rfl (by decide +kernel) ⟨Nat.le_of_ble_eq_true rfl, Nat.le_of_ble_eq_true rfl⟩) ⟨ro_blind, va_recv hK hPc (ci := 4) (q0 := 0) rfl rfl, fun U hU hW => ⟨rfl, by rw [hU]; exact hPc, va_K.moved hW.alike (hK.sub (tys' := [(cI, .int)]) [0] rfl)⟩⟩ rfl rfl hl.1 rfl (lv_room (Nat.le_of_ble_eq_true rfl)) d_SW_shift_15 ⟨Nat.le_of_ble_eq_true rfl, Nat.le_of_ble_eq_true rfl⟩) hS hP (fun r H locs er hP hS => ?_)
  obtain ⟨z9, rfl, hz9⟩ := er
  obtain rfl := SS.uniq hz9 hss
  refine lv_istore_n (lv' := [(2, .int (zI (-1))), (0, .ref x0), (1, .int (zI a1))]) hx hb d_SW_shift_18 rfl hl (by decide) rfl (fun ls hl => ?_)
  refine lv_iload_n hx hb d_SW_shift_19 rfl (lv_at hl 0 rfl) ?_
  refine lv_iconst (v := zI (-1)) hx hb d_SW_shift_20 (by decide +kernel) ?_
  refine ix_icmp_ne (tgt := 34) hx hb (zI_toInt (z := -1) (by omega) (by omega)) (zI_toInt (z := -1) (by omega) (by omega)) d_SW_shift_21 (by decide) (fun c_21 => absurd c_21 (by omega)) (fun c_21 => ?_)
  obtain ⟨xq, hZ⟩ := hEY.2.1 (197, "no left without a defect in a strip") (by decide)
  exact th_new (E := "java/lang/UnsupportedOperationException") (own := "SlitWidths") (tx := "no left without a defect in a strip") (xq := xq) (a1 := e1) (a2 := e2) hx hb hst hown hts hEY.1 hZ (hts _ m_460) (hts _ m_461) (hts _ m_17) at_128 (by decide) hS (hl.1.trans hml.symm) hemp hlocks (Nat.le_of_ble_eq_true rfl) (Nat.le_of_ble_eq_true rfl) (Nat.le_of_ble_eq_true rfl) (Nat.le_of_ble_eq_true rfl) d_SW_shift_24 d_SW_shift_27 d_SW_shift_28 d_SW_shift_30 d_SW_shift_33
set_option maxHeartbeats 4000000 in
set_option maxRecDepth 100000 in
/-- shift(..), a good one -/
theorem c_SW_shift (l : Launch) (dC : Nat → ClassId) (dI : Nat → Nat → Nat) (sz : Nat) (x0 k0 v0 a0 j0 q qa : Nat) (cI : ClassId) (cS : ClassId) (su : Nat → Option Nat) (ad : Nat → Nat → Nat) (sa : Nat → Nat → Nat → Nat) (sv : Nat → Nat → Nat) (sc : Nat) (hsc : sc ≤ 9) (hsu : ∀ i, i < 9 → su i = some (ad i 0)) (hso : ∀ i, i < sc → SOK sa sv i) (jf jt : Nat) (fr to : Nat → Nat) (dc : Nat) (hdc : dc ≤ 10) (hdf : ∀ d, d < dc → fr d ≤ 20000 ∧ to d ≤ 20000) (qn qs qf tt sk : Nat) (a1 : Int) (ha1 : -2147483648 ≤ a1 ∧ a1 < 2147483648) (hG : 0 ≤ a1 ∧ a1 < sc) (L9 : Nat) (hL9 : L9 ≤ 20000) (hss : SS (sa a1.toNat 1) (sa a1.toNat 2) fr to (sv a1.toNat 0) dc (sv a1.toNat 5) (sv a1.toNat 3 - sv a1.toNat 5 - sv a1.toNat 6) (L9 : Int)) : Met l y_SW_shift w_SW_shift { frames := 4, cells := 0, slots := 0, locals := 91 } (rw_Pc (dC, dI) vwCl [(cI, .int), (cS, .object "SlitWidths$SetUp")] sz [.ref x0, .int (zI a1)] ([(x0, .inr (6, [.ref k0, .ref v0, .ref a0, .ref j0, .ref q, .ref qa, .int (nI sc)])), (qa, .inl (cS, 9, .inr (.inr (.inr (.inr su))))), (j0, .inr (1, [.ref jf, .ref jt, .int (nI dc)])), (jf, .inl (cI, 10, .inl (aN fr))), (jt, .inl (cI, 10, .inl (aN to))), (q, .inr (3, [.ref qn, .int (nI tt), .int (nI sk), .ref qs, .ref qf]))] ++ suT cI ad sa sv 9)) (va_Qi (fun (r : Int32) (u : Unit) => r = nI L9) (rw_B (dC, dI) vwCl [(cI, .int), (cS, .object "SlitWidths$SetUp")] (va_A ([(x0, .inr (6, [.ref k0, .ref v0, .ref a0, .ref j0, .ref q, .ref qa, .int (nI sc)])), (qa, .inl (cS, 9, .inr (.inr (.inr (.inr su))))), (j0, .inr (1, [.ref jf, .ref jt, .int (nI dc)])), (jf, .inl (cI, 10, .inl (aN fr))), (jt, .inl (cI, 10, .inl (aN to))), (q, .inr (3, [.ref qn, .int (nI tt), .int (nI sk), .ref qs, .ref qf]))] ++ suT cI ad sa sv 9) sz) (fun u : Unit => ([(x0, .inr (6, [.ref k0, .ref v0, .ref a0, .ref j0, .ref q, .ref qa, .int (nI sc)])), (qa, .inl (cS, 9, .inr (.inr (.inr (.inr su))))), (j0, .inr (1, [.ref jf, .ref jt, .int (nI dc)])), (jf, .inl (cI, 10, .inl (aN fr))), (jt, .inl (cI, 10, .inl (aN to))), (q, .inr (3, [.ref qn, .int (nI tt), .int (nI 0), .ref qs, .ref qf]))] ++ suT cI ad (upG sa a1.toNat (sa a1.toNat)) (upG sv a1.toNat (fv7 (sv a1.toNat 0) L9 (sv a1.toNat 2) (sv a1.toNat 3) (sv a1.toNat 4) (sv a1.toNat 5) (sv a1.toNat 6))) 9))) (va_A ([(x0, .inr (6, [.ref k0, .ref v0, .ref a0, .ref j0, .ref q, .ref qa, .int (nI sc)])), (qa, .inl (cS, 9, .inr (.inr (.inr (.inr su))))), (j0, .inr (1, [.ref jf, .ref jt, .int (nI dc)])), (jf, .inl (cI, 10, .inl (aN fr))), (jt, .inl (cI, 10, .inl (aN to))), (q, .inr (3, [.ref qn, .int (nI tt), .int (nI sk), .ref qs, .ref qf]))] ++ suT cI ad sa sv 9) sz)) 0 0 (va_A ([(x0, .inr (6, [.ref k0, .ref v0, .ref a0, .ref j0, .ref q, .ref qa, .int (nI sc)])), (qa, .inl (cS, 9, .inr (.inr (.inr (.inr su))))), (j0, .inr (1, [.ref jf, .ref jt, .int (nI dc)])), (jf, .inl (cI, 10, .inl (aN fr))), (jt, .inl (cI, 10, .inl (aN to))), (q, .inr (3, [.ref qn, .int (nI tt), .int (nI sk), .ref qs, .ref qf]))] ++ suT cI ad sa sv 9) sz) := by
  refine Met.ofW (cc := b_SW_shift) (maxL := 3) (ret := (some .int)) (by decide) rfl ?_
  intro p e s m args below meth c s₁ B hml hv
  obtain ⟨rfl, hsz, hP, hK, hD0⟩ := hv
  have hx := B.exec
  have hb := B.bytes
  have hr := B.returns
  have hts := gw_h (atoms_spec (ws := w_SW_shift) B.pre)
  have hown : s.vm.findClass R_SW = some m.cls := findClass_of_methodNamed B.named
  have hlocks := B.notSynchronized
  subst hsz
  have hD := hD0.self (sz := s.heap.size)
  generalize hAe : va_A ([(x0, .inr (6, [.ref k0, .ref v0, .ref a0, .ref j0, .ref q, .ref qa, .int (nI sc)])), (qa, .inl (cS, 9, .inr (.inr (.inr (.inr su))))), (j0, .inr (1, [.ref jf, .ref jt, .int (nI dc)])), (jf, .inl (cI, 10, .inl (aN fr))), (jt, .inl (cI, 10, .inl (aN to))), (q, .inr (3, [.ref qn, .int (nI tt), .int (nI sk), .ref qs, .ref qf]))] ++ suT cI ad sa sv 9) s.heap.size = A at hD ⊢
  have hA : ∀ q : Nat, s.heap.size ≤ q → A q := fun q h => by rw [← hAe]; exact Or.inr h
  have hS : va_S A s.heap s.heap [] := va_S.rf
  have hP : va_P (dC, dI) vwCl ([(x0, .inr (6, [.ref k0, .ref v0, .ref a0, .ref j0, .ref q, .ref qa, .int (nI sc)])), (qa, .inl (cS, 9, .inr (.inr (.inr (.inr su))))), (j0, .inr (1, [.ref jf, .ref jt, .int (nI dc)])), (jf, .inl (cI, 10, .inl (aN fr))), (jt, .inl (cI, 10, .inl (aN to))), (q, .inr (3, [.ref qn, .int (nI tt), .int (nI sk), .ref qs, .ref qf]))] ++ suT cI ad sa sv 9) s.heap := hP
  have hl := lv_entry ([.ref x0, .int (zI a1)]) (n := 3) (Nat.le_of_ble_eq_true rfl)
  rw [lg_entry_eq]
  generalize (lg_sl ([.ref x0, .int (zI a1)]) ++ List.replicate (3 - (lg_sl ([.ref x0, .int (zI a1)])).length) Slot.unset).toArray = ls at hl ⊢
  have hl : lv_has ls 3 [(0, .ref x0), (1, .int (zI a1))] := hl
  have hs1 := hso a1.toNat (by omega)
  refine lv_aload_n hx hb d_SW_shift_0 rfl (lv_at hl 0 rfl) ?_
  refine lv_iload_n hx hb d_SW_shift_1 rfl (lv_at hl 1 rfl) ?_
  have hPc := hP.sub (ws' := [(x0, .inr (6, [.ref k0, .ref v0, .ref a0, .ref j0, .ref q, .ref qa, .int (nI sc)]))]) [0] rfl
  refine ro_callv (va_runV (As := [.int (zI a1)]) (rest := []) ⟨hx, hb, hml, hown, hts⟩ (c_SW_checkSetUp l dC dI x0 k0 v0 a0 j0 q qa cI sc a1 ha1 (by omega) (by omega)) (cwV 1 hts (gw_V m_499 m_501 s_13 m_1 m_502) rfl rfl rfl (by decide +kernel) ⟨Nat.le_of_ble_eq_true rfl, Nat.le_of_ble_eq_true rfl⟩) ⟨ro_blind, va_recv hK hPc (ci := 6) (q0 := 0) rfl rfl, fun U hU hW => ⟨rfl, by rw [hU]; exact hPc, va_K.moved hW.alike (hK.sub (tys' := [(cI, .int)]) [0] rfl)⟩⟩ rfl rfl hl.1 rfl (lv_room (Nat.le_of_ble_eq_true rfl)) d_SW_shift_2 ⟨Nat.le_of_ble_eq_true rfl, Nat.le_of_ble_eq_true rfl⟩) hS hP (fun H locs hP hS => ?_)
  refine lv_aload_n hx hb d_SW_shift_5 rfl (lv_at hl 0 rfl) ?_
  refine va_get (D := (dC, dI)) (ci := 6) (v := .ref qa) (C := R_SW) (T := F_SW) (N := 7) hx hb hts in_SW hown hK hP 0 rfl rfl 5 (by decide) (hts _ m_227) (fun _ h9 => h9) rfl d_SW_shift_6 ?_
  refine lv_iload_n hx hb d_SW_shift_9 rfl (lv_at hl 1 rfl) ?_
  refine lv_topr (show _ = nI a1.toNat from z_toN (by omega)) ?_
  refine ix_aldq (i := a1.toNat) (v := ad a1.toNat 0) hx hb hK hP 1 1 rfl rfl (by omega) (by decide) (hsu _ (by omega)) d_SW_shift_10 ?_
  refine lv_aload_n hx hb d_SW_shift_11 rfl (lv_at hl 0 rfl) ?_
  refine va_get (D := (dC, dI)) (ci := 6) (v := .ref j0) (C := R_SW) (T := F_SW) (N := 7) hx hb hts in_SW hown hK hP 0 rfl rfl 3 (by decide) (hts _ m_225) (fun _ h9 => h9) rfl d_SW_shift_12 ?_
  have hPc : va_P (dC, dI) vwCl _ H := (((su_at hP (i := a1.toNat) (by omega)).sub [0, 2, 3] rfl).app (hP.sub [2, 3, 4] rfl))
  refine ro_calli (va_runV (As := [.ref j0]) (rest := []) ⟨hx, hb, hml, hown, hts⟩ (c_SU_leastSoundLeft l dC dI (ad a1.toNat 0) (ad a1.toNat 1) (ad a1.toNat 2) (ad a1.toNat 3) (ad a1.toNat 4) cI (sa a1.toNat 1) (sa a1.toNat 2) (sv a1.toNat 0) (sv a1.toNat 1) (sv a1.toNat 2) (sv a1.toNat 3) (sv a1.toNat 4) (sv a1.toNat 5) (sv a1.toNat 6) j0 jf jt fr to dc hs1.1 hdc (fun k hk => by have := hs1.2.2.2.2.2 k hk; omega) (fun k hk => by have := hs1.2.2.2.2.2 k hk; omega) (fun d hd => (hdf d hd).2) (fun d hd => (hdf d hd).1) hs1.2.2.2.2.1 hs1.2.2.1) (cwV 1 hts (gw_V m_557 m_558 m_559 m_7 m_560) rfl rfl rfl (by decide +kernel) ⟨Nat.le_of_ble_eq_true rfl, Nat.le_of_ble_eq_true rfl⟩) ⟨ro_blind, va_recv hK hPc (ci := 4) (q0 := 0) rfl rfl, fun U hU hW => ⟨rfl, by rw [hU]; exact hPc, va_K.moved hW.alike (hK.sub (tys' := [(cI, .int)]) [0] rfl)⟩⟩ rfl rfl hl.1 rfl (lv_room (Nat.le_of_ble_eq_true rfl)) d_SW_shift_15 ⟨Nat.le_of_ble_eq_true rfl, Nat.le_of_ble_eq_true rfl⟩) hS hP (fun r H locs er hP hS => ?_)
  obtain ⟨z9, rfl, hz9⟩ := er
  obtain rfl := SS.uniq hz9 hss
  refine lv_topr (show _ = nI L9 from (zI_n L9).symm) ?_
  refine lv_istore_n (lv' := [(2, .int (nI L9)), (0, .ref x0), (1, .int (zI a1))]) hx hb d_SW_shift_18 rfl hl (by decide) rfl (fun ls hl => ?_)
  refine lv_iload_n hx hb d_SW_shift_19 rfl (lv_at hl 0 rfl) ?_
  refine lv_iconst (v := zI (-1)) hx hb d_SW_shift_20 (by decide +kernel) ?_
  refine ix_icmp_ne (tgt := 34) hx hb (nI_tI (n := L9) (by omega)) (zI_toInt (z := -1) (by omega) (by omega)) d_SW_shift_21 (by decide) (fun c_21 => ?_) (fun c_21 => absurd c_21 (by omega))
  have hP := su_out hP a1.toNat (by omega)
  have hD := su_outD hD a1.toNat (by omega)
  have hP : va_P (dC, dI) vwCl ([(x0, .inr (6, [.ref k0, .ref v0, .ref a0, .ref j0, .ref q, .ref qa, .int (nI sc)])), (qa, .inl (cS, 9, .inr (.inr (.inr (.inr su))))), (j0, .inr (1, [.ref jf, .ref jt, .int (nI dc)])), (jf, .inl (cI, 10, .inl (aN fr))), (jt, .inl (cI, 10, .inl (aN to))), (q, .inr (3, [.ref qn, .int (nI tt), .int (nI sk), .ref qs, .ref qf])), (ad a1.toNat 0, .inr (4, [.ref (ad a1.toNat 1), .ref (ad a1.toNat 2), .ref (ad a1.toNat 3), .int (nI (sv a1.toNat 0)), .int (nI (sv a1.toNat 1)), .ref (ad a1.toNat 4), .int (nI (sv a1.toNat 2)), .int (nI (sv a1.toNat 3)), .int (nI (sv a1.toNat 4)), .int (nI (sv a1.toNat 5)), .int (nI (sv a1.toNat 6))])), (ad a1.toNat 1, .inl (cI, 30, .inl (aN (sa a1.toNat 0)))), (ad a1.toNat 2, .inl (cI, 30, .inl (aN (sa a1.toNat 1)))), (ad a1.toNat 3, .inl (cI, 30, .inl (aN (sa a1.toNat 2)))), (ad a1.toNat 4, .inl (cI, 60, .inl (aN (sa a1.toNat 3))))] ++ suO cI ad sa sv a1.toNat 9) H := hP
  have hD : va_D A ([(x0, .inr (6, [.ref k0, .ref v0, .ref a0, .ref j0, .ref q, .ref qa, .int (nI sc)])), (qa, .inl (cS, 9, .inr (.inr (.inr (.inr su))))), (j0, .inr (1, [.ref jf, .ref jt, .int (nI dc)])), (jf, .inl (cI, 10, .inl (aN fr))), (jt, .inl (cI, 10, .inl (aN to))), (q, .inr (3, [.ref qn, .int (nI tt), .int (nI sk), .ref qs, .ref qf])), (ad a1.toNat 0, .inr (4, [.ref (ad a1.toNat 1), .ref (ad a1.toNat 2), .ref (ad a1.toNat 3), .int (nI (sv a1.toNat 0)), .int (nI (sv a1.toNat 1)), .ref (ad a1.toNat 4), .int (nI (sv a1.toNat 2)), .int (nI (sv a1.toNat 3)), .int (nI (sv a1.toNat 4)), .int (nI (sv a1.toNat 5)), .int (nI (sv a1.toNat 6))])), (ad a1.toNat 1, .inl (cI, 30, .inl (aN (sa a1.toNat 0)))), (ad a1.toNat 2, .inl (cI, 30, .inl (aN (sa a1.toNat 1)))), (ad a1.toNat 3, .inl (cI, 30, .inl (aN (sa a1.toNat 2)))), (ad a1.toNat 4, .inl (cI, 60, .inl (aN (sa a1.toNat 3))))] ++ suO cI ad sa sv a1.toNat 9) := hD
  refine lv_aload_n hx hb d_SW_shift_34 rfl (lv_at hl 1 rfl) ?_
  refine va_get (D := (dC, dI)) (ci := 6) (v := .ref qa) (C := R_SW) (T := F_SW) (N := 7) hx hb hts in_SW hown hK hP 0 rfl rfl 5 (by decide) (hts _ m_227) (fun _ h9 => h9) rfl d_SW_shift_35 ?_
  refine lv_iload_n hx hb d_SW_shift_38 rfl (lv_at hl 2 rfl) ?_
  refine lv_topr (show _ = nI a1.toNat from z_toN (by omega)) ?_
  refine ix_aldq (i := a1.toNat) (v := ad a1.toNat 0) hx hb hK hP 1 1 rfl rfl (by omega) (by decide) (hsu _ (by omega)) d_SW_shift_39 ?_
  refine lv_iload_n hx hb d_SW_shift_40 rfl (lv_at hl 0 rfl) ?_
  refine va_put (D := (dC, dI)) (ci := 4) (v := .int (nI L9)) (ty := .int) (C := R_SU) (T := F_SU) (N := 11) hx hb hts in_SU t_SU t_SU_ok n_SU hown hK hP hD hS 6 rfl rfl 4 (by decide) (hts _ m_192) (fun _ h9 => h9) rfl (by decide +kernel) rfl rfl (Nat.le_of_ble_eq_true rfl) d_SW_shift_41 (fun H locs hP hD hS => ?_)
  have hP : va_P (dC, dI) vwCl ([(x0, .inr (6, [.ref k0, .ref v0, .ref a0, .ref j0, .ref q, .ref qa, .int (nI sc)])), (qa, .inl (cS, 9, .inr (.inr (.inr (.inr su))))), (j0, .inr (1, [.ref jf, .ref jt, .int (nI dc)])), (jf, .inl (cI, 10, .inl (aN fr))), (jt, .inl (cI, 10, .inl (aN to))), (q, .inr (3, [.ref qn, .int (nI tt), .int (nI sk), .ref qs, .ref qf])), (ad a1.toNat 0, .inr (4, [.ref (ad a1.toNat 1), .ref (ad a1.toNat 2), .ref (ad a1.toNat 3), .int (nI (sv a1.toNat 0)), .int (nI L9), .ref (ad a1.toNat 4), .int (nI (sv a1.toNat 2)), .int (nI (sv a1.toNat 3)), .int (nI (sv a1.toNat 4)), .int (nI (sv a1.toNat 5)), .int (nI (sv a1.toNat 6))])), (ad a1.toNat 1, .inl (cI, 30, .inl (aN (sa a1.toNat 0)))), (ad a1.toNat 2, .inl (cI, 30, .inl (aN (sa a1.toNat 1)))), (ad a1.toNat 3, .inl (cI, 30, .inl (aN (sa a1.toNat 2)))), (ad a1.toNat 4, .inl (cI, 60, .inl (aN (sa a1.toNat 3))))] ++ suO cI ad sa sv a1.toNat 9) H := hP
  have hD : va_D A ([(x0, .inr (6, [.ref k0, .ref v0, .ref a0, .ref j0, .ref q, .ref qa, .int (nI sc)])), (qa, .inl (cS, 9, .inr (.inr (.inr (.inr su))))), (j0, .inr (1, [.ref jf, .ref jt, .int (nI dc)])), (jf, .inl (cI, 10, .inl (aN fr))), (jt, .inl (cI, 10, .inl (aN to))), (q, .inr (3, [.ref qn, .int (nI tt), .int (nI sk), .ref qs, .ref qf])), (ad a1.toNat 0, .inr (4, [.ref (ad a1.toNat 1), .ref (ad a1.toNat 2), .ref (ad a1.toNat 3), .int (nI (sv a1.toNat 0)), .int (nI L9), .ref (ad a1.toNat 4), .int (nI (sv a1.toNat 2)), .int (nI (sv a1.toNat 3)), .int (nI (sv a1.toNat 4)), .int (nI (sv a1.toNat 5)), .int (nI (sv a1.toNat 6))])), (ad a1.toNat 1, .inl (cI, 30, .inl (aN (sa a1.toNat 0)))), (ad a1.toNat 2, .inl (cI, 30, .inl (aN (sa a1.toNat 1)))), (ad a1.toNat 3, .inl (cI, 30, .inl (aN (sa a1.toNat 2)))), (ad a1.toNat 4, .inl (cI, 60, .inl (aN (sa a1.toNat 3))))] ++ suO cI ad sa sv a1.toNat 9) := hD
  have hP := su_in (X := [(x0, .inr (6, [.ref k0, .ref v0, .ref a0, .ref j0, .ref q, .ref qa, .int (nI sc)])), (qa, .inl (cS, 9, .inr (.inr (.inr (.inr su))))), (j0, .inr (1, [.ref jf, .ref jt, .int (nI dc)])), (jf, .inl (cI, 10, .inl (aN fr))), (jt, .inl (cI, 10, .inl (aN to))), (q, .inr (3, [.ref qn, .int (nI tt), .int (nI sk), .ref qs, .ref qf]))]) a1.toNat (by omega) (sa a1.toNat) (fv7 (sv a1.toNat 0) L9 (sv a1.toNat 2) (sv a1.toNat 3) (sv a1.toNat 4) (sv a1.toNat 5) (sv a1.toNat 6)) hP
  have hD := su_inD (X := [(x0, .inr (6, [.ref k0, .ref v0, .ref a0, .ref j0, .ref q, .ref qa, .int (nI sc)])), (qa, .inl (cS, 9, .inr (.inr (.inr (.inr su))))), (j0, .inr (1, [.ref jf, .ref jt, .int (nI dc)])), (jf, .inl (cI, 10, .inl (aN fr))), (jt, .inl (cI, 10, .inl (aN to))), (q, .inr (3, [.ref qn, .int (nI tt), .int (nI sk), .ref qs, .ref qf]))]) a1.toNat (by omega) (sa a1.toNat) (fv7 (sv a1.toNat 0) L9 (sv a1.toNat 2) (sv a1.toNat 3) (sv a1.toNat 4) (sv a1.toNat 5) (sv a1.toNat 6)) hD
  have hP : va_P (dC, dI) vwCl ([(x0, .inr (6, [.ref k0, .ref v0, .ref a0, .ref j0, .ref q, .ref qa, .int (nI sc)])), (qa, .inl (cS, 9, .inr (.inr (.inr (.inr su))))), (j0, .inr (1, [.ref jf, .ref jt, .int (nI dc)])), (jf, .inl (cI, 10, .inl (aN fr))), (jt, .inl (cI, 10, .inl (aN to))), (q, .inr (3, [.ref qn, .int (nI tt), .int (nI sk), .ref qs, .ref qf]))] ++ suT cI ad (upG sa a1.toNat (sa a1.toNat)) (upG sv a1.toNat (fv7 (sv a1.toNat 0) L9 (sv a1.toNat 2) (sv a1.toNat 3) (sv a1.toNat 4) (sv a1.toNat 5) (sv a1.toNat 6))) 9) H := hP
  have hD : va_D A ([(x0, .inr (6, [.ref k0, .ref v0, .ref a0, .ref j0, .ref q, .ref qa, .int (nI sc)])), (qa, .inl (cS, 9, .inr (.inr (.inr (.inr su))))), (j0, .inr (1, [.ref jf, .ref jt, .int (nI dc)])), (jf, .inl (cI, 10, .inl (aN fr))), (jt, .inl (cI, 10, .inl (aN to))), (q, .inr (3, [.ref qn, .int (nI tt), .int (nI sk), .ref qs, .ref qf]))] ++ suT cI ad (upG sa a1.toNat (sa a1.toNat)) (upG sv a1.toNat (fv7 (sv a1.toNat 0) L9 (sv a1.toNat 2) (sv a1.toNat 3) (sv a1.toNat 4) (sv a1.toNat 5) (sv a1.toNat 6))) 9) := hD
  refine lv_aload_n hx hb d_SW_shift_44 rfl (lv_at hl 1 rfl) ?_
  refine va_get (D := (dC, dI)) (ci := 6) (v := .ref q) (C := R_SW) (T := F_SW) (N := 7) hx hb hts in_SW hown hK hP 0 rfl rfl 4 (by decide) (hts _ m_226) (fun _ h9 => h9) rfl d_SW_shift_45 ?_
  refine lv_iconst (v := nI 0) hx hb d_SW_shift_48 (by decide +kernel) ?_
  refine va_put (D := (dC, dI)) (ci := 3) (v := .int (nI 0)) (ty := .boolean) (C := R_SQ) (T := F_SQ) (N := 5) hx hb hts in_SQ t_SQ t_SQ_ok n_SQ hown hK hP hD hS 5 rfl rfl 2 (by decide) (hts _ m_162) (fun _ h9 => h9) rfl (by decide +kernel) (by decide +kernel) (by decide +kernel) (Nat.le_of_ble_eq_true rfl) d_SW_shift_49 (fun H locs hP hD hS => ?_)
  have hP : va_P (dC, dI) vwCl ([(x0, .inr (6, [.ref k0, .ref v0, .ref a0, .ref j0, .ref q, .ref qa, .int (nI sc)])), (qa, .inl (cS, 9, .inr (.inr (.inr (.inr su))))), (j0, .inr (1, [.ref jf, .ref jt, .int (nI dc)])), (jf, .inl (cI, 10, .inl (aN fr))), (jt, .inl (cI, 10, .inl (aN to))), (q, .inr (3, [.ref qn, .int (nI tt), .int (nI 0), .ref qs, .ref qf]))] ++ suT cI ad (upG sa a1.toNat (sa a1.toNat)) (upG sv a1.toNat (fv7 (sv a1.toNat 0) L9 (sv a1.toNat 2) (sv a1.toNat 3) (sv a1.toNat 4) (sv a1.toNat 5) (sv a1.toNat 6))) 9) H := hP
  have hD : va_D A ([(x0, .inr (6, [.ref k0, .ref v0, .ref a0, .ref j0, .ref q, .ref qa, .int (nI sc)])), (qa, .inl (cS, 9, .inr (.inr (.inr (.inr su))))), (j0, .inr (1, [.ref jf, .ref jt, .int (nI dc)])), (jf, .inl (cI, 10, .inl (aN fr))), (jt, .inl (cI, 10, .inl (aN to))), (q, .inr (3, [.ref qn, .int (nI tt), .int (nI 0), .ref qs, .ref qf]))] ++ suT cI ad (upG sa a1.toNat (sa a1.toNat)) (upG sv a1.toNat (fv7 (sv a1.toNat 0) L9 (sv a1.toNat 2) (sv a1.toNat 3) (sv a1.toNat 4) (sv a1.toNat 5) (sv a1.toNat 6))) 9) := hD
  refine lv_iload_n hx hb d_SW_shift_52 rfl (lv_at hl 0 rfl) ?_
  exact W.iret (v := nI L9) hx hb hr (fun t ht hW => ⟨⟨nI L9, (), rfl, rfl, by rw [ht]; exact hP, va_K.moved hW.alike hK, hD⟩, hS.F ht⟩) hS.2.2 d_SW_shift_53
