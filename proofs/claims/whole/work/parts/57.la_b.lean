/-! a least one is there -/
theorem nat_least {P : Nat → Prop} : ∀ n, P n → ∃ k, P k ∧ ∀ j, P j → k ≤ j := by
  intro n
  induction n using Nat.strongRecOn with
  | ind n ih =>
    intro h
    by_cases q : ∃ j, j < n ∧ P j
    · obtain ⟨j, h1, h2⟩ := q
      exact ih j h1 h2
    · exact ⟨n, h, fun j hj => Nat.not_lt.mp (fun hl => q ⟨j, hl, hj⟩)⟩
theorem cut3 {a : Nat} (P : Prop) (h : a ≤ 9) : a = 9 ∨ (a < 9 ∧ P) ∨ (a < 9 ∧ ¬ P) := by
  rcases Nat.lt_or_ge a 9 with h9 | h9
  · rcases Classical.em P with q | q
    · exact Or.inr (Or.inl ⟨h9, q⟩)
    · exact Or.inr (Or.inr ⟨h9, q⟩)
  · exact Or.inl (by omega)
theorem SS.ex {bg en fr to : Nat → Nat} {sc dc tr gr : Nat} : ∃ y, SS bg en fr to sc dc tr gr y := by
  by_cases h : ∃ L, tr ≤ L ∧ L ≤ gr ∧ okL bg en fr to sc dc L
  · obtain ⟨L, h1, h2, h3⟩ := h
    obtain ⟨k, ⟨k1, k2⟩, k3⟩ := nat_least (P := fun L => tr ≤ L ∧ okL bg en fr to sc dc L) L ⟨h1, h3⟩
    exact ⟨(k : Int), Or.inl ⟨k, rfl, k1, Nat.le_trans (k3 L ⟨h1, h3⟩) h2, k2, fun L' a b => k3 L' ⟨a, b⟩⟩⟩
  · exact ⟨-1, Or.inr ⟨rfl, fun L a b d => h ⟨L, a, b, d⟩⟩⟩
theorem SS.pos {bg en fr to : Nat → Nat} {sc dc tr gr : Nat} {y : Int} (h : SS bg en fr to sc dc tr gr y) (hy : ¬ y = -1) : ∃ L : Nat, y = L ∧ tr ≤ L ∧ L ≤ gr := by
  rcases h with ⟨L, a, b, d, -⟩ | ⟨a, -⟩
  · exact ⟨L, a, b, d⟩
  · exact absurd a hy
abbrev w_LA_strip : List Cond := .codeWith y_LA_strip b_LA_strip 6 (some .int) [(0, 12, 15, 25)] :: gw
set_option maxHeartbeats 4000000 in
set_option maxRecDepth 100000 in
/-- strip -/
theorem c_LA_strip (l : Launch) (hst : l.stackTraces = false) (dC : Nat → ClassId) (dI : Nat → Nat → Nat) (e1 e2 sz : Nat) (x0 k0 v0 a0 j0 q qa : Nat) (cI : ClassId) (cJ : ClassId) (ob : Nat) (og : Nat → Int64) (cS : ClassId) (su : Nat → Option Nat) (ad : Nat → Nat → Nat) (sa : Nat → Nat → Nat → Nat) (sv : Nat → Nat → Nat) (sc : Nat) (hsc : sc ≤ 9) (hsu : ∀ i, i < 9 → su i = some (ad i 0)) (hso : ∀ i, i < sc → SOK sa sv i) (a1 : Int) (a2 : Int) (a3 : Int) (ha1 : -2147483648 ≤ a1 ∧ a1 < 2147483648) (ha2 : -2147483648 ≤ a2 ∧ a2 < 2147483648) (ha3 : -2147483648 ≤ a3 ∧ a3 < 2147483648) (hn1 : ¬ va_A ([(x0, .inr (6, [.ref k0, .ref v0, .ref a0, .ref j0, .ref q, .ref qa, .int (nI sc)])), (qa, .inl (cS, 9, .inr (.inr (.inr (.inr su))))), (ob, .inl (cJ, 1, .inr (.inl og)))] ++ suT cI ad sa sv 9) sz e1) (hn2 : ¬ va_A ([(x0, .inr (6, [.ref k0, .ref v0, .ref a0, .ref j0, .ref q, .ref qa, .int (nI sc)])), (qa, .inl (cS, 9, .inr (.inr (.inr (.inr su))))), (ob, .inl (cJ, 1, .inr (.inl og)))] ++ suT cI ad sa sv 9) sz e2) : Met l y_LA_strip w_LA_strip { frames := 20, cells := 1, slots := 6, locals := 2000 } (ey e1 e2 (rw_Pc (dC, dI) vwCl [(cI, .int), (cS, .object "SlitWidths$SetUp"), (cJ, .long)] sz [.ref x0, .int (zI a1), .int (zI a2), .int (zI a3), .ref ob] ([(x0, .inr (6, [.ref k0, .ref v0, .ref a0, .ref j0, .ref q, .ref qa, .int (nI sc)])), (qa, .inl (cS, 9, .inr (.inr (.inr (.inr su))))), (ob, .inl (cJ, 1, .inr (.inl og)))] ++ suT cI ad sa sv 9))) (va_Qi (fun (r : Int32) (u : (Nat → Int64)) => (¬ ((0 ≤ a1 ∧ a1 < sc) ∧ 0 ≤ a2 ∧ (0 ≤ a3 ∧ a3 ≤ 3)) → r = nI 1) ∧ (((0 ≤ a1 ∧ a1 < sc) ∧ 0 ≤ a2 ∧ (0 ≤ a3 ∧ a3 ≤ 3)) → r = nI 0 ∧ ∃ v : Int32, u 0 = v.toInt64 ∧ ((sv a1.toNat 0 ≤ a2 → v = zI (-1)) ∧ (a2 < sv a1.toNat 0 → (a3 = 0 → v = nI (sa a1.toNat 0 a2.toNat)) ∧ (a3 = 1 → v = nI (sv a1.toNat 1 + sa a1.toNat 1 a2.toNat)) ∧ (a3 = 2 → v = nI (sv a1.toNat 1 + sa a1.toNat 2 a2.toNat)) ∧ (a3 = 3 → v = nI (wt (sv a1.toNat 4) (sv a1.toNat 3) (sv a1.toNat 1) (sa a1.toNat 1) (sa a1.toNat 2) a2.toNat)))))) (rw_B (dC, dI) vwCl [(cI, .int), (cS, .object "SlitWidths$SetUp"), (cJ, .long)] (va_A ([(x0, .inr (6, [.ref k0, .ref v0, .ref a0, .ref j0, .ref q, .ref qa, .int (nI sc)])), (qa, .inl (cS, 9, .inr (.inr (.inr (.inr su))))), (ob, .inl (cJ, 1, .inr (.inl og)))] ++ suT cI ad sa sv 9) sz) (fun u : (Nat → Int64) => ([(x0, .inr (6, [.ref k0, .ref v0, .ref a0, .ref j0, .ref q, .ref qa, .int (nI sc)])), (qa, .inl (cS, 9, .inr (.inr (.inr (.inr su))))), (ob, .inl (cJ, 1, .inr (.inl u)))] ++ suT cI ad sa sv 9))) (va_A ([(x0, .inr (6, [.ref k0, .ref v0, .ref a0, .ref j0, .ref q, .ref qa, .int (nI sc)])), (qa, .inl (cS, 9, .inr (.inr (.inr (.inr su))))), (ob, .inl (cJ, 1, .inr (.inl og)))] ++ suT cI ad sa sv 9) sz)) 1 6 (va_A ([(x0, .inr (6, [.ref k0, .ref v0, .ref a0, .ref j0, .ref q, .ref qa, .int (nI sc)])), (qa, .inl (cS, 9, .inr (.inr (.inr (.inr su))))), (ob, .inl (cJ, 1, .inr (.inl og)))] ++ suT cI ad sa sv 9) sz) := by
  refine MetH (cc := b_LA_strip) (maxL := 6) (ret := (some .int)) (hh := [(0, 12, 15, 25)]) (by decide) rfl ?_
  intro p e s m args below meth c s₁ B hml htab hv
  obtain ⟨⟨rfl, hsz, hP, hK, hD0⟩, hEY⟩ := hv
  have htab : c.exceptionTable.toList = [⟨0, 12, 15, 25⟩] := htab
  have hx := B.exec
  have hb := B.bytes
  have hr := B.returns
  have hts := gw_h (atoms_spec (ws := w_LA_strip) B.pre)
  have hown : s.vm.findClass R_LA = some m.cls := findClass_of_methodNamed B.named
  have hlocks := B.notSynchronized
  subst hsz
  have hD := hD0.self (sz := s.heap.size)
  generalize hAe : va_A ([(x0, .inr (6, [.ref k0, .ref v0, .ref a0, .ref j0, .ref q, .ref qa, .int (nI sc)])), (qa, .inl (cS, 9, .inr (.inr (.inr (.inr su))))), (ob, .inl (cJ, 1, .inr (.inl og)))] ++ suT cI ad sa sv 9) s.heap.size = A at hD hn1 hn2 ⊢
  have hA : ∀ q : Nat, s.heap.size ≤ q → A q := fun q h => by rw [← hAe]; exact Or.inr h
  have hS : va_S A s.heap s.heap [] := va_S.rf
  have hP : va_P (dC, dI) vwCl ([(x0, .inr (6, [.ref k0, .ref v0, .ref a0, .ref j0, .ref q, .ref qa, .int (nI sc)])), (qa, .inl (cS, 9, .inr (.inr (.inr (.inr su))))), (ob, .inl (cJ, 1, .inr (.inl og)))] ++ suT cI ad sa sv 9) s.heap := hP
  have hl := lv_entry ([.ref x0, .int (zI a1), .int (zI a2), .int (zI a3), .ref ob]) (n := 6) (Nat.le_of_ble_eq_true rfl)
  rw [lg_entry_eq]
  generalize (lg_sl ([.ref x0, .int (zI a1), .int (zI a2), .int (zI a3), .ref ob]) ++ List.replicate (6 - (lg_sl ([.ref x0, .int (zI a1), .int (zI a2), .int (zI a3), .ref ob])).length) Slot.unset).toArray = ls at hl ⊢
  have hl : lv_has ls 6 [(0, .ref x0), (1, .int (zI a1)), (2, .int (zI a2)), (3, .int (zI a3)), (4, .ref ob)] := hl
  refine lv_aload hx hb d_LA_strip_0 (lv_at hl 4 rfl) ?_
  refine lv_iconst (v := nI 0) hx hb d_LA_strip_2 (by decide +kernel) ?_
  refine lv_aload_n hx hb d_LA_strip_3 rfl (lv_at hl 0 rfl) ?_
  refine lv_iload_n hx hb d_LA_strip_4 rfl (lv_at hl 1 rfl) ?_
  refine lv_iload_n hx hb d_LA_strip_5 rfl (lv_at hl 2 rfl) ?_
  refine lv_iload_n hx hb d_LA_strip_6 rfl (lv_at hl 3 rfl) ?_
  rcases (show ¬ (0 ≤ a1 ∧ a1 < sc) ∨ ((0 ≤ a1 ∧ a1 < sc) ∧ ¬ (0 ≤ a2 ∧ (0 ≤ a3 ∧ a3 ≤ 3))) ∨ ((0 ≤ a1 ∧ a1 < sc) ∧ 0 ≤ a2 ∧ (0 ≤ a3 ∧ a3 ≤ 3)) by omega) with hq | hq | hq
  · have hPc := hP.sub (ws' := [(x0, .inr (6, [.ref k0, .ref v0, .ref a0, .ref j0, .ref q, .ref qa, .int (nI sc)]))]) [0] rfl
    have hPx := hP.sub (ws' := [(x0, .inr (6, [.ref k0, .ref v0, .ref a0, .ref j0, .ref q, .ref qa, .int (nI sc)]))]) [0] rfl
    have hEH := hEY.ofS hS hn1 hn2
    refine th_runV (As := [.int (zI a1), .int (zI a2), .int (zI a3)]) (rest := [.int (nI 0), .ref ob]) ⟨hx, hb, hml, hown, hts⟩ (t_SW_strip1 l hst dC dI e1 e2 x0 k0 v0 a0 j0 q qa cI sc hsc a1 a2 a3 ha1 ha2 ha3 hq) (cwV 3 hts (gw_V m_495 m_496 m_497 m_1 m_498) rfl rfl rfl (by decide +kernel) ⟨Nat.le_of_ble_eq_true rfl, Nat.le_of_ble_eq_true rfl⟩) ⟨ey_blind ro_blind, va_recv hK hPx (ci := 6) (q0 := 0) rfl rfl, fun U hU hW => ⟨⟨rfl, by rw [hU]; exact hPc, va_K.moved hW.alike (hK.sub (tys' := [(cI, .int)]) [0] rfl)⟩, by rw [hU]; exact EY.warm hW hEH⟩⟩ rfl hl.1 rfl (Nat.le_of_ble_eq_true rfl) d_LA_strip_7 ⟨Nat.le_of_ble_eq_true rfl, Nat.le_of_ble_eq_true rfl⟩ (fun q9 ce so9 to9 H1 L9 h09 h19 hW9 hB9 hce hcv hcl hL9 => ?_)
    refine TW.catch1 (own := "SlitWidthsLaw") (E := "java/lang/IndexOutOfBoundsException") (x := ⟨0, 12, 15, 25⟩) hown htab (by decide) (by decide) (hts _ m_419) hce hcv hcl ?_
    refine W.eq (g2 := F0 m 15 ls [.ref q9]) rfl ?_
    have hP := B0.P h09 h19 hB9 hP
    have hS := B0.S hS h09 h19 hB9 hL9
    generalize H1 = H at hP hS ⊢
    refine lv_astore (lv' := [(5, .ref q9), (0, .ref x0), (1, .int (zI a1)), (2, .int (zI a2)), (3, .int (zI a3)), (4, .ref ob)]) hx hb d_LA_strip_15 hl (by decide) rfl (fun ls hl => ?_)
    refine lv_iconst (v := nI 1) hx hb d_LA_strip_17 (by decide +kernel) ?_
    exact W.iret (v := nI 1) hx hb hr (fun t ht hW => ⟨⟨nI 1, og, rfl, ⟨fun _ => rfl, fun q => absurd q (by omega)⟩, by rw [ht]; exact hP, va_K.moved hW.alike hK, hD⟩, hS.F ht⟩) hS.2.2 d_LA_strip_18
  · have hPc := hP.sub (ws' := [(x0, .inr (6, [.ref k0, .ref v0, .ref a0, .ref j0, .ref q, .ref qa, .int (nI sc)]))]) [0] rfl
    have hPx := hP.sub (ws' := [(x0, .inr (6, [.ref k0, .ref v0, .ref a0, .ref j0, .ref q, .ref qa, .int (nI sc)]))]) [0] rfl
    have hEH := hEY.ofS hS hn1 hn2
    refine th_runV (As := [.int (zI a1), .int (zI a2), .int (zI a3)]) (rest := [.int (nI 0), .ref ob]) ⟨hx, hb, hml, hown, hts⟩ (t_SW_strip2 l hst dC dI e1 e2 x0 k0 v0 a0 j0 q qa cI sc hsc a1 a2 a3 ha1 ha2 ha3 hq) (cwV 3 hts (gw_V m_495 m_496 m_497 m_1 m_498) rfl rfl rfl (by decide +kernel) ⟨Nat.le_of_ble_eq_true rfl, Nat.le_of_ble_eq_true rfl⟩) ⟨ey_blind ro_blind, va_recv hK hPx (ci := 6) (q0 := 0) rfl rfl, fun U hU hW => ⟨⟨rfl, by rw [hU]; exact hPc, va_K.moved hW.alike (hK.sub (tys' := [(cI, .int)]) [0] rfl)⟩, by rw [hU]; exact EY.warm hW hEH⟩⟩ rfl hl.1 rfl (Nat.le_of_ble_eq_true rfl) d_LA_strip_7 ⟨Nat.le_of_ble_eq_true rfl, Nat.le_of_ble_eq_true rfl⟩ (fun q9 ce so9 to9 H1 L9 h09 h19 hW9 hB9 hce hcv hcl hL9 => ?_)
    refine TW.catch1 (own := "SlitWidthsLaw") (E := "java/lang/IndexOutOfBoundsException") (x := ⟨0, 12, 15, 25⟩) hown htab (by decide) (by decide) (hts _ m_419) hce hcv hcl ?_
    refine W.eq (g2 := F0 m 15 ls [.ref q9]) rfl ?_
    have hP := B0.P h09 h19 hB9 hP
    have hS := B0.S hS h09 h19 hB9 hL9
    generalize H1 = H at hP hS ⊢
    refine lv_astore (lv' := [(5, .ref q9), (0, .ref x0), (1, .int (zI a1)), (2, .int (zI a2)), (3, .int (zI a3)), (4, .ref ob)]) hx hb d_LA_strip_15 hl (by decide) rfl (fun ls hl => ?_)
    refine lv_iconst (v := nI 1) hx hb d_LA_strip_17 (by decide +kernel) ?_
    exact W.iret (v := nI 1) hx hb hr (fun t ht hW => ⟨⟨nI 1, og, rfl, ⟨fun _ => rfl, fun q => absurd q (by omega)⟩, by rw [ht]; exact hP, va_K.moved hW.alike hK, hD⟩, hS.F ht⟩) hS.2.2 d_LA_strip_18
  · refine W.widen (k := 1) (n := 6) (by decide) (by decide) ?_
    have hPc := hP.part (cx := [(x0, .inr (6, [.ref k0, .ref v0, .ref a0, .ref j0, .ref q, .ref qa, .int (nI sc)])), (qa, .inl (cS, 9, .inr (.inr (.inr (.inr su)))))]) [0, 1] rfl
    refine ro_calli (va_runV (As := [.int (zI a1), .int (zI a2), .int (zI a3)]) (rest := [.int (nI 0), .ref ob]) ⟨hx, hb, hml, hown, hts⟩ (c_SW_strip l dC dI x0 k0 v0 a0 j0 q qa cI cS su ad sa sv sc hsc hsu hso a1 a2 a3 ha1 ha2 ha3 hq) (cwV 3 hts (gw_V m_495 m_496 m_497 m_1 m_498) rfl rfl rfl (by decide +kernel) ⟨Nat.le_of_ble_eq_true rfl, Nat.le_of_ble_eq_true rfl⟩) ⟨ro_blind, va_recv hK hPc (ci := 6) (q0 := 0) rfl rfl, fun U hU hW => ⟨rfl, by rw [hU]; exact hPc, va_K.moved hW.alike (hK.sub (tys' := [(cI, .int), (cS, .object "SlitWidths$SetUp")]) [0, 1] rfl)⟩⟩ rfl rfl hl.1 rfl (lv_room (Nat.le_of_ble_eq_true rfl)) d_LA_strip_7 ⟨Nat.le_of_ble_eq_true rfl, Nat.le_of_ble_eq_true rfl⟩) hS hP (fun r H locs er hP hS => ?_)
    refine lv_i2l (v := (r).toInt64) hx hb d_LA_strip_10 rfl ?_
    refine va_last hx hb hK hP hD hS 2 2 rfl rfl (vp_in_nI (show 0 < 1 by decide) (by decide)) d_LA_strip_11 (fun H locs hP hD hS => ?_)
    rw [nI_clamp (show 0 < 2 ^ 31 by decide)] at hP hD
    have hP : va_P (dC, dI) vwCl ([(x0, .inr (6, [.ref k0, .ref v0, .ref a0, .ref j0, .ref q, .ref qa, .int (nI sc)])), (qa, .inl (cS, 9, .inr (.inr (.inr (.inr su))))), (ob, .inl (cJ, 1, .inr (.inl (vp_updL og 0 ((r).toInt64)))))] ++ suT cI ad sa sv 9) H := hP
    have hD : va_D A ([(x0, .inr (6, [.ref k0, .ref v0, .ref a0, .ref j0, .ref q, .ref qa, .int (nI sc)])), (qa, .inl (cS, 9, .inr (.inr (.inr (.inr su))))), (ob, .inl (cJ, 1, .inr (.inl (vp_updL og 0 ((r).toInt64)))))] ++ suT cI ad sa sv 9) := hD
    refine lv_goto (tgt := 19) hx hb d_LA_strip_12 (by decide) ?_
    refine lv_iconst (v := nI 0) hx hb d_LA_strip_19 (by decide +kernel) ?_
    exact W.iret (v := nI 0) hx hb hr (fun t ht hW => ⟨⟨nI 0, (vp_updL og 0 ((r).toInt64)), rfl, ⟨fun q => absurd q (by omega), fun _ => ⟨rfl, r, updL_0 og _, er⟩⟩, by rw [ht]; exact hP, va_K.moved hW.alike hK, hD⟩, hS.F ht⟩) hS.2.2 d_LA_strip_20
abbrev w_LA_scrap : List Cond := .codeWith y_LA_scrap b_LA_scrap 4 (some .int) [(0, 9, 12, 25)] :: gw
set_option maxHeartbeats 4000000 in
set_option maxRecDepth 100000 in
/-- scrap -/
theorem c_LA_scrap (l : Launch) (hst : l.stackTraces = false) (dC : Nat → ClassId) (dI : Nat → Nat → Nat) (e1 e2 sz : Nat) (x0 k0 v0 a0 j0 q qa : Nat) (cI : ClassId) (cJ : ClassId) (ob : Nat) (og : Nat → Int64) (cS : ClassId) (su : Nat → Option Nat) (ad : Nat → Nat → Nat) (sa : Nat → Nat → Nat → Nat) (sv : Nat → Nat → Nat) (sc : Nat) (hsc : sc ≤ 9) (hsu : ∀ i, i < 9 → su i = some (ad i 0)) (hso : ∀ i, i < sc → SOK sa sv i) (a1 : Int) (ha1 : -2147483648 ≤ a1 ∧ a1 < 2147483648) (hn1 : ¬ va_A ([(x0, .inr (6, [.ref k0, .ref v0, .ref a0, .ref j0, .ref q, .ref qa, .int (nI sc)])), (qa, .inl (cS, 9, .inr (.inr (.inr (.inr su))))), (ob, .inl (cJ, 1, .inr (.inl og)))] ++ suT cI ad sa sv 9) sz e1) (hn2 : ¬ va_A ([(x0, .inr (6, [.ref k0, .ref v0, .ref a0, .ref j0, .ref q, .ref qa, .int (nI sc)])), (qa, .inl (cS, 9, .inr (.inr (.inr (.inr su))))), (ob, .inl (cJ, 1, .inr (.inl og)))] ++ suT cI ad sa sv 9) sz e2) : Met l y_LA_scrap w_LA_scrap { frames := 20, cells := 1, slots := 6, locals := 2000 } (ey e1 e2 (rw_Pc (dC, dI) vwCl [(cI, .int), (cS, .object "SlitWidths$SetUp"), (cJ, .long)] sz [.ref x0, .int (zI a1), .ref ob] ([(x0, .inr (6, [.ref k0, .ref v0, .ref a0, .ref j0, .ref q, .ref qa, .int (nI sc)])), (qa, .inl (cS, 9, .inr (.inr (.inr (.inr su))))), (ob, .inl (cJ, 1, .inr (.inl og)))] ++ suT cI ad sa sv 9))) (va_Qi (fun (r : Int32) (u : (Nat → Int64)) => (¬ (0 ≤ a1 ∧ a1 < sc) → r = nI 1) ∧ ((0 ≤ a1 ∧ a1 < sc) → r = nI 0 ∧ ∃ v : Int32, u 0 = v.toInt64 ∧ v = zI ((sv a1.toNat 4 : Int) - ((sumN (wt (sv a1.toNat 4) (sv a1.toNat 3) (sv a1.toNat 1) (sa a1.toNat 1) (sa a1.toNat 2)) (sv a1.toNat 0) : Nat) : Int)))) (rw_B (dC, dI) vwCl [(cI, .int), (cS, .object "SlitWidths$SetUp"), (cJ, .long)] (va_A ([(x0, .inr (6, [.ref k0, .ref v0, .ref a0, .ref j0, .ref q, .ref qa, .int (nI sc)])), (qa, .inl (cS, 9, .inr (.inr (.inr (.inr su))))), (ob, .inl (cJ, 1, .inr (.inl og)))] ++ suT cI ad sa sv 9) sz) (fun u : (Nat → Int64) => ([(x0, .inr (6, [.ref k0, .ref v0, .ref a0, .ref j0, .ref q, .ref qa, .int (nI sc)])), (qa, .inl (cS, 9, .inr (.inr (.inr (.inr su))))), (ob, .inl (cJ, 1, .inr (.inl u)))] ++ suT cI ad sa sv 9))) (va_A ([(x0, .inr (6, [.ref k0, .ref v0, .ref a0, .ref j0, .ref q, .ref qa, .int (nI sc)])), (qa, .inl (cS, 9, .inr (.inr (.inr (.inr su))))), (ob, .inl (cJ, 1, .inr (.inl og)))] ++ suT cI ad sa sv 9) sz)) 1 6 (va_A ([(x0, .inr (6, [.ref k0, .ref v0, .ref a0, .ref j0, .ref q, .ref qa, .int (nI sc)])), (qa, .inl (cS, 9, .inr (.inr (.inr (.inr su))))), (ob, .inl (cJ, 1, .inr (.inl og)))] ++ suT cI ad sa sv 9) sz) := by
  refine MetH (cc := b_LA_scrap) (maxL := 4) (ret := (some .int)) (hh := [(0, 9, 12, 25)]) (by decide) rfl ?_
  intro p e s m args below meth c s₁ B hml htab hv
  obtain ⟨⟨rfl, hsz, hP, hK, hD0⟩, hEY⟩ := hv
  have htab : c.exceptionTable.toList = [⟨0, 9, 12, 25⟩] := htab
  have hx := B.exec
  have hb := B.bytes
  have hr := B.returns
  have hts := gw_h (atoms_spec (ws := w_LA_scrap) B.pre)
  have hown : s.vm.findClass R_LA = some m.cls := findClass_of_methodNamed B.named
  have hlocks := B.notSynchronized
  subst hsz
  have hD := hD0.self (sz := s.heap.size)
  generalize hAe : va_A ([(x0, .inr (6, [.ref k0, .ref v0, .ref a0, .ref j0, .ref q, .ref qa, .int (nI sc)])), (qa, .inl (cS, 9, .inr (.inr (.inr (.inr su))))), (ob, .inl (cJ, 1, .inr (.inl og)))] ++ suT cI ad sa sv 9) s.heap.size = A at hD hn1 hn2 ⊢
  have hA : ∀ q : Nat, s.heap.size ≤ q → A q := fun q h => by rw [← hAe]; exact Or.inr h
  have hS : va_S A s.heap s.heap [] := va_S.rf
  have hP : va_P (dC, dI) vwCl ([(x0, .inr (6, [.ref k0, .ref v0, .ref a0, .ref j0, .ref q, .ref qa, .int (nI sc)])), (qa, .inl (cS, 9, .inr (.inr (.inr (.inr su))))), (ob, .inl (cJ, 1, .inr (.inl og)))] ++ suT cI ad sa sv 9) s.heap := hP
  have hl := lv_entry ([.ref x0, .int (zI a1), .ref ob]) (n := 4) (Nat.le_of_ble_eq_true rfl)
  rw [lg_entry_eq]
  generalize (lg_sl ([.ref x0, .int (zI a1), .ref ob]) ++ List.replicate (4 - (lg_sl ([.ref x0, .int (zI a1), .ref ob])).length) Slot.unset).toArray = ls at hl ⊢
  have hl : lv_has ls 4 [(0, .ref x0), (1, .int (zI a1)), (2, .ref ob)] := hl
  refine lv_aload_n hx hb d_LA_scrap_0 rfl (lv_at hl 2 rfl) ?_
  refine lv_iconst (v := nI 0) hx hb d_LA_scrap_1 (by decide +kernel) ?_
  refine lv_aload_n hx hb d_LA_scrap_2 rfl (lv_at hl 0 rfl) ?_
  refine lv_iload_n hx hb d_LA_scrap_3 rfl (lv_at hl 1 rfl) ?_
  rcases (show ¬ (0 ≤ a1 ∧ a1 < sc) ∨ (0 ≤ a1 ∧ a1 < sc) by omega) with hq | hq
  · have hPc := hP.sub (ws' := [(x0, .inr (6, [.ref k0, .ref v0, .ref a0, .ref j0, .ref q, .ref qa, .int (nI sc)]))]) [0] rfl
    have hPx := hP.sub (ws' := [(x0, .inr (6, [.ref k0, .ref v0, .ref a0, .ref j0, .ref q, .ref qa, .int (nI sc)]))]) [0] rfl
    have hEH := hEY.ofS hS hn1 hn2
    refine th_runV (As := [.int (zI a1)]) (rest := [.int (nI 0), .ref ob]) ⟨hx, hb, hml, hown, hts⟩ (t_SW_scrap l hst dC dI e1 e2 x0 k0 v0 a0 j0 q qa cI sc hsc a1 ha1 hq) (cwV 1 hts (gw_V m_516 m_517 m_518 m_1 m_519) rfl rfl rfl (by decide +kernel) ⟨Nat.le_of_ble_eq_true rfl, Nat.le_of_ble_eq_true rfl⟩) ⟨ey_blind ro_blind, va_recv hK hPx (ci := 6) (q0 := 0) rfl rfl, fun U hU hW => ⟨⟨rfl, by rw [hU]; exact hPc, va_K.moved hW.alike (hK.sub (tys' := [(cI, .int)]) [0] rfl)⟩, by rw [hU]; exact EY.warm hW hEH⟩⟩ rfl hl.1 rfl (Nat.le_of_ble_eq_true rfl) d_LA_scrap_4 ⟨Nat.le_of_ble_eq_true rfl, Nat.le_of_ble_eq_true rfl⟩ (fun q9 ce so9 to9 H1 L9 h09 h19 hW9 hB9 hce hcv hcl hL9 => ?_)
    refine TW.catch1 (own := "SlitWidthsLaw") (E := "java/lang/IndexOutOfBoundsException") (x := ⟨0, 9, 12, 25⟩) hown htab (by decide) (by decide) (hts _ m_419) hce hcv hcl ?_
    refine W.eq (g2 := F0 m 12 ls [.ref q9]) rfl ?_
    have hP := B0.P h09 h19 hB9 hP
    have hS := B0.S hS h09 h19 hB9 hL9
    generalize H1 = H at hP hS ⊢
    refine lv_astore_n (lv' := [(3, .ref q9), (0, .ref x0), (1, .int (zI a1)), (2, .ref ob)]) hx hb d_LA_scrap_12 rfl hl (by decide) rfl (fun ls hl => ?_)
    refine lv_iconst (v := nI 1) hx hb d_LA_scrap_13 (by decide +kernel) ?_
    exact W.iret (v := nI 1) hx hb hr (fun t ht hW => ⟨⟨nI 1, og, rfl, ⟨fun _ => rfl, fun q => absurd q (by omega)⟩, by rw [ht]; exact hP, va_K.moved hW.alike hK, hD⟩, hS.F ht⟩) hS.2.2 d_LA_scrap_14
  · refine W.widen (k := 1) (n := 6) (by decide) (by decide) ?_
    have hPc := hP.part (cx := [(x0, .inr (6, [.ref k0, .ref v0, .ref a0, .ref j0, .ref q, .ref qa, .int (nI sc)])), (qa, .inl (cS, 9, .inr (.inr (.inr (.inr su)))))]) [0, 1] rfl
    refine ro_calli (va_runV (As := [.int (zI a1)]) (rest := [.int (nI 0), .ref ob]) ⟨hx, hb, hml, hown, hts⟩ (c_SW_scrap l dC dI x0 k0 v0 a0 j0 q qa cI cS su ad sa sv sc hsc hsu hso a1 ha1 hq) (cwV 1 hts (gw_V m_516 m_517 m_518 m_1 m_519) rfl rfl rfl (by decide +kernel) ⟨Nat.le_of_ble_eq_true rfl, Nat.le_of_ble_eq_true rfl⟩) ⟨ro_blind, va_recv hK hPc (ci := 6) (q0 := 0) rfl rfl, fun U hU hW => ⟨rfl, by rw [hU]; exact hPc, va_K.moved hW.alike (hK.sub (tys' := [(cI, .int), (cS, .object "SlitWidths$SetUp")]) [0, 1] rfl)⟩⟩ rfl rfl hl.1 rfl (lv_room (Nat.le_of_ble_eq_true rfl)) d_LA_scrap_4 ⟨Nat.le_of_ble_eq_true rfl, Nat.le_of_ble_eq_true rfl⟩) hS hP (fun r H locs er hP hS => ?_)
    refine lv_i2l (v := (r).toInt64) hx hb d_LA_scrap_7 rfl ?_
    refine va_last hx hb hK hP hD hS 2 2 rfl rfl (vp_in_nI (show 0 < 1 by decide) (by decide)) d_LA_scrap_8 (fun H locs hP hD hS => ?_)
    rw [nI_clamp (show 0 < 2 ^ 31 by decide)] at hP hD
    have hP : va_P (dC, dI) vwCl ([(x0, .inr (6, [.ref k0, .ref v0, .ref a0, .ref j0, .ref q, .ref qa, .int (nI sc)])), (qa, .inl (cS, 9, .inr (.inr (.inr (.inr su))))), (ob, .inl (cJ, 1, .inr (.inl (vp_updL og 0 ((r).toInt64)))))] ++ suT cI ad sa sv 9) H := hP
    have hD : va_D A ([(x0, .inr (6, [.ref k0, .ref v0, .ref a0, .ref j0, .ref q, .ref qa, .int (nI sc)])), (qa, .inl (cS, 9, .inr (.inr (.inr (.inr su))))), (ob, .inl (cJ, 1, .inr (.inl (vp_updL og 0 ((r).toInt64)))))] ++ suT cI ad sa sv 9) := hD
    refine lv_goto (tgt := 15) hx hb d_LA_scrap_9 (by decide) ?_
    refine lv_iconst (v := nI 0) hx hb d_LA_scrap_15 (by decide +kernel) ?_
    exact W.iret (v := nI 0) hx hb hr (fun t ht hW => ⟨⟨nI 0, (vp_updL og 0 ((r).toInt64)), rfl, ⟨fun q => absurd q (by omega), fun _ => ⟨rfl, r, updL_0 og _, er⟩⟩, by rw [ht]; exact hP, va_K.moved hW.alike hK, hD⟩, hS.F ht⟩) hS.2.2 d_LA_scrap_16
abbrev w_LA_moves : List Cond := .codeWith y_LA_moves b_LA_moves 5 (some .int) [(0, 10, 13, 25)] :: gw
set_option maxHeartbeats 4000000 in
set_option maxRecDepth 100000 in
/-- moves -/
theorem c_LA_moves (l : Launch) (hst : l.stackTraces = false) (dC : Nat → ClassId) (dI : Nat → Nat → Nat) (e1 e2 sz : Nat) (x0 k0 v0 a0 j0 q qa : Nat) (cI : ClassId) (cJ : ClassId) (ob : Nat) (og : Nat → Int64) (cS : ClassId) (su : Nat → Option Nat) (ad : Nat → Nat → Nat) (sa : Nat → Nat → Nat → Nat) (sv : Nat → Nat → Nat) (sc : Nat) (hsc : sc ≤ 9) (hsu : ∀ i, i < 9 → su i = some (ad i 0)) (hko : ∀ i, i < sc → KOK sa sv i) (a1 : Int) (a2 : Int) (ha1 : -2147483648 ≤ a1 ∧ a1 < 2147483648) (ha2 : -2147483648 ≤ a2 ∧ a2 < 2147483648) (hn1 : ¬ va_A ([(x0, .inr (6, [.ref k0, .ref v0, .ref a0, .ref j0, .ref q, .ref qa, .int (nI sc)])), (qa, .inl (cS, 9, .inr (.inr (.inr (.inr su))))), (ob, .inl (cJ, 1, .inr (.inl og)))] ++ suT cI ad sa sv 9) sz e1) (hn2 : ¬ va_A ([(x0, .inr (6, [.ref k0, .ref v0, .ref a0, .ref j0, .ref q, .ref qa, .int (nI sc)])), (qa, .inl (cS, 9, .inr (.inr (.inr (.inr su))))), (ob, .inl (cJ, 1, .inr (.inl og)))] ++ suT cI ad sa sv 9) sz e2) : Met l y_LA_moves w_LA_moves { frames := 20, cells := 1, slots := 6, locals := 2000 } (ey e1 e2 (rw_Pc (dC, dI) vwCl [(cI, .int), (cS, .object "SlitWidths$SetUp"), (cJ, .long)] sz [.ref x0, .int (zI a1), .int (zI a2), .ref ob] ([(x0, .inr (6, [.ref k0, .ref v0, .ref a0, .ref j0, .ref q, .ref qa, .int (nI sc)])), (qa, .inl (cS, 9, .inr (.inr (.inr (.inr su))))), (ob, .inl (cJ, 1, .inr (.inl og)))] ++ suT cI ad sa sv 9))) (va_Qi (fun (r : Int32) (u : (Nat → Int64)) => (¬ ((0 ≤ a1 ∧ a1 < sc) ∧ (0 ≤ a2 ∧ a2 < sc)) → r = nI 1) ∧ (((0 ≤ a1 ∧ a1 < sc) ∧ (0 ≤ a2 ∧ a2 < sc)) → r = nI 0 ∧ ∃ v : Int32, u 0 = v.toInt64 ∧ v = nI (MVc sa sv a1.toNat a2.toNat))) (rw_B (dC, dI) vwCl [(cI, .int), (cS, .object "SlitWidths$SetUp"), (cJ, .long)] (va_A ([(x0, .inr (6, [.ref k0, .ref v0, .ref a0, .ref j0, .ref q, .ref qa, .int (nI sc)])), (qa, .inl (cS, 9, .inr (.inr (.inr (.inr su))))), (ob, .inl (cJ, 1, .inr (.inl og)))] ++ suT cI ad sa sv 9) sz) (fun u : (Nat → Int64) => ([(x0, .inr (6, [.ref k0, .ref v0, .ref a0, .ref j0, .ref q, .ref qa, .int (nI sc)])), (qa, .inl (cS, 9, .inr (.inr (.inr (.inr su))))), (ob, .inl (cJ, 1, .inr (.inl u)))] ++ suT cI ad sa sv 9))) (va_A ([(x0, .inr (6, [.ref k0, .ref v0, .ref a0, .ref j0, .ref q, .ref qa, .int (nI sc)])), (qa, .inl (cS, 9, .inr (.inr (.inr (.inr su))))), (ob, .inl (cJ, 1, .inr (.inl og)))] ++ suT cI ad sa sv 9) sz)) 1 6 (va_A ([(x0, .inr (6, [.ref k0, .ref v0, .ref a0, .ref j0, .ref q, .ref qa, .int (nI sc)])), (qa, .inl (cS, 9, .inr (.inr (.inr (.inr su))))), (ob, .inl (cJ, 1, .inr (.inl og)))] ++ suT cI ad sa sv 9) sz) := by
  refine MetH (cc := b_LA_moves) (maxL := 5) (ret := (some .int)) (hh := [(0, 10, 13, 25)]) (by decide) rfl ?_
  intro p e s m args below meth c s₁ B hml htab hv
  obtain ⟨⟨rfl, hsz, hP, hK, hD0⟩, hEY⟩ := hv
  have htab : c.exceptionTable.toList = [⟨0, 10, 13, 25⟩] := htab
  have hx := B.exec
  have hb := B.bytes
  have hr := B.returns
  have hts := gw_h (atoms_spec (ws := w_LA_moves) B.pre)
  have hown : s.vm.findClass R_LA = some m.cls := findClass_of_methodNamed B.named
  have hlocks := B.notSynchronized
  subst hsz
  have hD := hD0.self (sz := s.heap.size)
  generalize hAe : va_A ([(x0, .inr (6, [.ref k0, .ref v0, .ref a0, .ref j0, .ref q, .ref qa, .int (nI sc)])), (qa, .inl (cS, 9, .inr (.inr (.inr (.inr su))))), (ob, .inl (cJ, 1, .inr (.inl og)))] ++ suT cI ad sa sv 9) s.heap.size = A at hD hn1 hn2 ⊢
  have hA : ∀ q : Nat, s.heap.size ≤ q → A q := fun q h => by rw [← hAe]; exact Or.inr h
  have hS : va_S A s.heap s.heap [] := va_S.rf
  have hP : va_P (dC, dI) vwCl ([(x0, .inr (6, [.ref k0, .ref v0, .ref a0, .ref j0, .ref q, .ref qa, .int (nI sc)])), (qa, .inl (cS, 9, .inr (.inr (.inr (.inr su))))), (ob, .inl (cJ, 1, .inr (.inl og)))] ++ suT cI ad sa sv 9) s.heap := hP
  have hl := lv_entry ([.ref x0, .int (zI a1), .int (zI a2), .ref ob]) (n := 5) (Nat.le_of_ble_eq_true rfl)
  rw [lg_entry_eq]
  generalize (lg_sl ([.ref x0, .int (zI a1), .int (zI a2), .ref ob]) ++ List.replicate (5 - (lg_sl ([.ref x0, .int (zI a1), .int (zI a2), .ref ob])).length) Slot.unset).toArray = ls at hl ⊢
  have hl : lv_has ls 5 [(0, .ref x0), (1, .int (zI a1)), (2, .int (zI a2)), (3, .ref ob)] := hl
  refine lv_aload_n hx hb d_LA_moves_0 rfl (lv_at hl 3 rfl) ?_
  refine lv_iconst (v := nI 0) hx hb d_LA_moves_1 (by decide +kernel) ?_
  refine lv_aload_n hx hb d_LA_moves_2 rfl (lv_at hl 0 rfl) ?_
  refine lv_iload_n hx hb d_LA_moves_3 rfl (lv_at hl 1 rfl) ?_
  refine lv_iload_n hx hb d_LA_moves_4 rfl (lv_at hl 2 rfl) ?_
  rcases (show ¬ (0 ≤ a1 ∧ a1 < sc) ∨ ((0 ≤ a1 ∧ a1 < sc) ∧ ¬ (0 ≤ a2 ∧ a2 < sc)) ∨ ((0 ≤ a1 ∧ a1 < sc) ∧ (0 ≤ a2 ∧ a2 < sc)) by omega) with hq | hq | hq
  · have hPc := hP.sub (ws' := [(x0, .inr (6, [.ref k0, .ref v0, .ref a0, .ref j0, .ref q, .ref qa, .int (nI sc)]))]) [0] rfl
    have hPx := hP.sub (ws' := [(x0, .inr (6, [.ref k0, .ref v0, .ref a0, .ref j0, .ref q, .ref qa, .int (nI sc)]))]) [0] rfl
    have hEH := hEY.ofS hS hn1 hn2
    refine th_runV (As := [.int (zI a1), .int (zI a2)]) (rest := [.int (nI 0), .ref ob]) ⟨hx, hb, hml, hown, hts⟩ (t_SW_moves1 l hst dC dI e1 e2 x0 k0 v0 a0 j0 q qa cI sc hsc a1 a2 ha1 ha2 hq) (cwV 2 hts (gw_V m_528 m_529 m_530 m_1 m_531) rfl rfl rfl (by decide +kernel) ⟨Nat.le_of_ble_eq_true rfl, Nat.le_of_ble_eq_true rfl⟩) ⟨ey_blind ro_blind, va_recv hK hPx (ci := 6) (q0 := 0) rfl rfl, fun U hU hW => ⟨⟨rfl, by rw [hU]; exact hPc, va_K.moved hW.alike (hK.sub (tys' := [(cI, .int)]) [0] rfl)⟩, by rw [hU]; exact EY.warm hW hEH⟩⟩ rfl hl.1 rfl (Nat.le_of_ble_eq_true rfl) d_LA_moves_5 ⟨Nat.le_of_ble_eq_true rfl, Nat.le_of_ble_eq_true rfl⟩ (fun q9 ce so9 to9 H1 L9 h09 h19 hW9 hB9 hce hcv hcl hL9 => ?_)
    refine TW.catch1 (own := "SlitWidthsLaw") (E := "java/lang/IndexOutOfBoundsException") (x := ⟨0, 10, 13, 25⟩) hown htab (by decide) (by decide) (hts _ m_419) hce hcv hcl ?_
    refine W.eq (g2 := F0 m 13 ls [.ref q9]) rfl ?_
    have hP := B0.P h09 h19 hB9 hP
    have hS := B0.S hS h09 h19 hB9 hL9
    generalize H1 = H at hP hS ⊢
    refine lv_astore (lv' := [(4, .ref q9), (0, .ref x0), (1, .int (zI a1)), (2, .int (zI a2)), (3, .ref ob)]) hx hb d_LA_moves_13 hl (by decide) rfl (fun ls hl => ?_)
    refine lv_iconst (v := nI 1) hx hb d_LA_moves_15 (by decide +kernel) ?_
    exact W.iret (v := nI 1) hx hb hr (fun t ht hW => ⟨⟨nI 1, og, rfl, ⟨fun _ => rfl, fun q => absurd q (by omega)⟩, by rw [ht]; exact hP, va_K.moved hW.alike hK, hD⟩, hS.F ht⟩) hS.2.2 d_LA_moves_16
  · have hPc := hP.sub (ws' := [(x0, .inr (6, [.ref k0, .ref v0, .ref a0, .ref j0, .ref q, .ref qa, .int (nI sc)]))]) [0] rfl
    have hPx := hP.sub (ws' := [(x0, .inr (6, [.ref k0, .ref v0, .ref a0, .ref j0, .ref q, .ref qa, .int (nI sc)]))]) [0] rfl
    have hEH := hEY.ofS hS hn1 hn2
    refine th_runV (As := [.int (zI a1), .int (zI a2)]) (rest := [.int (nI 0), .ref ob]) ⟨hx, hb, hml, hown, hts⟩ (t_SW_moves2 l hst dC dI e1 e2 x0 k0 v0 a0 j0 q qa cI sc hsc a1 a2 ha1 ha2 hq) (cwV 2 hts (gw_V m_528 m_529 m_530 m_1 m_531) rfl rfl rfl (by decide +kernel) ⟨Nat.le_of_ble_eq_true rfl, Nat.le_of_ble_eq_true rfl⟩) ⟨ey_blind ro_blind, va_recv hK hPx (ci := 6) (q0 := 0) rfl rfl, fun U hU hW => ⟨⟨rfl, by rw [hU]; exact hPc, va_K.moved hW.alike (hK.sub (tys' := [(cI, .int)]) [0] rfl)⟩, by rw [hU]; exact EY.warm hW hEH⟩⟩ rfl hl.1 rfl (Nat.le_of_ble_eq_true rfl) d_LA_moves_5 ⟨Nat.le_of_ble_eq_true rfl, Nat.le_of_ble_eq_true rfl⟩ (fun q9 ce so9 to9 H1 L9 h09 h19 hW9 hB9 hce hcv hcl hL9 => ?_)
    refine TW.catch1 (own := "SlitWidthsLaw") (E := "java/lang/IndexOutOfBoundsException") (x := ⟨0, 10, 13, 25⟩) hown htab (by decide) (by decide) (hts _ m_419) hce hcv hcl ?_
    refine W.eq (g2 := F0 m 13 ls [.ref q9]) rfl ?_
    have hP := B0.P h09 h19 hB9 hP
    have hS := B0.S hS h09 h19 hB9 hL9
    generalize H1 = H at hP hS ⊢
    refine lv_astore (lv' := [(4, .ref q9), (0, .ref x0), (1, .int (zI a1)), (2, .int (zI a2)), (3, .ref ob)]) hx hb d_LA_moves_13 hl (by decide) rfl (fun ls hl => ?_)
    refine lv_iconst (v := nI 1) hx hb d_LA_moves_15 (by decide +kernel) ?_
    exact W.iret (v := nI 1) hx hb hr (fun t ht hW => ⟨⟨nI 1, og, rfl, ⟨fun _ => rfl, fun q => absurd q (by omega)⟩, by rw [ht]; exact hP, va_K.moved hW.alike hK, hD⟩, hS.F ht⟩) hS.2.2 d_LA_moves_16
  · refine W.widen (k := 1) (n := 6) (by decide) (by decide) ?_
    have hPc := hP.part (cx := [(x0, .inr (6, [.ref k0, .ref v0, .ref a0, .ref j0, .ref q, .ref qa, .int (nI sc)])), (qa, .inl (cS, 9, .inr (.inr (.inr (.inr su)))))]) [0, 1] rfl
    refine ro_calli (va_runV (As := [.int (zI a1), .int (zI a2)]) (rest := [.int (nI 0), .ref ob]) ⟨hx, hb, hml, hown, hts⟩ (c_SW_moves l dC dI x0 k0 v0 a0 j0 q qa cI cS su ad sa sv sc hsc hsu hko a1 a2 ha1 ha2 hq) (cwV 2 hts (gw_V m_528 m_529 m_530 m_1 m_531) rfl rfl rfl (by decide +kernel) ⟨Nat.le_of_ble_eq_true rfl, Nat.le_of_ble_eq_true rfl⟩) ⟨ro_blind, va_recv hK hPc (ci := 6) (q0 := 0) rfl rfl, fun U hU hW => ⟨rfl, by rw [hU]; exact hPc, va_K.moved hW.alike (hK.sub (tys' := [(cI, .int), (cS, .object "SlitWidths$SetUp")]) [0, 1] rfl)⟩⟩ rfl rfl hl.1 rfl (lv_room (Nat.le_of_ble_eq_true rfl)) d_LA_moves_5 ⟨Nat.le_of_ble_eq_true rfl, Nat.le_of_ble_eq_true rfl⟩) hS hP (fun r H locs er hP hS => ?_)
    refine lv_i2l (v := (r).toInt64) hx hb d_LA_moves_8 rfl ?_
    refine va_last hx hb hK hP hD hS 2 2 rfl rfl (vp_in_nI (show 0 < 1 by decide) (by decide)) d_LA_moves_9 (fun H locs hP hD hS => ?_)
    rw [nI_clamp (show 0 < 2 ^ 31 by decide)] at hP hD
    have hP : va_P (dC, dI) vwCl ([(x0, .inr (6, [.ref k0, .ref v0, .ref a0, .ref j0, .ref q, .ref qa, .int (nI sc)])), (qa, .inl (cS, 9, .inr (.inr (.inr (.inr su))))), (ob, .inl (cJ, 1, .inr (.inl (vp_updL og 0 ((r).toInt64)))))] ++ suT cI ad sa sv 9) H := hP
    have hD : va_D A ([(x0, .inr (6, [.ref k0, .ref v0, .ref a0, .ref j0, .ref q, .ref qa, .int (nI sc)])), (qa, .inl (cS, 9, .inr (.inr (.inr (.inr su))))), (ob, .inl (cJ, 1, .inr (.inl (vp_updL og 0 ((r).toInt64)))))] ++ suT cI ad sa sv 9) := hD
    refine lv_goto (tgt := 17) hx hb d_LA_moves_10 (by decide) ?_
    refine lv_iconst (v := nI 0) hx hb d_LA_moves_17 (by decide +kernel) ?_
    exact W.iret (v := nI 0) hx hb hr (fun t ht hW => ⟨⟨nI 0, (vp_updL og 0 ((r).toInt64)), rfl, ⟨fun q => absurd q (by omega), fun _ => ⟨rfl, r, updL_0 og _, er⟩⟩, by rw [ht]; exact hP, va_K.moved hW.alike hK, hD⟩, hS.F ht⟩) hS.2.2 d_LA_moves_18
abbrev w_LA_ordered : List Cond := .codeWith y_LA_ordered b_LA_ordered 4 (some .int) [(0, 9, 12, 25)] :: gw
set_option maxHeartbeats 4000000 in
set_option maxRecDepth 100000 in
/-- ordered -/
theorem c_LA_ordered (l : Launch) (hst : l.stackTraces = false) (dC : Nat → ClassId) (dI : Nat → Nat → Nat) (e1 e2 sz : Nat) (x0 k0 v0 a0 j0 q qa : Nat) (cI : ClassId) (cJ : ClassId) (ob : Nat) (og : Nat → Int64) (cS : ClassId) (su : Nat → Option Nat) (ad : Nat → Nat → Nat) (sa : Nat → Nat → Nat → Nat) (sv : Nat → Nat → Nat) (sc : Nat) (hsc : sc ≤ 9) (hsu : ∀ i, i < 9 → su i = some (ad i 0)) (hko : ∀ i, i < sc → KOK sa sv i) (qn qs qf : Nat) (nm sp fw : Nat → Nat) (tt sk : Nat) (hk : sk = 0 ∨ (sk = 1 ∧ GoodO (MVc sa sv) sc tt nm)) (a1 : Int) (ha1 : -2147483648 ≤ a1 ∧ a1 < 2147483648) (hn1 : ¬ va_A ([(x0, .inr (6, [.ref k0, .ref v0, .ref a0, .ref j0, .ref q, .ref qa, .int (nI sc)])), (q, .inr (3, [.ref qn, .int (nI tt), .int (nI sk), .ref qs, .ref qf])), (qn, .inl (cI, 9, .inl (aN nm))), (qs, .inl (cI, 81, .inl (aN sp))), (qf, .inl (cI, 4608, .inl (aN fw))), (qa, .inl (cS, 9, .inr (.inr (.inr (.inr su))))), (ob, .inl (cJ, 1, .inr (.inl og)))] ++ suT cI ad sa sv 9) sz e1) (hn2 : ¬ va_A ([(x0, .inr (6, [.ref k0, .ref v0, .ref a0, .ref j0, .ref q, .ref qa, .int (nI sc)])), (q, .inr (3, [.ref qn, .int (nI tt), .int (nI sk), .ref qs, .ref qf])), (qn, .inl (cI, 9, .inl (aN nm))), (qs, .inl (cI, 81, .inl (aN sp))), (qf, .inl (cI, 4608, .inl (aN fw))), (qa, .inl (cS, 9, .inr (.inr (.inr (.inr su))))), (ob, .inl (cJ, 1, .inr (.inl og)))] ++ suT cI ad sa sv 9) sz e2) : Met l y_LA_ordered w_LA_ordered { frames := 20, cells := 1, slots := 6, locals := 2000 } (ey e1 e2 (rw_Pc (dC, dI) vwCl [(cI, .int), (cS, .object "SlitWidths$SetUp"), (cJ, .long)] sz [.ref x0, .int (zI a1), .ref ob] ([(x0, .inr (6, [.ref k0, .ref v0, .ref a0, .ref j0, .ref q, .ref qa, .int (nI sc)])), (q, .inr (3, [.ref qn, .int (nI tt), .int (nI sk), .ref qs, .ref qf])), (qn, .inl (cI, 9, .inl (aN nm))), (qs, .inl (cI, 81, .inl (aN sp))), (qf, .inl (cI, 4608, .inl (aN fw))), (qa, .inl (cS, 9, .inr (.inr (.inr (.inr su))))), (ob, .inl (cJ, 1, .inr (.inl og)))] ++ suT cI ad sa sv 9))) (va_Qi (fun (r : Int32) (u : Nat × Nat × (Nat → Nat) × (Nat → Nat) × (Nat → Nat) × (Nat → Int64)) => (a1 < 0 → r = nI 1) ∧ (0 ≤ a1 ∧ sc ≤ a1 → r = nI 0 ∧ u.2.2.2.2.2 0 = (zI (-1)).toInt64) ∧ (0 ≤ a1 ∧ a1 < sc → r = nI 0 ∧ u.2.2.2.2.2 0 = (nI (u.2.2.1 a1.toNat)).toInt64 ∧ GoodO (MVc sa sv) sc u.1 u.2.2.1) ∧ (u.2.1 = 0 ∨ (u.2.1 = 1 ∧ GoodO (MVc sa sv) sc u.1 u.2.2.1))) (rw_B (dC, dI) vwCl [(cI, .int), (cS, .object "SlitWidths$SetUp"), (cJ, .long)] (va_A ([(x0, .inr (6, [.ref k0, .ref v0, .ref a0, .ref j0, .ref q, .ref qa, .int (nI sc)])), (q, .inr (3, [.ref qn, .int (nI tt), .int (nI sk), .ref qs, .ref qf])), (qn, .inl (cI, 9, .inl (aN nm))), (qs, .inl (cI, 81, .inl (aN sp))), (qf, .inl (cI, 4608, .inl (aN fw))), (qa, .inl (cS, 9, .inr (.inr (.inr (.inr su))))), (ob, .inl (cJ, 1, .inr (.inl og)))] ++ suT cI ad sa sv 9) sz) (fun u : Nat × Nat × (Nat → Nat) × (Nat → Nat) × (Nat → Nat) × (Nat → Int64) => ([(x0, .inr (6, [.ref k0, .ref v0, .ref a0, .ref j0, .ref q, .ref qa, .int (nI sc)])), (q, .inr (3, [.ref qn, .int (nI u.1), .int (nI u.2.1), .ref qs, .ref qf])), (qn, .inl (cI, 9, .inl (aN u.2.2.1))), (qs, .inl (cI, 81, .inl (aN u.2.2.2.1))), (qf, .inl (cI, 4608, .inl (aN u.2.2.2.2.1))), (qa, .inl (cS, 9, .inr (.inr (.inr (.inr su))))), (ob, .inl (cJ, 1, .inr (.inl u.2.2.2.2.2)))] ++ suT cI ad sa sv 9))) (va_A ([(x0, .inr (6, [.ref k0, .ref v0, .ref a0, .ref j0, .ref q, .ref qa, .int (nI sc)])), (q, .inr (3, [.ref qn, .int (nI tt), .int (nI sk), .ref qs, .ref qf])), (qn, .inl (cI, 9, .inl (aN nm))), (qs, .inl (cI, 81, .inl (aN sp))), (qf, .inl (cI, 4608, .inl (aN fw))), (qa, .inl (cS, 9, .inr (.inr (.inr (.inr su))))), (ob, .inl (cJ, 1, .inr (.inl og)))] ++ suT cI ad sa sv 9) sz)) 1 6 (va_A ([(x0, .inr (6, [.ref k0, .ref v0, .ref a0, .ref j0, .ref q, .ref qa, .int (nI sc)])), (q, .inr (3, [.ref qn, .int (nI tt), .int (nI sk), .ref qs, .ref qf])), (qn, .inl (cI, 9, .inl (aN nm))), (qs, .inl (cI, 81, .inl (aN sp))), (qf, .inl (cI, 4608, .inl (aN fw))), (qa, .inl (cS, 9, .inr (.inr (.inr (.inr su))))), (ob, .inl (cJ, 1, .inr (.inl og)))] ++ suT cI ad sa sv 9) sz) := by
  refine MetH (cc := b_LA_ordered) (maxL := 4) (ret := (some .int)) (hh := [(0, 9, 12, 25)]) (by decide) rfl ?_
  intro p e s m args below meth c s₁ B hml htab hv
  obtain ⟨⟨rfl, hsz, hP, hK, hD0⟩, hEY⟩ := hv
  have htab : c.exceptionTable.toList = [⟨0, 9, 12, 25⟩] := htab
  have hx := B.exec
  have hb := B.bytes
  have hr := B.returns
  have hts := gw_h (atoms_spec (ws := w_LA_ordered) B.pre)
  have hown : s.vm.findClass R_LA = some m.cls := findClass_of_methodNamed B.named
  have hlocks := B.notSynchronized
  subst hsz
  have hD := hD0.self (sz := s.heap.size)
  generalize hAe : va_A ([(x0, .inr (6, [.ref k0, .ref v0, .ref a0, .ref j0, .ref q, .ref qa, .int (nI sc)])), (q, .inr (3, [.ref qn, .int (nI tt), .int (nI sk), .ref qs, .ref qf])), (qn, .inl (cI, 9, .inl (aN nm))), (qs, .inl (cI, 81, .inl (aN sp))), (qf, .inl (cI, 4608, .inl (aN fw))), (qa, .inl (cS, 9, .inr (.inr (.inr (.inr su))))), (ob, .inl (cJ, 1, .inr (.inl og)))] ++ suT cI ad sa sv 9) s.heap.size = A at hD hn1 hn2 ⊢
  have hA : ∀ q : Nat, s.heap.size ≤ q → A q := fun q h => by rw [← hAe]; exact Or.inr h
  have hS : va_S A s.heap s.heap [] := va_S.rf
  have hP : va_P (dC, dI) vwCl ([(x0, .inr (6, [.ref k0, .ref v0, .ref a0, .ref j0, .ref q, .ref qa, .int (nI sc)])), (q, .inr (3, [.ref qn, .int (nI tt), .int (nI sk), .ref qs, .ref qf])), (qn, .inl (cI, 9, .inl (aN nm))), (qs, .inl (cI, 81, .inl (aN sp))), (qf, .inl (cI, 4608, .inl (aN fw))), (qa, .inl (cS, 9, .inr (.inr (.inr (.inr su))))), (ob, .inl (cJ, 1, .inr (.inl og)))] ++ suT cI ad sa sv 9) s.heap := hP
  have hl := lv_entry ([.ref x0, .int (zI a1), .ref ob]) (n := 4) (Nat.le_of_ble_eq_true rfl)
  rw [lg_entry_eq]
  generalize (lg_sl ([.ref x0, .int (zI a1), .ref ob]) ++ List.replicate (4 - (lg_sl ([.ref x0, .int (zI a1), .ref ob])).length) Slot.unset).toArray = ls at hl ⊢
  have hl : lv_has ls 4 [(0, .ref x0), (1, .int (zI a1)), (2, .ref ob)] := hl
  refine lv_aload_n hx hb d_LA_ordered_0 rfl (lv_at hl 2 rfl) ?_
  refine lv_iconst (v := nI 0) hx hb d_LA_ordered_1 (by decide +kernel) ?_
  refine lv_aload_n hx hb d_LA_ordered_2 rfl (lv_at hl 0 rfl) ?_
  refine lv_iload_n hx hb d_LA_ordered_3 rfl (lv_at hl 1 rfl) ?_
  rcases (show a1 < 0 ∨ (0 ≤ a1 ∧ sc ≤ a1) ∨ (0 ≤ a1 ∧ a1 < sc) by omega) with hq | hq | hq
  · have hPc : va_P (dC, dI) vwCl [] s.heap := fun k q h => by simp at h
    have hPx := hP.sub (ws' := [(x0, .inr (6, [.ref k0, .ref v0, .ref a0, .ref j0, .ref q, .ref qa, .int (nI sc)]))]) [0] rfl
    have hEH := hEY.ofS hS hn1 hn2
    refine th_runV (As := [.int (zI a1)]) (rest := [.int (nI 0), .ref ob]) ⟨hx, hb, hml, hown, hts⟩ (t_SW_ordered l hst dC dI e1 e2 x0 cI a1 ha1 hq) (cwV 1 hts (gw_V m_536 m_537 m_538 m_1 m_539) rfl rfl rfl (by decide +kernel) ⟨Nat.le_of_ble_eq_true rfl, Nat.le_of_ble_eq_true rfl⟩) ⟨ey_blind ro_blind, va_recv hK hPx (ci := 6) (q0 := 0) rfl rfl, fun U hU hW => ⟨⟨rfl, by rw [hU]; exact hPc, va_K.moved hW.alike (hK.sub (tys' := [(cI, .int)]) [0] rfl)⟩, by rw [hU]; exact EY.warm hW hEH⟩⟩ rfl hl.1 rfl (Nat.le_of_ble_eq_true rfl) d_LA_ordered_4 ⟨Nat.le_of_ble_eq_true rfl, Nat.le_of_ble_eq_true rfl⟩ (fun q9 ce so9 to9 H1 L9 h09 h19 hW9 hB9 hce hcv hcl hL9 => ?_)
    refine TW.catch1 (own := "SlitWidthsLaw") (E := "java/lang/IndexOutOfBoundsException") (x := ⟨0, 9, 12, 25⟩) hown htab (by decide) (by decide) (hts _ m_419) hce hcv hcl ?_
    refine W.eq (g2 := F0 m 12 ls [.ref q9]) rfl ?_
    have hP := B0.P h09 h19 hB9 hP
    have hS := B0.S hS h09 h19 hB9 hL9
    generalize H1 = H at hP hS ⊢
    refine lv_astore_n (lv' := [(3, .ref q9), (0, .ref x0), (1, .int (zI a1)), (2, .ref ob)]) hx hb d_LA_ordered_12 rfl hl (by decide) rfl (fun ls hl => ?_)
    refine lv_iconst (v := nI 1) hx hb d_LA_ordered_13 (by decide +kernel) ?_
    exact W.iret (v := nI 1) hx hb hr (fun t ht hW => ⟨⟨nI 1, (tt, sk, nm, sp, fw, og), rfl, ⟨fun _ => rfl, fun q => absurd q (by omega), fun q => absurd q (by omega), hk⟩, by rw [ht]; exact hP, va_K.moved hW.alike hK, hD⟩, hS.F ht⟩) hS.2.2 d_LA_ordered_14
  · refine W.widen (k := 1) (n := 6) (by decide) (by decide) ?_
    have hPc := hP.part (cx := [(x0, .inr (6, [.ref k0, .ref v0, .ref a0, .ref j0, .ref q, .ref qa, .int (nI sc)])), (q, .inr (3, [.ref qn, .int (nI tt), .int (nI sk), .ref qs, .ref qf])), (qn, .inl (cI, 9, .inl (aN nm))), (qs, .inl (cI, 81, .inl (aN sp))), (qf, .inl (cI, 4608, .inl (aN fw))), (qa, .inl (cS, 9, .inr (.inr (.inr (.inr su)))))]) [0, 1, 2, 3, 4, 5] rfl
    have hDc := hD.part (cx := [(x0, .inr (6, [.ref k0, .ref v0, .ref a0, .ref j0, .ref q, .ref qa, .int (nI sc)])), (q, .inr (3, [.ref qn, .int (nI tt), .int (nI sk), .ref qs, .ref qf])), (qn, .inl (cI, 9, .inl (aN nm))), (qs, .inl (cI, 81, .inl (aN sp))), (qf, .inl (cI, 4608, .inl (aN fw))), (qa, .inl (cS, 9, .inr (.inr (.inr (.inr su)))))]) [0, 1, 2, 3, 4, 5] (by decide) rfl
    have hFc := va_freeP (cx := [(x0, .inr (6, [.ref k0, .ref v0, .ref a0, .ref j0, .ref q, .ref qa, .int (nI sc)])), (q, .inr (3, [.ref qn, .int (nI tt), .int (nI sk), .ref qs, .ref qf])), (qn, .inl (cI, 9, .inl (aN nm))), (qs, .inl (cI, 81, .inl (aN sp))), (qf, .inl (cI, 4608, .inl (aN fw))), (qa, .inl (cS, 9, .inr (.inr (.inr (.inr su)))))]) hD hS hA [0, 1, 2, 3, 4, 5] rfl
    refine va_calli (va_runV (As := [.int (zI a1)]) (rest := [.int (nI 0), .ref ob]) ⟨hx, hb, hml, hown, hts⟩ (c_SW_ordered l dC dI s.heap.size x0 k0 v0 a0 j0 q qa cI cS su ad sa sv sc hsc hsu hko qn qs qf nm sp fw tt sk hk a1 ha1 (by omega)) (cwV 1 hts (gw_V m_536 m_537 m_538 m_1 m_539) rfl rfl rfl (by decide +kernel) ⟨Nat.le_of_ble_eq_true rfl, Nat.le_of_ble_eq_true rfl⟩) ⟨rw_blind, va_recv hK hPc (ci := 6) (q0 := 0) rfl rfl, fun U hU hW => ⟨rfl, by rw [hU], by rw [hU]; exact hPc, va_K.moved hW.alike (hK.sub (tys' := [(cI, .int), (cS, .object "SlitWidths$SetUp")]) [0, 1] rfl), hDc.weaken (fun _ _ _ _ => trivial)⟩⟩ rfl rfl hl.1 rfl (lv_room (Nat.le_of_ble_eq_true rfl)) d_LA_ordered_4 ⟨Nat.le_of_ble_eq_true rfl, Nat.le_of_ble_eq_true rfl⟩) hS (fun q _ h => hFc q h) hFc (fun r u t H1 locs ht hvm hw hB hz1 hk1 hS => ?_)
    obtain ⟨tt1, sk1, nm1, sp1, fw1⟩ := u
    obtain ⟨hP1, hK1, hD1⟩ := hB
    rw [ht] at hP1
    try dsimp only at hw
    obtain ⟨hP, hD⟩ := va_joinP (wr := [(ob, .inl (cJ, 1, .inr (.inl og)))]) (rx := [(x0, .inr (6, [.ref k0, .ref v0, .ref a0, .ref j0, .ref q, .ref qa, .int (nI sc)])), (q, .inr (3, [.ref qn, .int (nI tt1), .int (nI sk1), .ref qs, .ref qf])), (qn, .inl (cI, 9, .inl (aN nm1))), (qs, .inl (cI, 81, .inl (aN sp1))), (qf, .inl (cI, 4608, .inl (aN fw1))), (qa, .inl (cS, 9, .inr (.inr (.inr (.inr su)))))]) hP hD [0, 1, 2, 3, 4, 5] [6] rfl rfl (by decide) (by decide) hk1 hFc hP1 hD1
    generalize H1 = H at hP hS ⊢
    have hP : va_P (dC, dI) vwCl ([(x0, .inr (6, [.ref k0, .ref v0, .ref a0, .ref j0, .ref q, .ref qa, .int (nI sc)])), (q, .inr (3, [.ref qn, .int (nI tt1), .int (nI sk1), .ref qs, .ref qf])), (qn, .inl (cI, 9, .inl (aN nm1))), (qs, .inl (cI, 81, .inl (aN sp1))), (qf, .inl (cI, 4608, .inl (aN fw1))), (qa, .inl (cS, 9, .inr (.inr (.inr (.inr su))))), (ob, .inl (cJ, 1, .inr (.inl og)))] ++ suT cI ad sa sv 9) H := hP.part [1, 2, 3, 4, 5, 6, 0] rfl
    have hD : va_D A ([(x0, .inr (6, [.ref k0, .ref v0, .ref a0, .ref j0, .ref q, .ref qa, .int (nI sc)])), (q, .inr (3, [.ref qn, .int (nI tt1), .int (nI sk1), .ref qs, .ref qf])), (qn, .inl (cI, 9, .inl (aN nm1))), (qs, .inl (cI, 81, .inl (aN sp1))), (qf, .inl (cI, 4608, .inl (aN fw1))), (qa, .inl (cS, 9, .inr (.inr (.inr (.inr su))))), (ob, .inl (cJ, 1, .inr (.inl og)))] ++ suT cI ad sa sv 9) := hD.part [1, 2, 3, 4, 5, 6, 0] (by decide) rfl
    obtain ⟨hw1, hw2, hw3, hw4⟩ := hw
    refine lv_i2l (v := (r).toInt64) hx hb d_LA_ordered_7 rfl ?_
    refine va_last hx hb hK hP hD hS 6 2 rfl rfl (vp_in_nI (show 0 < 1 by decide) (by decide)) d_LA_ordered_8 (fun H locs hP hD hS => ?_)
    rw [nI_clamp (show 0 < 2 ^ 31 by decide)] at hP hD
    have hP : va_P (dC, dI) vwCl ([(x0, .inr (6, [.ref k0, .ref v0, .ref a0, .ref j0, .ref q, .ref qa, .int (nI sc)])), (q, .inr (3, [.ref qn, .int (nI tt1), .int (nI sk1), .ref qs, .ref qf])), (qn, .inl (cI, 9, .inl (aN nm1))), (qs, .inl (cI, 81, .inl (aN sp1))), (qf, .inl (cI, 4608, .inl (aN fw1))), (qa, .inl (cS, 9, .inr (.inr (.inr (.inr su))))), (ob, .inl (cJ, 1, .inr (.inl (vp_updL og 0 ((r).toInt64)))))] ++ suT cI ad sa sv 9) H := hP
    have hD : va_D A ([(x0, .inr (6, [.ref k0, .ref v0, .ref a0, .ref j0, .ref q, .ref qa, .int (nI sc)])), (q, .inr (3, [.ref qn, .int (nI tt1), .int (nI sk1), .ref qs, .ref qf])), (qn, .inl (cI, 9, .inl (aN nm1))), (qs, .inl (cI, 81, .inl (aN sp1))), (qf, .inl (cI, 4608, .inl (aN fw1))), (qa, .inl (cS, 9, .inr (.inr (.inr (.inr su))))), (ob, .inl (cJ, 1, .inr (.inl (vp_updL og 0 ((r).toInt64)))))] ++ suT cI ad sa sv 9) := hD
    refine lv_goto (tgt := 15) hx hb d_LA_ordered_9 (by decide) ?_
    refine lv_iconst (v := nI 0) hx hb d_LA_ordered_15 (by decide +kernel) ?_
    exact W.iret (v := nI 0) hx hb hr (fun t ht hW => ⟨⟨nI 0, (tt1, sk1, nm1, sp1, fw1, vp_updL og 0 ((r).toInt64)), rfl, ⟨fun q => absurd q (by omega), fun _ => ⟨rfl, (updL_0 og _).trans (congrArg Int32.toInt64 (hw1 (by omega)))⟩, fun q => absurd q (by omega), hw3⟩, by rw [ht]; exact hP, va_K.moved hW.alike hK, hD⟩, hS.F ht⟩) hS.2.2 d_LA_ordered_16
  · refine W.widen (k := 1) (n := 6) (by decide) (by decide) ?_
    have hPc := hP.part (cx := [(x0, .inr (6, [.ref k0, .ref v0, .ref a0, .ref j0, .ref q, .ref qa, .int (nI sc)])), (q, .inr (3, [.ref qn, .int (nI tt), .int (nI sk), .ref qs, .ref qf])), (qn, .inl (cI, 9, .inl (aN nm))), (qs, .inl (cI, 81, .inl (aN sp))), (qf, .inl (cI, 4608, .inl (aN fw))), (qa, .inl (cS, 9, .inr (.inr (.inr (.inr su)))))]) [0, 1, 2, 3, 4, 5] rfl
    have hDc := hD.part (cx := [(x0, .inr (6, [.ref k0, .ref v0, .ref a0, .ref j0, .ref q, .ref qa, .int (nI sc)])), (q, .inr (3, [.ref qn, .int (nI tt), .int (nI sk), .ref qs, .ref qf])), (qn, .inl (cI, 9, .inl (aN nm))), (qs, .inl (cI, 81, .inl (aN sp))), (qf, .inl (cI, 4608, .inl (aN fw))), (qa, .inl (cS, 9, .inr (.inr (.inr (.inr su)))))]) [0, 1, 2, 3, 4, 5] (by decide) rfl
    have hFc := va_freeP (cx := [(x0, .inr (6, [.ref k0, .ref v0, .ref a0, .ref j0, .ref q, .ref qa, .int (nI sc)])), (q, .inr (3, [.ref qn, .int (nI tt), .int (nI sk), .ref qs, .ref qf])), (qn, .inl (cI, 9, .inl (aN nm))), (qs, .inl (cI, 81, .inl (aN sp))), (qf, .inl (cI, 4608, .inl (aN fw))), (qa, .inl (cS, 9, .inr (.inr (.inr (.inr su)))))]) hD hS hA [0, 1, 2, 3, 4, 5] rfl
    refine va_calli (va_runV (As := [.int (zI a1)]) (rest := [.int (nI 0), .ref ob]) ⟨hx, hb, hml, hown, hts⟩ (c_SW_ordered l dC dI s.heap.size x0 k0 v0 a0 j0 q qa cI cS su ad sa sv sc hsc hsu hko qn qs qf nm sp fw tt sk hk a1 ha1 (by omega)) (cwV 1 hts (gw_V m_536 m_537 m_538 m_1 m_539) rfl rfl rfl (by decide +kernel) ⟨Nat.le_of_ble_eq_true rfl, Nat.le_of_ble_eq_true rfl⟩) ⟨rw_blind, va_recv hK hPc (ci := 6) (q0 := 0) rfl rfl, fun U hU hW => ⟨rfl, by rw [hU], by rw [hU]; exact hPc, va_K.moved hW.alike (hK.sub (tys' := [(cI, .int), (cS, .object "SlitWidths$SetUp")]) [0, 1] rfl), hDc.weaken (fun _ _ _ _ => trivial)⟩⟩ rfl rfl hl.1 rfl (lv_room (Nat.le_of_ble_eq_true rfl)) d_LA_ordered_4 ⟨Nat.le_of_ble_eq_true rfl, Nat.le_of_ble_eq_true rfl⟩) hS (fun q _ h => hFc q h) hFc (fun r u t H1 locs ht hvm hw hB hz1 hk1 hS => ?_)
    obtain ⟨tt1, sk1, nm1, sp1, fw1⟩ := u
    obtain ⟨hP1, hK1, hD1⟩ := hB
    rw [ht] at hP1
    try dsimp only at hw
    obtain ⟨hP, hD⟩ := va_joinP (wr := [(ob, .inl (cJ, 1, .inr (.inl og)))]) (rx := [(x0, .inr (6, [.ref k0, .ref v0, .ref a0, .ref j0, .ref q, .ref qa, .int (nI sc)])), (q, .inr (3, [.ref qn, .int (nI tt1), .int (nI sk1), .ref qs, .ref qf])), (qn, .inl (cI, 9, .inl (aN nm1))), (qs, .inl (cI, 81, .inl (aN sp1))), (qf, .inl (cI, 4608, .inl (aN fw1))), (qa, .inl (cS, 9, .inr (.inr (.inr (.inr su)))))]) hP hD [0, 1, 2, 3, 4, 5] [6] rfl rfl (by decide) (by decide) hk1 hFc hP1 hD1
    generalize H1 = H at hP hS ⊢
    have hP : va_P (dC, dI) vwCl ([(x0, .inr (6, [.ref k0, .ref v0, .ref a0, .ref j0, .ref q, .ref qa, .int (nI sc)])), (q, .inr (3, [.ref qn, .int (nI tt1), .int (nI sk1), .ref qs, .ref qf])), (qn, .inl (cI, 9, .inl (aN nm1))), (qs, .inl (cI, 81, .inl (aN sp1))), (qf, .inl (cI, 4608, .inl (aN fw1))), (qa, .inl (cS, 9, .inr (.inr (.inr (.inr su))))), (ob, .inl (cJ, 1, .inr (.inl og)))] ++ suT cI ad sa sv 9) H := hP.part [1, 2, 3, 4, 5, 6, 0] rfl
    have hD : va_D A ([(x0, .inr (6, [.ref k0, .ref v0, .ref a0, .ref j0, .ref q, .ref qa, .int (nI sc)])), (q, .inr (3, [.ref qn, .int (nI tt1), .int (nI sk1), .ref qs, .ref qf])), (qn, .inl (cI, 9, .inl (aN nm1))), (qs, .inl (cI, 81, .inl (aN sp1))), (qf, .inl (cI, 4608, .inl (aN fw1))), (qa, .inl (cS, 9, .inr (.inr (.inr (.inr su))))), (ob, .inl (cJ, 1, .inr (.inl og)))] ++ suT cI ad sa sv 9) := hD.part [1, 2, 3, 4, 5, 6, 0] (by decide) rfl
    obtain ⟨hw1, hw2, hw3, hw4⟩ := hw
    refine lv_i2l (v := (r).toInt64) hx hb d_LA_ordered_7 rfl ?_
    refine va_last hx hb hK hP hD hS 6 2 rfl rfl (vp_in_nI (show 0 < 1 by decide) (by decide)) d_LA_ordered_8 (fun H locs hP hD hS => ?_)
    rw [nI_clamp (show 0 < 2 ^ 31 by decide)] at hP hD
    have hP : va_P (dC, dI) vwCl ([(x0, .inr (6, [.ref k0, .ref v0, .ref a0, .ref j0, .ref q, .ref qa, .int (nI sc)])), (q, .inr (3, [.ref qn, .int (nI tt1), .int (nI sk1), .ref qs, .ref qf])), (qn, .inl (cI, 9, .inl (aN nm1))), (qs, .inl (cI, 81, .inl (aN sp1))), (qf, .inl (cI, 4608, .inl (aN fw1))), (qa, .inl (cS, 9, .inr (.inr (.inr (.inr su))))), (ob, .inl (cJ, 1, .inr (.inl (vp_updL og 0 ((r).toInt64)))))] ++ suT cI ad sa sv 9) H := hP
    have hD : va_D A ([(x0, .inr (6, [.ref k0, .ref v0, .ref a0, .ref j0, .ref q, .ref qa, .int (nI sc)])), (q, .inr (3, [.ref qn, .int (nI tt1), .int (nI sk1), .ref qs, .ref qf])), (qn, .inl (cI, 9, .inl (aN nm1))), (qs, .inl (cI, 81, .inl (aN sp1))), (qf, .inl (cI, 4608, .inl (aN fw1))), (qa, .inl (cS, 9, .inr (.inr (.inr (.inr su))))), (ob, .inl (cJ, 1, .inr (.inl (vp_updL og 0 ((r).toInt64)))))] ++ suT cI ad sa sv 9) := hD
    refine lv_goto (tgt := 15) hx hb d_LA_ordered_9 (by decide) ?_
    refine lv_iconst (v := nI 0) hx hb d_LA_ordered_15 (by decide +kernel) ?_
    exact W.iret (v := nI 0) hx hb hr (fun t ht hW => ⟨⟨nI 0, (tt1, sk1, nm1, sp1, fw1, vp_updL og 0 ((r).toInt64)), rfl, ⟨fun q => absurd q (by omega), fun q => absurd q (by omega), fun _ => ⟨rfl, (updL_0 og _).trans (congrArg Int32.toInt64 (hw2 (by omega))), hw4 (by omega)⟩, hw3⟩, by rw [ht]; exact hP, va_K.moved hW.alike hK, hD⟩, hS.F ht⟩) hS.2.2 d_LA_ordered_16
