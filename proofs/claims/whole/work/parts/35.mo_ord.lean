set_option maxHeartbeats 4000000 in
set_option maxRecDepth 100000 in
/-- order() -/
theorem c_MO_order (l : Launch) (dC : Nat → ClassId) (dI : Nat → Nat → Nat) (sz : Nat) (z g : Nat → Nat) (cI : ClassId) (ww sf sl ss : Nat → Nat) (re mo : Nat → Nat) (nu : Nat → Nat → Nat) (h7 : g 7 ≤ 9) (hs : ∀ s, s < g 7 → HW (fun w => ss (5 * s + w)) (nu s) ∧ (∀ w, w < 5 → ss (5 * s + w) ≤ 6) ∧ ∀ k, k < sumN (fun w => ss (5 * s + w)) 5 → Em ww (nu s) (sf s) (sl s) k < 1000000) : Met l y_MO_order w_MO_order { frames := 6, cells := 0, slots := 0, locals := 146 } (rw_Pc (dC, dI) vwCl [(cI, .int)] sz [.ref (z 0)] [(z 0, .inr (7, [.int (nI (g 0)), .int (nI (g 1)), .int (nI (g 2)), .int (nI (g 3)), .int (nI (g 4)), .int (nI (g 5)), .int (nI (g 6)), .ref (z 1), .ref (z 2), .ref (z 3), .ref (z 4), .int (nI (g 7)), .ref (z 5), .ref (z 6), .ref (z 7), .ref (z 8), .ref (z 9), .ref (z 10), .int (nI (g 8)), .ref (z 11), .ref (z 12), .ref (z 13), .ref (z 14)])), (z 1, .inl (cI, 5, .inl (aN ww))), (z 8, .inl (cI, 9, .inl (aN sf))), (z 9, .inl (cI, 9, .inl (aN sl))), (z 10, .inl (cI, 45, .inl (aN ss))), (z 13, .inl (cI, 4608, .inl (aN re))), (z 14, .inl (cI, 81, .inl (aN mo)))]) (va_Qi (fun (r : Int32) (u : Nat × (Nat → Nat) × (Nat → Nat)) => u.1 = 0 ∧ (∀ a, a < g 7 → ∀ b, b < g 7 → u.2.2 (9 * a + b) = MVm ww sf sl ss nu a b) ∧ MB u.2.2 u.2.1 (g 7) 0 0 ∧ ∃ v, r = nI v ∧ LST u.2.1 (g 7) v) (rw_B (dC, dI) vwCl [(cI, .int)] (va_A [(z 0, .inr (7, [.int (nI (g 0)), .int (nI (g 1)), .int (nI (g 2)), .int (nI (g 3)), .int (nI (g 4)), .int (nI (g 5)), .int (nI (g 6)), .ref (z 1), .ref (z 2), .ref (z 3), .ref (z 4), .int (nI (g 7)), .ref (z 5), .ref (z 6), .ref (z 7), .ref (z 8), .ref (z 9), .ref (z 10), .int (nI (g 8)), .ref (z 11), .ref (z 12), .ref (z 13), .ref (z 14)])), (z 1, .inl (cI, 5, .inl (aN ww))), (z 8, .inl (cI, 9, .inl (aN sf))), (z 9, .inl (cI, 9, .inl (aN sl))), (z 10, .inl (cI, 45, .inl (aN ss))), (z 13, .inl (cI, 4608, .inl (aN re))), (z 14, .inl (cI, 81, .inl (aN mo)))] sz) (fun u : Nat × (Nat → Nat) × (Nat → Nat) => [(z 0, .inr (7, [.int (nI u.1), .int (nI (g 1)), .int (nI (g 2)), .int (nI (g 3)), .int (nI (g 4)), .int (nI (g 5)), .int (nI (g 6)), .ref (z 1), .ref (z 2), .ref (z 3), .ref (z 4), .int (nI (g 7)), .ref (z 5), .ref (z 6), .ref (z 7), .ref (z 8), .ref (z 9), .ref (z 10), .int (nI (g 8)), .ref (z 11), .ref (z 12), .ref (z 13), .ref (z 14)])), (z 1, .inl (cI, 5, .inl (aN ww))), (z 8, .inl (cI, 9, .inl (aN sf))), (z 9, .inl (cI, 9, .inl (aN sl))), (z 10, .inl (cI, 45, .inl (aN ss))), (z 13, .inl (cI, 4608, .inl (aN u.2.1))), (z 14, .inl (cI, 81, .inl (aN u.2.2)))])) (va_A [(z 0, .inr (7, [.int (nI (g 0)), .int (nI (g 1)), .int (nI (g 2)), .int (nI (g 3)), .int (nI (g 4)), .int (nI (g 5)), .int (nI (g 6)), .ref (z 1), .ref (z 2), .ref (z 3), .ref (z 4), .int (nI (g 7)), .ref (z 5), .ref (z 6), .ref (z 7), .ref (z 8), .ref (z 9), .ref (z 10), .int (nI (g 8)), .ref (z 11), .ref (z 12), .ref (z 13), .ref (z 14)])), (z 1, .inl (cI, 5, .inl (aN ww))), (z 8, .inl (cI, 9, .inl (aN sf))), (z 9, .inl (cI, 9, .inl (aN sl))), (z 10, .inl (cI, 45, .inl (aN ss))), (z 13, .inl (cI, 4608, .inl (aN re))), (z 14, .inl (cI, 81, .inl (aN mo)))] sz)) 0 0 (va_A [(z 0, .inr (7, [.int (nI (g 0)), .int (nI (g 1)), .int (nI (g 2)), .int (nI (g 3)), .int (nI (g 4)), .int (nI (g 5)), .int (nI (g 6)), .ref (z 1), .ref (z 2), .ref (z 3), .ref (z 4), .int (nI (g 7)), .ref (z 5), .ref (z 6), .ref (z 7), .ref (z 8), .ref (z 9), .ref (z 10), .int (nI (g 8)), .ref (z 11), .ref (z 12), .ref (z 13), .ref (z 14)])), (z 1, .inl (cI, 5, .inl (aN ww))), (z 8, .inl (cI, 9, .inl (aN sf))), (z 9, .inl (cI, 9, .inl (aN sl))), (z 10, .inl (cI, 45, .inl (aN ss))), (z 13, .inl (cI, 4608, .inl (aN re))), (z 14, .inl (cI, 81, .inl (aN mo)))] sz) := by
  refine Met.ofW (cc := b_MO_order) (maxL := 1) (ret := (some .int)) (by decide) rfl ?_
  intro p e s m args below meth c s₁ B hml hv
  obtain ⟨rfl, hsz, hP, hK, hD0⟩ := hv
  have hx := B.exec
  have hb := B.bytes
  have hr := B.returns
  have hts := gw_h (atoms_spec (ws := w_MO_order) B.pre)
  have hown : s.vm.findClass R_MO = some m.cls := findClass_of_methodNamed B.named
  have hlocks := B.notSynchronized
  subst hsz
  have hD := hD0.self (sz := s.heap.size)
  generalize hAe : va_A [(z 0, .inr (7, [.int (nI (g 0)), .int (nI (g 1)), .int (nI (g 2)), .int (nI (g 3)), .int (nI (g 4)), .int (nI (g 5)), .int (nI (g 6)), .ref (z 1), .ref (z 2), .ref (z 3), .ref (z 4), .int (nI (g 7)), .ref (z 5), .ref (z 6), .ref (z 7), .ref (z 8), .ref (z 9), .ref (z 10), .int (nI (g 8)), .ref (z 11), .ref (z 12), .ref (z 13), .ref (z 14)])), (z 1, .inl (cI, 5, .inl (aN ww))), (z 8, .inl (cI, 9, .inl (aN sf))), (z 9, .inl (cI, 9, .inl (aN sl))), (z 10, .inl (cI, 45, .inl (aN ss))), (z 13, .inl (cI, 4608, .inl (aN re))), (z 14, .inl (cI, 81, .inl (aN mo)))] s.heap.size = A at hD ⊢
  have hA : ∀ q : Nat, s.heap.size ≤ q → A q := fun q h => by rw [← hAe]; exact Or.inr h
  have hS : va_S A s.heap s.heap [] := va_S.rf
  have hP : va_P (dC, dI) vwCl [(z 0, .inr (7, [.int (nI (g 0)), .int (nI (g 1)), .int (nI (g 2)), .int (nI (g 3)), .int (nI (g 4)), .int (nI (g 5)), .int (nI (g 6)), .ref (z 1), .ref (z 2), .ref (z 3), .ref (z 4), .int (nI (g 7)), .ref (z 5), .ref (z 6), .ref (z 7), .ref (z 8), .ref (z 9), .ref (z 10), .int (nI (g 8)), .ref (z 11), .ref (z 12), .ref (z 13), .ref (z 14)])), (z 1, .inl (cI, 5, .inl (aN ww))), (z 8, .inl (cI, 9, .inl (aN sf))), (z 9, .inl (cI, 9, .inl (aN sl))), (z 10, .inl (cI, 45, .inl (aN ss))), (z 13, .inl (cI, 4608, .inl (aN re))), (z 14, .inl (cI, 81, .inl (aN mo)))] s.heap := hP
  have hl := lv_entry ([.ref (z 0)]) (n := 1) (Nat.le_of_ble_eq_true rfl)
  rw [lg_entry_eq]
  generalize (lg_sl ([.ref (z 0)]) ++ List.replicate (1 - (lg_sl ([.ref (z 0)])).length) Slot.unset).toArray = ls at hl ⊢
  have hl : lv_has ls 1 [(0, .ref (z 0))] := hl
  refine lv_aload_n hx hb d_MO_order_0 rfl (lv_at hl 0 rfl) ?_
  refine lv_iconst (v := nI 0) hx hb d_MO_order_1 (by decide +kernel) ?_
  refine va_put (D := (dC, dI)) (ci := 7) (v := .int (nI 0)) (ty := .int) (C := R_MO) (T := F_MO) (N := 23) hx hb hts in_MO t_MO t_MO_ok n_MO hown hK hP hD hS 0 rfl rfl 0 (by decide) (hts _ m_572) (fun _ h9 => h9) rfl (by decide +kernel) rfl rfl (Nat.le_of_ble_eq_true rfl) d_MO_order_2 (fun H locs hP hD hS => ?_)
  have hP : va_P (dC, dI) vwCl [(z 0, .inr (7, [.int (nI 0), .int (nI (g 1)), .int (nI (g 2)), .int (nI (g 3)), .int (nI (g 4)), .int (nI (g 5)), .int (nI (g 6)), .ref (z 1), .ref (z 2), .ref (z 3), .ref (z 4), .int (nI (g 7)), .ref (z 5), .ref (z 6), .ref (z 7), .ref (z 8), .ref (z 9), .ref (z 10), .int (nI (g 8)), .ref (z 11), .ref (z 12), .ref (z 13), .ref (z 14)])), (z 1, .inl (cI, 5, .inl (aN ww))), (z 8, .inl (cI, 9, .inl (aN sf))), (z 9, .inl (cI, 9, .inl (aN sl))), (z 10, .inl (cI, 45, .inl (aN ss))), (z 13, .inl (cI, 4608, .inl (aN re))), (z 14, .inl (cI, 81, .inl (aN mo)))] H := hP
  have hD : va_D A [(z 0, .inr (7, [.int (nI 0), .int (nI (g 1)), .int (nI (g 2)), .int (nI (g 3)), .int (nI (g 4)), .int (nI (g 5)), .int (nI (g 6)), .ref (z 1), .ref (z 2), .ref (z 3), .ref (z 4), .int (nI (g 7)), .ref (z 5), .ref (z 6), .ref (z 7), .ref (z 8), .ref (z 9), .ref (z 10), .int (nI (g 8)), .ref (z 11), .ref (z 12), .ref (z 13), .ref (z 14)])), (z 1, .inl (cI, 5, .inl (aN ww))), (z 8, .inl (cI, 9, .inl (aN sf))), (z 9, .inl (cI, 9, .inl (aN sl))), (z 10, .inl (cI, 45, .inl (aN ss))), (z 13, .inl (cI, 4608, .inl (aN re))), (z 14, .inl (cI, 81, .inl (aN mo)))] := hD
  refine lv_aload_n hx hb d_MO_order_5 rfl (lv_at hl 0 rfl) ?_
  have hPc := hP.sub (ws' := [(z 0, .inr (7, [.int (nI 0), .int (nI (g 1)), .int (nI (g 2)), .int (nI (g 3)), .int (nI (g 4)), .int (nI (g 5)), .int (nI (g 6)), .ref (z 1), .ref (z 2), .ref (z 3), .ref (z 4), .int (nI (g 7)), .ref (z 5), .ref (z 6), .ref (z 7), .ref (z 8), .ref (z 9), .ref (z 10), .int (nI (g 8)), .ref (z 11), .ref (z 12), .ref (z 13), .ref (z 14)])), (z 1, .inl (cI, 5, .inl (aN ww))), (z 8, .inl (cI, 9, .inl (aN sf))), (z 9, .inl (cI, 9, .inl (aN sl))), (z 10, .inl (cI, 45, .inl (aN ss))), (z 13, .inl (cI, 4608, .inl (aN re))), (z 14, .inl (cI, 81, .inl (aN mo)))]) [0, 1, 2, 3, 4, 5, 6] rfl
  have hDc := hD.sub (ws' := [(z 0, .inr (7, [.int (nI 0), .int (nI (g 1)), .int (nI (g 2)), .int (nI (g 3)), .int (nI (g 4)), .int (nI (g 5)), .int (nI (g 6)), .ref (z 1), .ref (z 2), .ref (z 3), .ref (z 4), .int (nI (g 7)), .ref (z 5), .ref (z 6), .ref (z 7), .ref (z 8), .ref (z 9), .ref (z 10), .int (nI (g 8)), .ref (z 11), .ref (z 12), .ref (z 13), .ref (z 14)])), (z 1, .inl (cI, 5, .inl (aN ww))), (z 8, .inl (cI, 9, .inl (aN sf))), (z 9, .inl (cI, 9, .inl (aN sl))), (z 10, .inl (cI, 45, .inl (aN ss))), (z 13, .inl (cI, 4608, .inl (aN re))), (z 14, .inl (cI, 81, .inl (aN mo)))]) [0, 1, 2, 3, 4, 5, 6] (by decide) rfl
  have hFc := va_free (wc := [(z 0, .inr (7, [.int (nI 0), .int (nI (g 1)), .int (nI (g 2)), .int (nI (g 3)), .int (nI (g 4)), .int (nI (g 5)), .int (nI (g 6)), .ref (z 1), .ref (z 2), .ref (z 3), .ref (z 4), .int (nI (g 7)), .ref (z 5), .ref (z 6), .ref (z 7), .ref (z 8), .ref (z 9), .ref (z 10), .int (nI (g 8)), .ref (z 11), .ref (z 12), .ref (z 13), .ref (z 14)])), (z 1, .inl (cI, 5, .inl (aN ww))), (z 8, .inl (cI, 9, .inl (aN sf))), (z 9, .inl (cI, 9, .inl (aN sl))), (z 10, .inl (cI, 45, .inl (aN ss))), (z 13, .inl (cI, 4608, .inl (aN re))), (z 14, .inl (cI, 81, .inl (aN mo)))]) hD hS hA [0, 1, 2, 3, 4, 5, 6] rfl
  refine va_calli (va_runV (As := []) (rest := []) ⟨hx, hb, hml, hown, hts⟩ (c_MO_plan l dC dI H.size z (up g 0 0) cI ww sf sl ss re mo nu h7 hs) (cwV 0 hts (gw_V m_742 m_744 s_29 m_8 m_745) rfl rfl rfl (by decide +kernel) ⟨Nat.le_of_ble_eq_true rfl, Nat.le_of_ble_eq_true rfl⟩) ⟨rw_blind, va_recv hK hPc (ci := 7) (q0 := 0) rfl rfl, fun U hU hW => ⟨rfl, by rw [hU], by rw [hU]; exact hPc, va_K.moved hW.alike hK, hDc.weaken (fun _ _ _ _ => trivial)⟩⟩ rfl rfl hl.1 rfl (lv_room (Nat.le_of_ble_eq_true rfl)) d_MO_order_6 ⟨Nat.le_of_ble_eq_true rfl, Nat.le_of_ble_eq_true rfl⟩) hS (fun q _ h => hFc q h) hFc (fun r u t H1 locs ht hvm hw hB hz1 hk1 hS => ?_)
  obtain ⟨re1, mo1⟩ := u
  obtain ⟨hP1, hK1, hD1⟩ := hB
  rw [ht] at hP1
  try dsimp only at hw
  obtain ⟨hP, hD⟩ := va_join (wr := []) (w1 := [(z 0, .inr (7, [.int (nI 0), .int (nI (g 1)), .int (nI (g 2)), .int (nI (g 3)), .int (nI (g 4)), .int (nI (g 5)), .int (nI (g 6)), .ref (z 1), .ref (z 2), .ref (z 3), .ref (z 4), .int (nI (g 7)), .ref (z 5), .ref (z 6), .ref (z 7), .ref (z 8), .ref (z 9), .ref (z 10), .int (nI (g 8)), .ref (z 11), .ref (z 12), .ref (z 13), .ref (z 14)])), (z 1, .inl (cI, 5, .inl (aN ww))), (z 8, .inl (cI, 9, .inl (aN sf))), (z 9, .inl (cI, 9, .inl (aN sl))), (z 10, .inl (cI, 45, .inl (aN ss))), (z 13, .inl (cI, 4608, .inl (aN re1))), (z 14, .inl (cI, 81, .inl (aN mo1)))]) hP hD [0, 1, 2, 3, 4, 5, 6] [] rfl rfl (by decide) (by decide) hk1 hFc hP1 hD1
  generalize H1 = H at hP hS ⊢
  have hP : va_P (dC, dI) vwCl [(z 0, .inr (7, [.int (nI 0), .int (nI (g 1)), .int (nI (g 2)), .int (nI (g 3)), .int (nI (g 4)), .int (nI (g 5)), .int (nI (g 6)), .ref (z 1), .ref (z 2), .ref (z 3), .ref (z 4), .int (nI (g 7)), .ref (z 5), .ref (z 6), .ref (z 7), .ref (z 8), .ref (z 9), .ref (z 10), .int (nI (g 8)), .ref (z 11), .ref (z 12), .ref (z 13), .ref (z 14)])), (z 1, .inl (cI, 5, .inl (aN ww))), (z 8, .inl (cI, 9, .inl (aN sf))), (z 9, .inl (cI, 9, .inl (aN sl))), (z 10, .inl (cI, 45, .inl (aN ss))), (z 13, .inl (cI, 4608, .inl (aN re1))), (z 14, .inl (cI, 81, .inl (aN mo1)))] H := hP.sub [0, 1, 2, 3, 4, 5, 6] rfl
  have hD : va_D A [(z 0, .inr (7, [.int (nI 0), .int (nI (g 1)), .int (nI (g 2)), .int (nI (g 3)), .int (nI (g 4)), .int (nI (g 5)), .int (nI (g 6)), .ref (z 1), .ref (z 2), .ref (z 3), .ref (z 4), .int (nI (g 7)), .ref (z 5), .ref (z 6), .ref (z 7), .ref (z 8), .ref (z 9), .ref (z 10), .int (nI (g 8)), .ref (z 11), .ref (z 12), .ref (z 13), .ref (z 14)])), (z 1, .inl (cI, 5, .inl (aN ww))), (z 8, .inl (cI, 9, .inl (aN sf))), (z 9, .inl (cI, 9, .inl (aN sl))), (z 10, .inl (cI, 45, .inl (aN ss))), (z 13, .inl (cI, 4608, .inl (aN re1))), (z 14, .inl (cI, 81, .inl (aN mo1)))] := hD.sub [0, 1, 2, 3, 4, 5, 6] (by decide) rfl
  obtain ⟨hmo, hMB, v1, rfl, hLS⟩ := hw
  have hmo : ∀ a, a < g 7 → ∀ b, b < g 7 → mo1 (9 * a + b) = MVm ww sf sl ss nu a b := hmo
  have hMB : MB mo1 re1 (g 7) 0 0 := hMB
  have hLS : LST re1 (g 7) v1 := hLS
  exact W.iret (v := nI v1) hx hb hr (fun t ht hW => ⟨⟨nI v1, (0, re1, mo1), rfl, ⟨rfl, hmo, hMB, v1, rfl, hLS⟩, by rw [ht]; exact hP, va_K.moved hW.alike hK, hD⟩, hS.F ht⟩) hS.2.2 d_MO_order_9
set_option maxHeartbeats 4000000 in
set_option maxRecDepth 100000 in
/-- ordered(i) -/
theorem c_MO_ordered (l : Launch) (dC : Nat → ClassId) (dI : Nat → Nat → Nat) (sz : Nat) (z g : Nat → Nat) (cI : ClassId) (ww sf sl ss : Nat → Nat) (re mo : Nat → Nat) (nu : Nat → Nat → Nat) (h7 : g 7 ≤ 9) (hs : ∀ s, s < g 7 → HW (fun w => ss (5 * s + w)) (nu s) ∧ (∀ w, w < 5 → ss (5 * s + w) ≤ 6) ∧ ∀ k, k < sumN (fun w => ss (5 * s + w)) 5 → Em ww (nu s) (sf s) (sl s) k < 1000000) (a1 : Int) (ha1 : -2147483648 ≤ a1 ∧ a1 < 2147483648) : Met l y_MO_ordered w_MO_ordered { frames := 6, cells := 0, slots := 0, locals := 146 } (rw_Pc (dC, dI) vwCl [(cI, .int)] sz [.ref (z 0), .int (zI a1)] [(z 0, .inr (7, [.int (nI (g 0)), .int (nI (g 1)), .int (nI (g 2)), .int (nI (g 3)), .int (nI (g 4)), .int (nI (g 5)), .int (nI (g 6)), .ref (z 1), .ref (z 2), .ref (z 3), .ref (z 4), .int (nI (g 7)), .ref (z 5), .ref (z 6), .ref (z 7), .ref (z 8), .ref (z 9), .ref (z 10), .int (nI (g 8)), .ref (z 11), .ref (z 12), .ref (z 13), .ref (z 14)])), (z 1, .inl (cI, 5, .inl (aN ww))), (z 8, .inl (cI, 9, .inl (aN sf))), (z 9, .inl (cI, 9, .inl (aN sl))), (z 10, .inl (cI, 45, .inl (aN ss))), (z 13, .inl (cI, 4608, .inl (aN re))), (z 14, .inl (cI, 81, .inl (aN mo)))]) (va_Qi (fun (r : Int32) (u : Nat × (Nat → Nat) × (Nat → Nat)) => (a1 < 0 → u.1 = 1) ∧ (g 7 ≤ a1 → u.1 = 0 ∧ r = zI (-1)) ∧ (0 ≤ a1 ∧ a1 < g 7 → u.1 = 0 ∧ (∀ a, a < g 7 → ∀ b, b < g 7 → u.2.2 (9 * a + b) = MVm ww sf sl ss nu a b) ∧ MB u.2.2 u.2.1 (g 7) 0 0 ∧ ∃ num, MG u.2.2 u.2.1 (g 7) num (a1.toNat + 1) ∧ r = zI (num a1.toNat : Nat))) (rw_B (dC, dI) vwCl [(cI, .int)] (va_A [(z 0, .inr (7, [.int (nI (g 0)), .int (nI (g 1)), .int (nI (g 2)), .int (nI (g 3)), .int (nI (g 4)), .int (nI (g 5)), .int (nI (g 6)), .ref (z 1), .ref (z 2), .ref (z 3), .ref (z 4), .int (nI (g 7)), .ref (z 5), .ref (z 6), .ref (z 7), .ref (z 8), .ref (z 9), .ref (z 10), .int (nI (g 8)), .ref (z 11), .ref (z 12), .ref (z 13), .ref (z 14)])), (z 1, .inl (cI, 5, .inl (aN ww))), (z 8, .inl (cI, 9, .inl (aN sf))), (z 9, .inl (cI, 9, .inl (aN sl))), (z 10, .inl (cI, 45, .inl (aN ss))), (z 13, .inl (cI, 4608, .inl (aN re))), (z 14, .inl (cI, 81, .inl (aN mo)))] sz) (fun u : Nat × (Nat → Nat) × (Nat → Nat) => [(z 0, .inr (7, [.int (nI u.1), .int (nI (g 1)), .int (nI (g 2)), .int (nI (g 3)), .int (nI (g 4)), .int (nI (g 5)), .int (nI (g 6)), .ref (z 1), .ref (z 2), .ref (z 3), .ref (z 4), .int (nI (g 7)), .ref (z 5), .ref (z 6), .ref (z 7), .ref (z 8), .ref (z 9), .ref (z 10), .int (nI (g 8)), .ref (z 11), .ref (z 12), .ref (z 13), .ref (z 14)])), (z 1, .inl (cI, 5, .inl (aN ww))), (z 8, .inl (cI, 9, .inl (aN sf))), (z 9, .inl (cI, 9, .inl (aN sl))), (z 10, .inl (cI, 45, .inl (aN ss))), (z 13, .inl (cI, 4608, .inl (aN u.2.1))), (z 14, .inl (cI, 81, .inl (aN u.2.2)))])) (va_A [(z 0, .inr (7, [.int (nI (g 0)), .int (nI (g 1)), .int (nI (g 2)), .int (nI (g 3)), .int (nI (g 4)), .int (nI (g 5)), .int (nI (g 6)), .ref (z 1), .ref (z 2), .ref (z 3), .ref (z 4), .int (nI (g 7)), .ref (z 5), .ref (z 6), .ref (z 7), .ref (z 8), .ref (z 9), .ref (z 10), .int (nI (g 8)), .ref (z 11), .ref (z 12), .ref (z 13), .ref (z 14)])), (z 1, .inl (cI, 5, .inl (aN ww))), (z 8, .inl (cI, 9, .inl (aN sf))), (z 9, .inl (cI, 9, .inl (aN sl))), (z 10, .inl (cI, 45, .inl (aN ss))), (z 13, .inl (cI, 4608, .inl (aN re))), (z 14, .inl (cI, 81, .inl (aN mo)))] sz)) 0 0 (va_A [(z 0, .inr (7, [.int (nI (g 0)), .int (nI (g 1)), .int (nI (g 2)), .int (nI (g 3)), .int (nI (g 4)), .int (nI (g 5)), .int (nI (g 6)), .ref (z 1), .ref (z 2), .ref (z 3), .ref (z 4), .int (nI (g 7)), .ref (z 5), .ref (z 6), .ref (z 7), .ref (z 8), .ref (z 9), .ref (z 10), .int (nI (g 8)), .ref (z 11), .ref (z 12), .ref (z 13), .ref (z 14)])), (z 1, .inl (cI, 5, .inl (aN ww))), (z 8, .inl (cI, 9, .inl (aN sf))), (z 9, .inl (cI, 9, .inl (aN sl))), (z 10, .inl (cI, 45, .inl (aN ss))), (z 13, .inl (cI, 4608, .inl (aN re))), (z 14, .inl (cI, 81, .inl (aN mo)))] sz) := by
  refine Met.ofW (cc := b_MO_ordered) (maxL := 9) (ret := (some .int)) (by decide) rfl ?_
  intro p e s m args below meth c s₁ B hml hv
  obtain ⟨rfl, hsz, hP, hK, hD0⟩ := hv
  have hx := B.exec
  have hb := B.bytes
  have hr := B.returns
  have hts := gw_h (atoms_spec (ws := w_MO_ordered) B.pre)
  have hown : s.vm.findClass R_MO = some m.cls := findClass_of_methodNamed B.named
  have hlocks := B.notSynchronized
  subst hsz
  have hD := hD0.self (sz := s.heap.size)
  generalize hAe : va_A [(z 0, .inr (7, [.int (nI (g 0)), .int (nI (g 1)), .int (nI (g 2)), .int (nI (g 3)), .int (nI (g 4)), .int (nI (g 5)), .int (nI (g 6)), .ref (z 1), .ref (z 2), .ref (z 3), .ref (z 4), .int (nI (g 7)), .ref (z 5), .ref (z 6), .ref (z 7), .ref (z 8), .ref (z 9), .ref (z 10), .int (nI (g 8)), .ref (z 11), .ref (z 12), .ref (z 13), .ref (z 14)])), (z 1, .inl (cI, 5, .inl (aN ww))), (z 8, .inl (cI, 9, .inl (aN sf))), (z 9, .inl (cI, 9, .inl (aN sl))), (z 10, .inl (cI, 45, .inl (aN ss))), (z 13, .inl (cI, 4608, .inl (aN re))), (z 14, .inl (cI, 81, .inl (aN mo)))] s.heap.size = A at hD ⊢
  have hA : ∀ q : Nat, s.heap.size ≤ q → A q := fun q h => by rw [← hAe]; exact Or.inr h
  have hS : va_S A s.heap s.heap [] := va_S.rf
  have hP : va_P (dC, dI) vwCl [(z 0, .inr (7, [.int (nI (g 0)), .int (nI (g 1)), .int (nI (g 2)), .int (nI (g 3)), .int (nI (g 4)), .int (nI (g 5)), .int (nI (g 6)), .ref (z 1), .ref (z 2), .ref (z 3), .ref (z 4), .int (nI (g 7)), .ref (z 5), .ref (z 6), .ref (z 7), .ref (z 8), .ref (z 9), .ref (z 10), .int (nI (g 8)), .ref (z 11), .ref (z 12), .ref (z 13), .ref (z 14)])), (z 1, .inl (cI, 5, .inl (aN ww))), (z 8, .inl (cI, 9, .inl (aN sf))), (z 9, .inl (cI, 9, .inl (aN sl))), (z 10, .inl (cI, 45, .inl (aN ss))), (z 13, .inl (cI, 4608, .inl (aN re))), (z 14, .inl (cI, 81, .inl (aN mo)))] s.heap := hP
  have hl := lv_entry ([.ref (z 0), .int (zI a1)]) (n := 9) (Nat.le_of_ble_eq_true rfl)
  rw [lg_entry_eq]
  generalize (lg_sl ([.ref (z 0), .int (zI a1)]) ++ List.replicate (9 - (lg_sl ([.ref (z 0), .int (zI a1)])).length) Slot.unset).toArray = ls at hl ⊢
  have hl : lv_has ls 9 [(0, .ref (z 0)), (1, .int (zI a1))] := hl
  have h512 : 2 ^ g 7 ≤ 512 := (Nat.pow_le_pow_right (by decide) h7 : 2 ^ g 7 ≤ 2 ^ 9)
  refine lv_aload_n hx hb d_MO_ordered_0 rfl (lv_at hl 0 rfl) ?_
  refine lv_iload_n hx hb d_MO_ordered_1 rfl (lv_at hl 1 rfl) ?_
  refine ix_if_ge (tgt := 9) hx hb (zI_toInt (z := a1) (by omega) (by omega)) d_MO_ordered_2 (by decide) (fun c_2 => ?_) (fun c_2 => ?_)
  · refine lv_iconst (v := nI 0) hx hb d_MO_ordered_9 (by decide +kernel) ?_
    refine lv_iconst (v := nI 0) hx hb d_MO_ordered_10 (by decide +kernel) ?_
    have hPc := hP.sub (ws' := [(z 0, .inr (7, [.int (nI (g 0)), .int (nI (g 1)), .int (nI (g 2)), .int (nI (g 3)), .int (nI (g 4)), .int (nI (g 5)), .int (nI (g 6)), .ref (z 1), .ref (z 2), .ref (z 3), .ref (z 4), .int (nI (g 7)), .ref (z 5), .ref (z 6), .ref (z 7), .ref (z 8), .ref (z 9), .ref (z 10), .int (nI (g 8)), .ref (z 11), .ref (z 12), .ref (z 13), .ref (z 14)]))]) [0] rfl
    have hDc := hD.sub (ws' := [(z 0, .inr (7, [.int (nI (g 0)), .int (nI (g 1)), .int (nI (g 2)), .int (nI (g 3)), .int (nI (g 4)), .int (nI (g 5)), .int (nI (g 6)), .ref (z 1), .ref (z 2), .ref (z 3), .ref (z 4), .int (nI (g 7)), .ref (z 5), .ref (z 6), .ref (z 7), .ref (z 8), .ref (z 9), .ref (z 10), .int (nI (g 8)), .ref (z 11), .ref (z 12), .ref (z 13), .ref (z 14)]))]) [0] (by decide) rfl
    have hFc := va_free (wc := [(z 0, .inr (7, [.int (nI (g 0)), .int (nI (g 1)), .int (nI (g 2)), .int (nI (g 3)), .int (nI (g 4)), .int (nI (g 5)), .int (nI (g 6)), .ref (z 1), .ref (z 2), .ref (z 3), .ref (z 4), .int (nI (g 7)), .ref (z 5), .ref (z 6), .ref (z 7), .ref (z 8), .ref (z 9), .ref (z 10), .int (nI (g 8)), .ref (z 11), .ref (z 12), .ref (z 13), .ref (z 14)]))]) hD hS hA [0] rfl
    refine va_calli (va_runV (As := [.int (nI 0), .int (nI 0)]) (rest := []) ⟨hx, hb, hml, hown, hts⟩ (c_MO_throwing l dC dI s.heap.size z g cI 0 0 (by decide) (by decide)) (cwV 2 hts (gw_V m_654 m_656 s_16 m_8 m_657) rfl rfl rfl (by decide +kernel) ⟨Nat.le_of_ble_eq_true rfl, Nat.le_of_ble_eq_true rfl⟩) ⟨rw_blind, va_recv hK hPc (ci := 7) (q0 := 0) rfl rfl, fun U hU hW => ⟨rfl, by rw [hU], by rw [hU]; exact hPc, va_K.moved hW.alike hK, hDc.weaken (fun _ _ _ _ => trivial)⟩⟩ rfl rfl hl.1 rfl (lv_room (Nat.le_of_ble_eq_true rfl)) d_MO_ordered_11 ⟨Nat.le_of_ble_eq_true rfl, Nat.le_of_ble_eq_true rfl⟩) hS (fun q _ h => hFc q h) hFc (fun r u t H1 locs ht hvm hw hB hz1 hk1 hS => ?_)
    obtain ⟨th1, rfl⟩ : ∃ z, z = u := ⟨_, rfl⟩
    obtain ⟨hP1, hK1, hD1⟩ := hB
    rw [ht] at hP1
    try dsimp only at hw
    obtain ⟨hP, hD⟩ := va_join (wr := [(z 1, .inl (cI, 5, .inl (aN ww))), (z 8, .inl (cI, 9, .inl (aN sf))), (z 9, .inl (cI, 9, .inl (aN sl))), (z 10, .inl (cI, 45, .inl (aN ss))), (z 13, .inl (cI, 4608, .inl (aN re))), (z 14, .inl (cI, 81, .inl (aN mo)))]) (w1 := [(z 0, .inr (7, [.int (nI th1), .int (nI (g 1)), .int (nI (g 2)), .int (nI (g 3)), .int (nI (g 4)), .int (nI (g 5)), .int (nI (g 6)), .ref (z 1), .ref (z 2), .ref (z 3), .ref (z 4), .int (nI (g 7)), .ref (z 5), .ref (z 6), .ref (z 7), .ref (z 8), .ref (z 9), .ref (z 10), .int (nI (g 8)), .ref (z 11), .ref (z 12), .ref (z 13), .ref (z 14)]))]) hP hD [0] [1, 2, 3, 4, 5, 6] rfl rfl (by decide) (by decide) hk1 hFc hP1 hD1
    generalize H1 = H at hP hS ⊢
    have hP : va_P (dC, dI) vwCl [(z 0, .inr (7, [.int (nI th1), .int (nI (g 1)), .int (nI (g 2)), .int (nI (g 3)), .int (nI (g 4)), .int (nI (g 5)), .int (nI (g 6)), .ref (z 1), .ref (z 2), .ref (z 3), .ref (z 4), .int (nI (g 7)), .ref (z 5), .ref (z 6), .ref (z 7), .ref (z 8), .ref (z 9), .ref (z 10), .int (nI (g 8)), .ref (z 11), .ref (z 12), .ref (z 13), .ref (z 14)])), (z 1, .inl (cI, 5, .inl (aN ww))), (z 8, .inl (cI, 9, .inl (aN sf))), (z 9, .inl (cI, 9, .inl (aN sl))), (z 10, .inl (cI, 45, .inl (aN ss))), (z 13, .inl (cI, 4608, .inl (aN re))), (z 14, .inl (cI, 81, .inl (aN mo)))] H := hP.sub [6, 0, 1, 2, 3, 4, 5] rfl
    have hD : va_D A [(z 0, .inr (7, [.int (nI th1), .int (nI (g 1)), .int (nI (g 2)), .int (nI (g 3)), .int (nI (g 4)), .int (nI (g 5)), .int (nI (g 6)), .ref (z 1), .ref (z 2), .ref (z 3), .ref (z 4), .int (nI (g 7)), .ref (z 5), .ref (z 6), .ref (z 7), .ref (z 8), .ref (z 9), .ref (z 10), .int (nI (g 8)), .ref (z 11), .ref (z 12), .ref (z 13), .ref (z 14)])), (z 1, .inl (cI, 5, .inl (aN ww))), (z 8, .inl (cI, 9, .inl (aN sf))), (z 9, .inl (cI, 9, .inl (aN sl))), (z 10, .inl (cI, 45, .inl (aN ss))), (z 13, .inl (cI, 4608, .inl (aN re))), (z 14, .inl (cI, 81, .inl (aN mo)))] := hD.sub [6, 0, 1, 2, 3, 4, 5] (by decide) rfl
    obtain ⟨rfl, hth⟩ := hw
    have hth : th1 = 0 := hth
    subst hth
    have hP : va_P (dC, dI) vwCl [(z 0, .inr (7, [.int (nI 0), .int (nI (g 1)), .int (nI (g 2)), .int (nI (g 3)), .int (nI (g 4)), .int (nI (g 5)), .int (nI (g 6)), .ref (z 1), .ref (z 2), .ref (z 3), .ref (z 4), .int (nI (g 7)), .ref (z 5), .ref (z 6), .ref (z 7), .ref (z 8), .ref (z 9), .ref (z 10), .int (nI (g 8)), .ref (z 11), .ref (z 12), .ref (z 13), .ref (z 14)])), (z 1, .inl (cI, 5, .inl (aN ww))), (z 8, .inl (cI, 9, .inl (aN sf))), (z 9, .inl (cI, 9, .inl (aN sl))), (z 10, .inl (cI, 45, .inl (aN ss))), (z 13, .inl (cI, 4608, .inl (aN re))), (z 14, .inl (cI, 81, .inl (aN mo)))] H := hP
    have hD : va_D A [(z 0, .inr (7, [.int (nI 0), .int (nI (g 1)), .int (nI (g 2)), .int (nI (g 3)), .int (nI (g 4)), .int (nI (g 5)), .int (nI (g 6)), .ref (z 1), .ref (z 2), .ref (z 3), .ref (z 4), .int (nI (g 7)), .ref (z 5), .ref (z 6), .ref (z 7), .ref (z 8), .ref (z 9), .ref (z 10), .int (nI (g 8)), .ref (z 11), .ref (z 12), .ref (z 13), .ref (z 14)])), (z 1, .inl (cI, 5, .inl (aN ww))), (z 8, .inl (cI, 9, .inl (aN sf))), (z 9, .inl (cI, 9, .inl (aN sl))), (z 10, .inl (cI, 45, .inl (aN ss))), (z 13, .inl (cI, 4608, .inl (aN re))), (z 14, .inl (cI, 81, .inl (aN mo)))] := hD
    refine lv_topr (show _ = nI 0 from rfl) ?_
    refine ix_if_eq (tgt := 19) hx hb (nI_tI (n := 0) (by omega)) d_MO_ordered_14 (by decide) (fun c_14 => ?_) (fun c_14 => absurd c_14 (by omega))
    refine lv_iload_n hx hb d_MO_ordered_19 rfl (lv_at hl 1 rfl) ?_
    refine lv_aload_n hx hb d_MO_ordered_20 rfl (lv_at hl 0 rfl) ?_
    refine va_get (D := (dC, dI)) (ci := 7) (v := .int (nI (g 7))) (C := R_MO) (T := F_MO) (N := 23) hx hb hts in_MO hown hK hP 0 rfl rfl 11 (by decide) (hts _ m_583) (fun _ h9 => h9) rfl d_MO_ordered_21 ?_
    refine ix_icmp_lt (tgt := 29) hx hb (zI_toInt (z := a1) (by omega) (by omega)) (nI_tI (n := g 7) (by omega)) d_MO_ordered_24 (by decide) (fun c_24 => ?_) (fun c_24 => ?_)
    · obtain ⟨i8, hvi8⟩ : ∃ s : Nat, a1 = s := ⟨a1.toNat, by omega⟩
      subst hvi8
      refine lv_aload_n hx hb d_MO_ordered_29 rfl (lv_at hl 0 rfl) ?_
      have hPc := hP.sub (ws' := [(z 0, .inr (7, [.int (nI 0), .int (nI (g 1)), .int (nI (g 2)), .int (nI (g 3)), .int (nI (g 4)), .int (nI (g 5)), .int (nI (g 6)), .ref (z 1), .ref (z 2), .ref (z 3), .ref (z 4), .int (nI (g 7)), .ref (z 5), .ref (z 6), .ref (z 7), .ref (z 8), .ref (z 9), .ref (z 10), .int (nI (g 8)), .ref (z 11), .ref (z 12), .ref (z 13), .ref (z 14)])), (z 1, .inl (cI, 5, .inl (aN ww))), (z 8, .inl (cI, 9, .inl (aN sf))), (z 9, .inl (cI, 9, .inl (aN sl))), (z 10, .inl (cI, 45, .inl (aN ss))), (z 13, .inl (cI, 4608, .inl (aN re))), (z 14, .inl (cI, 81, .inl (aN mo)))]) [0, 1, 2, 3, 4, 5, 6] rfl
      have hDc := hD.sub (ws' := [(z 0, .inr (7, [.int (nI 0), .int (nI (g 1)), .int (nI (g 2)), .int (nI (g 3)), .int (nI (g 4)), .int (nI (g 5)), .int (nI (g 6)), .ref (z 1), .ref (z 2), .ref (z 3), .ref (z 4), .int (nI (g 7)), .ref (z 5), .ref (z 6), .ref (z 7), .ref (z 8), .ref (z 9), .ref (z 10), .int (nI (g 8)), .ref (z 11), .ref (z 12), .ref (z 13), .ref (z 14)])), (z 1, .inl (cI, 5, .inl (aN ww))), (z 8, .inl (cI, 9, .inl (aN sf))), (z 9, .inl (cI, 9, .inl (aN sl))), (z 10, .inl (cI, 45, .inl (aN ss))), (z 13, .inl (cI, 4608, .inl (aN re))), (z 14, .inl (cI, 81, .inl (aN mo)))]) [0, 1, 2, 3, 4, 5, 6] (by decide) rfl
      have hFc := va_free (wc := [(z 0, .inr (7, [.int (nI 0), .int (nI (g 1)), .int (nI (g 2)), .int (nI (g 3)), .int (nI (g 4)), .int (nI (g 5)), .int (nI (g 6)), .ref (z 1), .ref (z 2), .ref (z 3), .ref (z 4), .int (nI (g 7)), .ref (z 5), .ref (z 6), .ref (z 7), .ref (z 8), .ref (z 9), .ref (z 10), .int (nI (g 8)), .ref (z 11), .ref (z 12), .ref (z 13), .ref (z 14)])), (z 1, .inl (cI, 5, .inl (aN ww))), (z 8, .inl (cI, 9, .inl (aN sf))), (z 9, .inl (cI, 9, .inl (aN sl))), (z 10, .inl (cI, 45, .inl (aN ss))), (z 13, .inl (cI, 4608, .inl (aN re))), (z 14, .inl (cI, 81, .inl (aN mo)))]) hD hS hA [0, 1, 2, 3, 4, 5, 6] rfl
      refine va_calli (va_runV (As := []) (rest := []) ⟨hx, hb, hml, hown, hts⟩ (c_MO_plan l dC dI H.size z (up g 0 0) cI ww sf sl ss re mo nu h7 hs) (cwV 0 hts (gw_V m_742 m_744 s_29 m_8 m_745) rfl rfl rfl (by decide +kernel) ⟨Nat.le_of_ble_eq_true rfl, Nat.le_of_ble_eq_true rfl⟩) ⟨rw_blind, va_recv hK hPc (ci := 7) (q0 := 0) rfl rfl, fun U hU hW => ⟨rfl, by rw [hU], by rw [hU]; exact hPc, va_K.moved hW.alike hK, hDc.weaken (fun _ _ _ _ => trivial)⟩⟩ rfl rfl hl.1 rfl (lv_room (Nat.le_of_ble_eq_true rfl)) d_MO_ordered_30 ⟨Nat.le_of_ble_eq_true rfl, Nat.le_of_ble_eq_true rfl⟩) hS (fun q _ h => hFc q h) hFc (fun r u t H1 locs ht hvm hw hB hz1 hk1 hS => ?_)
      obtain ⟨re1, mo1⟩ := u
      obtain ⟨hP1, hK1, hD1⟩ := hB
      rw [ht] at hP1
      try dsimp only at hw
      obtain ⟨hP, hD⟩ := va_join (wr := []) (w1 := [(z 0, .inr (7, [.int (nI 0), .int (nI (g 1)), .int (nI (g 2)), .int (nI (g 3)), .int (nI (g 4)), .int (nI (g 5)), .int (nI (g 6)), .ref (z 1), .ref (z 2), .ref (z 3), .ref (z 4), .int (nI (g 7)), .ref (z 5), .ref (z 6), .ref (z 7), .ref (z 8), .ref (z 9), .ref (z 10), .int (nI (g 8)), .ref (z 11), .ref (z 12), .ref (z 13), .ref (z 14)])), (z 1, .inl (cI, 5, .inl (aN ww))), (z 8, .inl (cI, 9, .inl (aN sf))), (z 9, .inl (cI, 9, .inl (aN sl))), (z 10, .inl (cI, 45, .inl (aN ss))), (z 13, .inl (cI, 4608, .inl (aN re1))), (z 14, .inl (cI, 81, .inl (aN mo1)))]) hP hD [0, 1, 2, 3, 4, 5, 6] [] rfl rfl (by decide) (by decide) hk1 hFc hP1 hD1
      generalize H1 = H at hP hS ⊢
      have hP : va_P (dC, dI) vwCl [(z 0, .inr (7, [.int (nI 0), .int (nI (g 1)), .int (nI (g 2)), .int (nI (g 3)), .int (nI (g 4)), .int (nI (g 5)), .int (nI (g 6)), .ref (z 1), .ref (z 2), .ref (z 3), .ref (z 4), .int (nI (g 7)), .ref (z 5), .ref (z 6), .ref (z 7), .ref (z 8), .ref (z 9), .ref (z 10), .int (nI (g 8)), .ref (z 11), .ref (z 12), .ref (z 13), .ref (z 14)])), (z 1, .inl (cI, 5, .inl (aN ww))), (z 8, .inl (cI, 9, .inl (aN sf))), (z 9, .inl (cI, 9, .inl (aN sl))), (z 10, .inl (cI, 45, .inl (aN ss))), (z 13, .inl (cI, 4608, .inl (aN re1))), (z 14, .inl (cI, 81, .inl (aN mo1)))] H := hP.sub [0, 1, 2, 3, 4, 5, 6] rfl
      have hD : va_D A [(z 0, .inr (7, [.int (nI 0), .int (nI (g 1)), .int (nI (g 2)), .int (nI (g 3)), .int (nI (g 4)), .int (nI (g 5)), .int (nI (g 6)), .ref (z 1), .ref (z 2), .ref (z 3), .ref (z 4), .int (nI (g 7)), .ref (z 5), .ref (z 6), .ref (z 7), .ref (z 8), .ref (z 9), .ref (z 10), .int (nI (g 8)), .ref (z 11), .ref (z 12), .ref (z 13), .ref (z 14)])), (z 1, .inl (cI, 5, .inl (aN ww))), (z 8, .inl (cI, 9, .inl (aN sf))), (z 9, .inl (cI, 9, .inl (aN sl))), (z 10, .inl (cI, 45, .inl (aN ss))), (z 13, .inl (cI, 4608, .inl (aN re1))), (z 14, .inl (cI, 81, .inl (aN mo1)))] := hD.sub [0, 1, 2, 3, 4, 5, 6] (by decide) rfl
      obtain ⟨hmo, hMB, v1, rfl, hLS⟩ := hw
      have hmo : ∀ a, a < g 7 → ∀ b, b < g 7 → mo1 (9 * a + b) = MVm ww sf sl ss nu a b := hmo
      have hMB : MB mo1 re1 (g 7) 0 0 := hMB
      have hLS : LST re1 (g 7) v1 := hLS
      refine lv_istore_n (lv' := [(2, .int (nI v1)), (0, .ref (z 0)), (1, .int (zI (i8 : Int)))]) hx hb d_MO_ordered_33 rfl hl (by decide) rfl (fun ls hl => ?_)
      refine lv_iconst (v := nI 0) hx hb d_MO_ordered_34 (by decide +kernel) ?_
      refine lv_istore_n (lv' := [(3, .int (nI 0)), (2, .int (nI v1)), (0, .ref (z 0)), (1, .int (zI (i8 : Int)))]) hx hb d_MO_ordered_35 rfl hl (by decide) rfl (fun ls hl => ?_)
      refine lv_iconst (v := zI (-1)) hx hb d_MO_ordered_36 (by decide +kernel) ?_
      refine lv_istore (lv' := [(4, .int (zI (-1))), (3, .int (nI 0)), (2, .int (nI v1)), (0, .ref (z 0)), (1, .int (zI (i8 : Int)))]) hx hb d_MO_ordered_37 hl (by decide) rfl (fun ls hl => ?_)
      refine lv_iconst (v := nI 0) hx hb d_MO_ordered_39 (by decide +kernel) ?_
      refine lv_istore (lv' := [(5, .int (nI 0)), (4, .int (zI (-1))), (3, .int (nI 0)), (2, .int (nI v1)), (0, .ref (z 0)), (1, .int (zI (i8 : Int)))]) hx hb d_MO_ordered_40 hl (by decide) rfl (fun ls hl => ?_)
      have hmc : ∀ a, a < g 7 → ∀ b, b < g 7 → mo1 (9 * a + b) ≤ 60 := fun a ha b hb => by
        rw [hmo a ha b hb]
        have h0 := (hs b hb).2.1 0 (by omega); have h1 := (hs b hb).2.1 1 (by omega); have h2 := (hs b hb).2.1 2 (by omega); have h3 := (hs b hb).2.1 3 (by omega); have h4 := (hs b hb).2.1 4 (by omega)
        have h5 : sumN (fun w => ss (5 * b + w)) 5 ≤ 30 := by simp only [sumN]; omega
        have := mvF_le (Bm ww (nu b) (sf b) (sl b)) (Em ww (nu b) (sf b) (sl b)) (fun x => hkB (Bm ww (nu a) (sf a) (sl a)) (Em ww (nu a) (sf a) (sl a)) x (sumN (fun w => ss (5 * a + w)) 5)) (sumN (fun w => ss (5 * b + w)) 5)
        unfold MVm; omega
      have lp : ∀ (n_lp : Nat) (k9 : Nat) (r9 : Nat) (V : Nat) (la : Int) (num : Nat → Nat), (i8 + 2 ≤ k9 + n_lp) → (k9 ≤ i8 + 1) → (MG mo1 re1 (g 7) num k9) → (V = vS num k9) → (la = laS num k9) → (la = -1 ∨ (0 ≤ la ∧ la < g 7)) → (k9 < g 7 → MIN (msm mo1 re1 la V) V (g 7) r9) → (r9 ≤ 60 * 512) → ∀ (H : Heap) (locs : List Loc) (ls : Array Slot), va_P (dC, dI) vwCl [(z 0, .inr (7, [.int (nI 0), .int (nI (g 1)), .int (nI (g 2)), .int (nI (g 3)), .int (nI (g 4)), .int (nI (g 5)), .int (nI (g 6)), .ref (z 1), .ref (z 2), .ref (z 3), .ref (z 4), .int (nI (g 7)), .ref (z 5), .ref (z 6), .ref (z 7), .ref (z 8), .ref (z 9), .ref (z 10), .int (nI (g 8)), .ref (z 11), .ref (z 12), .ref (z 13), .ref (z 14)])), (z 1, .inl (cI, 5, .inl (aN ww))), (z 8, .inl (cI, 9, .inl (aN sf))), (z 9, .inl (cI, 9, .inl (aN sl))), (z 10, .inl (cI, 45, .inl (aN ss))), (z 13, .inl (cI, 4608, .inl (aN re1))), (z 14, .inl (cI, 81, .inl (aN mo1)))] H → va_D A [(z 0, .inr (7, [.int (nI 0), .int (nI (g 1)), .int (nI (g 2)), .int (nI (g 3)), .int (nI (g 4)), .int (nI (g 5)), .int (nI (g 6)), .ref (z 1), .ref (z 2), .ref (z 3), .ref (z 4), .int (nI (g 7)), .ref (z 5), .ref (z 6), .ref (z 7), .ref (z 8), .ref (z 9), .ref (z 10), .int (nI (g 8)), .ref (z 11), .ref (z 12), .ref (z 13), .ref (z 14)])), (z 1, .inl (cI, 5, .inl (aN ww))), (z 8, .inl (cI, 9, .inl (aN sf))), (z 9, .inl (cI, 9, .inl (aN sl))), (z 10, .inl (cI, 45, .inl (aN ss))), (z 13, .inl (cI, 4608, .inl (aN re1))), (z 14, .inl (cI, 81, .inl (aN mo1)))] → va_S A s.heap H locs → lv_has ls 9 [(0, .ref (z 0)), (1, .int (zI (i8 : Int))), (2, .int (nI r9)), (3, .int (nI V)), (4, .int (zI la)), (5, .int (nI k9))] → W p l e (headSpec w_MO_ordered { frames := 6, cells := 0, slots := 0, locals := 146 }).room s m [.ref (z 0), .int (zI (i8 : Int))].toArray below meth c H locs 0 0 (MQ below (va_Qi (fun (r : Int32) (u : Nat × (Nat → Nat) × (Nat → Nat)) => ((i8 : Int) < 0 → u.1 = 1) ∧ (g 7 ≤ (i8 : Int) → u.1 = 0 ∧ r = zI (-1)) ∧ (0 ≤ (i8 : Int) ∧ (i8 : Int) < g 7 → u.1 = 0 ∧ (∀ a, a < g 7 → ∀ b, b < g 7 → u.2.2 (9 * a + b) = MVm ww sf sl ss nu a b) ∧ MB u.2.2 u.2.1 (g 7) 0 0 ∧ ∃ num, MG u.2.2 u.2.1 (g 7) num ((i8 : Int).toNat + 1) ∧ r = zI (num (i8 : Int).toNat : Nat))) (rw_B (dC, dI) vwCl [(cI, .int)] A (fun u : Nat × (Nat → Nat) × (Nat → Nat) => [(z 0, .inr (7, [.int (nI u.1), .int (nI (g 1)), .int (nI (g 2)), .int (nI (g 3)), .int (nI (g 4)), .int (nI (g 5)), .int (nI (g 6)), .ref (z 1), .ref (z 2), .ref (z 3), .ref (z 4), .int (nI (g 7)), .ref (z 5), .ref (z 6), .ref (z 7), .ref (z 8), .ref (z 9), .ref (z 10), .int (nI (g 8)), .ref (z 11), .ref (z 12), .ref (z 13), .ref (z 14)])), (z 1, .inl (cI, 5, .inl (aN ww))), (z 8, .inl (cI, 9, .inl (aN sf))), (z 9, .inl (cI, 9, .inl (aN sl))), (z 10, .inl (cI, 45, .inl (aN ss))), (z 13, .inl (cI, 4608, .inl (aN u.2.1))), (z 14, .inl (cI, 81, .inl (aN u.2.2)))])) A) [.ref (z 0), .int (zI (i8 : Int))].toArray s 0 0 A) (F0 m 42 ls []) := by
        intro n_lp
        induction n_lp with
        | zero =>
          intro k9 r9 V la num hm hk hG hV hla hlar hM hr9
          exact absurd hm (by omega)
        | succ n_lp ih_lp =>
          intro k9 r9 V la num hm hk hG hV hla hlar hM hr9 H locs ls hP hD hS hl
          refine lv_iload hx hb d_MO_ordered_42 (lv_at hl 5 rfl) ?_
          refine lv_iload_n hx hb d_MO_ordered_44 rfl (lv_at hl 1 rfl) ?_
          refine ix_icmp_gt (tgt := 178) hx hb (nI_tI (n := k9) (by omega)) (zI_toInt (z := (i8 : Int)) (by omega) (by omega)) d_MO_ordered_45 (by decide) (fun c_45 => ?_) (fun c_45 => ?_)
          · refine lv_iload hx hb d_MO_ordered_178 (lv_at hl 4 rfl) ?_
            have hk1 : k9 = i8 + 1 := by omega
            subst hk1
            have hla2 : la = (num i8 : Int) := by rw [hla]; rfl
            exact W.iret (v := zI la) hx hb hr (fun t ht hW => ⟨⟨zI la, (0, re1, mo1), rfl, ⟨fun q => absurd q (by omega), fun q => absurd q (by omega), fun _ => ⟨rfl, hmo, hMB, num, hG, by rw [hla2]; rfl⟩⟩, by rw [ht]; exact hP, va_K.moved hW.alike hK, hD⟩, hS.F ht⟩) hS.2.2 d_MO_ordered_180
          have hk7 : k9 < g 7 := by omega
          obtain ⟨hV1, hV2⟩ := vS_512 h7 hG
          rw [← hV] at hV1 hV2
          have hmin := hM (by omega)
          have hlr : la = -1 ∨ (0 ≤ la ∧ la < g 7) := hlar
          refine lv_iconst (v := zI (-1)) hx hb d_MO_ordered_48 (by decide +kernel) ?_
          refine lv_istore (lv' := [(6, .int (zI (-1))), (0, .ref (z 0)), (1, .int (zI (i8 : Int))), (2, .int (nI r9)), (3, .int (nI V)), (4, .int (zI la)), (5, .int (nI k9))]) hx hb d_MO_ordered_49 hl (by decide) rfl (fun ls hl => ?_)
          refine lv_aload_n hx hb d_MO_ordered_51 rfl (lv_at hl 1 rfl) ?_
          refine va_get (D := (dC, dI)) (ci := 7) (v := .int (nI (g 7))) (C := R_MO) (T := F_MO) (N := 23) hx hb hts in_MO hown hK hP 0 rfl rfl 11 (by decide) (hts _ m_583) (fun _ h9 => h9) rfl d_MO_ordered_52 ?_
          refine lv_iconst (v := nI 1) hx hb d_MO_ordered_55 (by decide +kernel) ?_
          refine lv_isub hx hb d_MO_ordered_56 ?_
          refine lv_topr (show _ = zI (((g 7 : Nat) : Int) - ((1 : Nat) : Int)) from nn_sub _ _) ?_
          refine lv_topr (show _ = zI ((g 7 : Int) - 1) from congrArg zI (by omega)) ?_
          refine lv_istore (lv' := [(7, .int (zI ((g 7 : Int) - 1))), (6, .int (zI (-1))), (0, .ref (z 0)), (1, .int (zI (i8 : Int))), (2, .int (nI r9)), (3, .int (nI V)), (4, .int (zI la)), (5, .int (nI k9))]) hx hb d_MO_ordered_57 hl (by decide) rfl (fun ls hl => ?_)
          have inn : ∀ (n_inn : Nat) (y9 : Int) (nx : Int), (y9 + 2 ≤ (n_inn : Int)) → (-1 ≤ y9) → (y9 < g 7) → (DNI (fun y => bit V y = 0 ∧ msm mo1 re1 la V y = r9) (g 7) y9 nx) → ∀ (H : Heap) (locs : List Loc) (ls : Array Slot), va_P (dC, dI) vwCl [(z 0, .inr (7, [.int (nI 0), .int (nI (g 1)), .int (nI (g 2)), .int (nI (g 3)), .int (nI (g 4)), .int (nI (g 5)), .int (nI (g 6)), .ref (z 1), .ref (z 2), .ref (z 3), .ref (z 4), .int (nI (g 7)), .ref (z 5), .ref (z 6), .ref (z 7), .ref (z 8), .ref (z 9), .ref (z 10), .int (nI (g 8)), .ref (z 11), .ref (z 12), .ref (z 13), .ref (z 14)])), (z 1, .inl (cI, 5, .inl (aN ww))), (z 8, .inl (cI, 9, .inl (aN sf))), (z 9, .inl (cI, 9, .inl (aN sl))), (z 10, .inl (cI, 45, .inl (aN ss))), (z 13, .inl (cI, 4608, .inl (aN re1))), (z 14, .inl (cI, 81, .inl (aN mo1)))] H → va_D A [(z 0, .inr (7, [.int (nI 0), .int (nI (g 1)), .int (nI (g 2)), .int (nI (g 3)), .int (nI (g 4)), .int (nI (g 5)), .int (nI (g 6)), .ref (z 1), .ref (z 2), .ref (z 3), .ref (z 4), .int (nI (g 7)), .ref (z 5), .ref (z 6), .ref (z 7), .ref (z 8), .ref (z 9), .ref (z 10), .int (nI (g 8)), .ref (z 11), .ref (z 12), .ref (z 13), .ref (z 14)])), (z 1, .inl (cI, 5, .inl (aN ww))), (z 8, .inl (cI, 9, .inl (aN sf))), (z 9, .inl (cI, 9, .inl (aN sl))), (z 10, .inl (cI, 45, .inl (aN ss))), (z 13, .inl (cI, 4608, .inl (aN re1))), (z 14, .inl (cI, 81, .inl (aN mo1)))] → va_S A s.heap H locs → lv_has ls 9 [(0, .ref (z 0)), (1, .int (zI (i8 : Int))), (2, .int (nI r9)), (3, .int (nI V)), (4, .int (zI la)), (5, .int (nI k9)), (6, .int (zI nx)), (7, .int (zI y9))] → W p l e (headSpec w_MO_ordered { frames := 6, cells := 0, slots := 0, locals := 146 }).room s m [.ref (z 0), .int (zI (i8 : Int))].toArray below meth c H locs 0 0 (MQ below (va_Qi (fun (r : Int32) (u : Nat × (Nat → Nat) × (Nat → Nat)) => ((i8 : Int) < 0 → u.1 = 1) ∧ (g 7 ≤ (i8 : Int) → u.1 = 0 ∧ r = zI (-1)) ∧ (0 ≤ (i8 : Int) ∧ (i8 : Int) < g 7 → u.1 = 0 ∧ (∀ a, a < g 7 → ∀ b, b < g 7 → u.2.2 (9 * a + b) = MVm ww sf sl ss nu a b) ∧ MB u.2.2 u.2.1 (g 7) 0 0 ∧ ∃ num, MG u.2.2 u.2.1 (g 7) num ((i8 : Int).toNat + 1) ∧ r = zI (num (i8 : Int).toNat : Nat))) (rw_B (dC, dI) vwCl [(cI, .int)] A (fun u : Nat × (Nat → Nat) × (Nat → Nat) => [(z 0, .inr (7, [.int (nI u.1), .int (nI (g 1)), .int (nI (g 2)), .int (nI (g 3)), .int (nI (g 4)), .int (nI (g 5)), .int (nI (g 6)), .ref (z 1), .ref (z 2), .ref (z 3), .ref (z 4), .int (nI (g 7)), .ref (z 5), .ref (z 6), .ref (z 7), .ref (z 8), .ref (z 9), .ref (z 10), .int (nI (g 8)), .ref (z 11), .ref (z 12), .ref (z 13), .ref (z 14)])), (z 1, .inl (cI, 5, .inl (aN ww))), (z 8, .inl (cI, 9, .inl (aN sf))), (z 9, .inl (cI, 9, .inl (aN sl))), (z 10, .inl (cI, 45, .inl (aN ss))), (z 13, .inl (cI, 4608, .inl (aN u.2.1))), (z 14, .inl (cI, 81, .inl (aN u.2.2)))])) A) [.ref (z 0), .int (zI (i8 : Int))].toArray s 0 0 A) (F0 m 59 ls []) := by
            intro n_inn
            induction n_inn with
            | zero =>
              intro y9 nx hm2 hy1 hy2 hN
              exact absurd hm2 (by omega)
            | succ n_inn ih_inn =>
              intro y9 nx hm2 hy1 hy2 hN H locs ls hP hD hS hl
              refine lv_iload hx hb d_MO_ordered_59 (lv_at hl 7 rfl) ?_
              refine ix_if_lt (tgt := 136) hx hb (zI_toInt (z := y9) (by omega) (by omega)) d_MO_ordered_61 (by decide) (fun c_61 => ?_) (fun c_61 => ?_)
              · have hN1 : DNI (fun y => bit V y = 0 ∧ msm mo1 re1 la V y = r9) (g 7) (-1) nx := by rw [show y9 = -1 by omega] at hN; exact hN
                obtain ⟨x8, hx8, hLM, hfx⟩ := hN1.lm hmin
                subst hx8
                have hx7 : x8 < g 7 := hLM.1
                refine lv_iload_n hx hb d_MO_ordered_136 rfl (lv_at hl 2 rfl) ?_
                refine lv_iload hx hb d_MO_ordered_137 (lv_at hl 4 rfl) ?_
                refine ix_if_ge (tgt := 146) hx hb (zI_toInt (z := la) (by omega) (by omega)) d_MO_ordered_139 (by decide) (fun c_139 => ?_) (fun c_139 => ?_)
                · refine lv_aload_n hx hb d_MO_ordered_146 rfl (lv_at hl 0 rfl) ?_
                  refine va_get (D := (dC, dI)) (ci := 7) (v := .ref (z 14)) (C := R_MO) (T := F_MO) (N := 23) hx hb hts in_MO hown hK hP 0 rfl rfl 22 (by decide) (hts _ m_594) (fun _ h9 => h9) rfl d_MO_ordered_147 ?_
                  refine lv_bipush (v := nI 9) hx hb d_MO_ordered_150 (by decide +kernel) ?_
                  refine lv_iload hx hb d_MO_ordered_152 (lv_at hl 4 rfl) ?_
                  refine lv_imul hx hb d_MO_ordered_154 ?_
                  refine lv_topr (show _ = zI (((9 : Nat) : Int) * la) from nz_mul _ _) ?_
                  refine lv_iload hx hb d_MO_ordered_155 (lv_at hl 6 rfl) ?_
                  refine lv_iadd hx hb d_MO_ordered_157 ?_
                  refine lv_topr (show _ = zI ((((9 : Nat) : Int) * la) + (x8 : Int)) from zz_add _ _) ?_
                  refine lv_topr (show _ = nI (9 * la.toNat + x8) from z_toN (by omega)) ?_
                  refine ix_ialdN (i := 9 * la.toNat + x8) hx hb hK hP 6 0 rfl rfl (by omega) (by decide) d_MO_ordered_158 ?_
                  have hms : msm mo1 re1 la V x8 = (if la < 0 then 0 else mo1 (9 * la.toNat + x8)) + re1 (9 * sto V x8 + x8) := rfl
                  rw [if_neg (by omega)] at hms
                  refine lv_isub hx hb d_MO_ordered_159 ?_
                  refine lv_topr (show _ = nI (r9 - (mo1 (9 * la.toNat + x8))) from nn_subN (by omega)) ?_
                  refine lv_istore_n (lv' := [(2, .int (nI (r9 - (mo1 (9 * la.toNat + x8))))), (0, .ref (z 0)), (1, .int (zI (i8 : Int))), (3, .int (nI V)), (4, .int (zI la)), (5, .int (nI k9)), (6, .int (zI (x8 : Int))), (7, .int (zI y9))]) hx hb d_MO_ordered_160 rfl hl (by decide) rfl (fun ls hl => ?_)
                  refine lv_iload hx hb d_MO_ordered_161 (lv_at hl 6 rfl) ?_
                  refine lv_istore (lv' := [(4, .int (zI (x8 : Int))), (2, .int (nI (r9 - (mo1 (9 * la.toNat + x8))))), (0, .ref (z 0)), (1, .int (zI (i8 : Int))), (3, .int (nI V)), (5, .int (nI k9)), (6, .int (zI (x8 : Int))), (7, .int (zI y9))]) hx hb d_MO_ordered_163 hl (by decide) rfl (fun ls hl => ?_)
                  refine lv_iload_n hx hb d_MO_ordered_165 rfl (lv_at hl 4 rfl) ?_
                  refine lv_iconst (v := nI 1) hx hb d_MO_ordered_166 (by decide +kernel) ?_
                  refine lv_iload hx hb d_MO_ordered_167 (lv_at hl 6 rfl) ?_
                  refine lv_topr (show _ = nI x8 from z_toN rfl) ?_
                  refine lv_ishl hx hb d_MO_ordered_169 ?_
                  refine lv_ior hx hb d_MO_ordered_170 ?_
                  refine lv_topr (show _ = nI (sto V x8) from bt_sto V (by omega) x8 (by omega)) ?_
                  refine lv_istore_n (lv' := [(3, .int (nI (sto V x8))), (4, .int (zI (x8 : Int))), (2, .int (nI (r9 - (mo1 (9 * la.toNat + x8))))), (0, .ref (z 0)), (1, .int (zI (i8 : Int))), (5, .int (nI k9)), (6, .int (zI (x8 : Int))), (7, .int (zI y9))]) hx hb d_MO_ordered_171 rfl hl (by decide) rfl (fun ls hl => ?_)
                  refine lv_iinc (v := nI (k9 + 1)) (lv' := [(5, .int (nI (k9 + 1))), (3, .int (nI (sto V x8))), (4, .int (zI (x8 : Int))), (2, .int (nI (r9 - (mo1 (9 * la.toNat + x8))))), (0, .ref (z 0)), (1, .int (zI (i8 : Int))), (6, .int (zI (x8 : Int))), (7, .int (zI y9))]) hx hb d_MO_ordered_172 hl (k := 5) rfl (n_incN k9 1) (by decide) rfl (fun ls hl => ?_)
                  refine lv_goto (tgt := 42) hx hb d_MO_ordered_175 (by decide) ?_
                  exact ih_lp (k9 + 1) (r9 - (mo1 (9 * la.toNat + x8))) (sto V x8) (x8 : Int) (up num k9 x8) (by omega) (by omega) (hG.push (by rw [← hV, ← hla]; exact hLM)) (by rw [vS_push, ← hV]) (by show (x8 : Int) = ((up num k9 x8 k9 : Nat) : Int); rw [up_s]) (Or.inr ⟨by omega, by omega⟩) (fun hk8 => by have q := MIN.push (x := x8) (r := r9) h7 hMB hG (by rw [← hV, ← hla]; exact hLM) (by rw [← hV, ← hla]; exact hfx) hk8; rw [← hV, ← hla, if_neg (by omega)] at q; exact q) (by omega) _ _ _ hP hD hS (lv_sub hl [4, 5, 3, 1, 2, 0] rfl)
                refine lv_iconst (v := nI 0) hx hb d_MO_ordered_142 (by decide +kernel) ?_
                refine lv_goto (tgt := 159) hx hb d_MO_ordered_143 (by decide) ?_
                have hms : msm mo1 re1 la V x8 = (if la < 0 then 0 else mo1 (9 * la.toNat + x8)) + re1 (9 * sto V x8 + x8) := rfl
                rw [if_pos (by omega)] at hms
                refine lv_isub hx hb d_MO_ordered_159 ?_
                refine lv_topr (show _ = nI (r9 - 0) from nn_subN (by omega)) ?_
                refine lv_istore_n (lv' := [(2, .int (nI (r9 - 0))), (0, .ref (z 0)), (1, .int (zI (i8 : Int))), (3, .int (nI V)), (4, .int (zI la)), (5, .int (nI k9)), (6, .int (zI (x8 : Int))), (7, .int (zI y9))]) hx hb d_MO_ordered_160 rfl hl (by decide) rfl (fun ls hl => ?_)
                refine lv_iload hx hb d_MO_ordered_161 (lv_at hl 6 rfl) ?_
                refine lv_istore (lv' := [(4, .int (zI (x8 : Int))), (2, .int (nI (r9 - 0))), (0, .ref (z 0)), (1, .int (zI (i8 : Int))), (3, .int (nI V)), (5, .int (nI k9)), (6, .int (zI (x8 : Int))), (7, .int (zI y9))]) hx hb d_MO_ordered_163 hl (by decide) rfl (fun ls hl => ?_)
                refine lv_iload_n hx hb d_MO_ordered_165 rfl (lv_at hl 4 rfl) ?_
                refine lv_iconst (v := nI 1) hx hb d_MO_ordered_166 (by decide +kernel) ?_
                refine lv_iload hx hb d_MO_ordered_167 (lv_at hl 6 rfl) ?_
                refine lv_topr (show _ = nI x8 from z_toN rfl) ?_
                refine lv_ishl hx hb d_MO_ordered_169 ?_
                refine lv_ior hx hb d_MO_ordered_170 ?_
                refine lv_topr (show _ = nI (sto V x8) from bt_sto V (by omega) x8 (by omega)) ?_
                refine lv_istore_n (lv' := [(3, .int (nI (sto V x8))), (4, .int (zI (x8 : Int))), (2, .int (nI (r9 - 0))), (0, .ref (z 0)), (1, .int (zI (i8 : Int))), (5, .int (nI k9)), (6, .int (zI (x8 : Int))), (7, .int (zI y9))]) hx hb d_MO_ordered_171 rfl hl (by decide) rfl (fun ls hl => ?_)
                refine lv_iinc (v := nI (k9 + 1)) (lv' := [(5, .int (nI (k9 + 1))), (3, .int (nI (sto V x8))), (4, .int (zI (x8 : Int))), (2, .int (nI (r9 - 0))), (0, .ref (z 0)), (1, .int (zI (i8 : Int))), (6, .int (zI (x8 : Int))), (7, .int (zI y9))]) hx hb d_MO_ordered_172 hl (k := 5) rfl (n_incN k9 1) (by decide) rfl (fun ls hl => ?_)
                refine lv_goto (tgt := 42) hx hb d_MO_ordered_175 (by decide) ?_
                exact ih_lp (k9 + 1) (r9 - 0) (sto V x8) (x8 : Int) (up num k9 x8) (by omega) (by omega) (hG.push (by rw [← hV, ← hla]; exact hLM)) (by rw [vS_push, ← hV]) (by show (x8 : Int) = ((up num k9 x8 k9 : Nat) : Int); rw [up_s]) (Or.inr ⟨by omega, by omega⟩) (fun hk8 => by have q := MIN.push (x := x8) (r := r9) h7 hMB hG (by rw [← hV, ← hla]; exact hLM) (by rw [← hV, ← hla]; exact hfx) hk8; rw [← hV, ← hla, if_pos (by omega)] at q; exact q) (by omega) _ _ _ hP hD hS (lv_sub hl [4, 5, 3, 1, 2, 0] rfl)
              have hst := sto_512 V (by omega) y9.toNat (by omega)
              have hreb : bit V y9.toNat = 0 → re1 (9 * sto V y9.toNat + y9.toNat) ≤ 60 * 512 := fun hb0 => by have h2 := sto_2n (g 7) (by omega) V hV1 y9.toNat (by omega); have h3 := sto_pos V (by omega) y9.toNat (by omega); have := (hMB (sto V y9.toNat) y9.toNat (by omega) h2 (Or.inl (by omega))).2; omega
              refine lv_iload hx hb d_MO_ordered_64 (lv_at hl 4 rfl) ?_
              refine ix_if_ge (tgt := 73) hx hb (zI_toInt (z := la) (by omega) (by omega)) d_MO_ordered_66 (by decide) (fun c_66 => ?_) (fun c_66 => ?_)
              · refine lv_aload_n hx hb d_MO_ordered_73 rfl (lv_at hl 0 rfl) ?_
                refine va_get (D := (dC, dI)) (ci := 7) (v := .ref (z 14)) (C := R_MO) (T := F_MO) (N := 23) hx hb hts in_MO hown hK hP 0 rfl rfl 22 (by decide) (hts _ m_594) (fun _ h9 => h9) rfl d_MO_ordered_74 ?_
                refine lv_bipush (v := nI 9) hx hb d_MO_ordered_77 (by decide +kernel) ?_
                refine lv_iload hx hb d_MO_ordered_79 (lv_at hl 4 rfl) ?_
                refine lv_imul hx hb d_MO_ordered_81 ?_
                refine lv_topr (show _ = zI (((9 : Nat) : Int) * la) from nz_mul _ _) ?_
                refine lv_iload hx hb d_MO_ordered_82 (lv_at hl 7 rfl) ?_
                refine lv_iadd hx hb d_MO_ordered_84 ?_
                refine lv_topr (show _ = zI ((((9 : Nat) : Int) * la) + y9) from zz_add _ _) ?_
                refine lv_topr (show _ = nI (9 * la.toNat + y9.toNat) from z_toN (by omega)) ?_
                have hmcb := hmc la.toNat (by omega) y9.toNat (by omega)
                refine ix_ialdN (i := 9 * la.toNat + y9.toNat) hx hb hK hP 6 0 rfl rfl (by omega) (by decide) d_MO_ordered_85 ?_
                refine lv_aload_n hx hb d_MO_ordered_86 rfl (lv_at hl 0 rfl) ?_
                refine va_get (D := (dC, dI)) (ci := 7) (v := .ref (z 13)) (C := R_MO) (T := F_MO) (N := 23) hx hb hts in_MO hown hK hP 0 rfl rfl 21 (by decide) (hts _ m_593) (fun _ h9 => h9) rfl d_MO_ordered_87 ?_
                refine lv_bipush (v := nI 9) hx hb d_MO_ordered_90 (by decide +kernel) ?_
                refine lv_iload_n hx hb d_MO_ordered_92 rfl (lv_at hl 3 rfl) ?_
                refine lv_iconst (v := nI 1) hx hb d_MO_ordered_93 (by decide +kernel) ?_
                refine lv_iload hx hb d_MO_ordered_94 (lv_at hl 7 rfl) ?_
                refine lv_topr (show _ = nI y9.toNat from z_toN (by omega)) ?_
                refine lv_ishl hx hb d_MO_ordered_96 ?_
                refine lv_ior hx hb d_MO_ordered_97 ?_
                refine lv_topr (show _ = nI (sto V y9.toNat) from bt_sto V (by omega) y9.toNat (by omega)) ?_
                refine lv_imul hx hb d_MO_ordered_98 ?_
                refine lv_topr (show _ = nI (9 * (sto V y9.toNat)) from nn_mul _ _) ?_
                refine lv_iload hx hb d_MO_ordered_99 (lv_at hl 7 rfl) ?_
                refine lv_topr (show _ = nI y9.toNat from z_toN (by omega)) ?_
                refine lv_iadd hx hb d_MO_ordered_101 ?_
                refine lv_topr (show _ = nI ((9 * (sto V y9.toNat)) + y9.toNat) from nn_add _ _) ?_
                refine ix_ialdN (i := (9 * (sto V y9.toNat)) + y9.toNat) hx hb hK hP 5 0 rfl rfl (by omega) (by decide) d_MO_ordered_102 ?_
                refine lv_iadd hx hb d_MO_ordered_103 ?_
                refine lv_topr (show _ = nI ((mo1 (9 * la.toNat + y9.toNat)) + (re1 ((9 * (sto V y9.toNat)) + y9.toNat))) from nn_add _ _) ?_
                have hms : msm mo1 re1 la V y9.toNat = (mo1 (9 * la.toNat + y9.toNat)) + (re1 ((9 * (sto V y9.toNat)) + y9.toNat)) := by unfold msm; rw [if_neg (by omega)]
                rw [← hms]
                refine lv_istore (lv' := [(8, .int (nI (msm mo1 re1 la V y9.toNat))), (0, .ref (z 0)), (1, .int (zI (i8 : Int))), (2, .int (nI r9)), (3, .int (nI V)), (4, .int (zI la)), (5, .int (nI k9)), (6, .int (zI nx)), (7, .int (zI y9))]) hx hb d_MO_ordered_104 hl (by decide) rfl (fun ls hl => ?_)
                refine lv_iload_n hx hb d_MO_ordered_106 rfl (lv_at hl 4 rfl) ?_
                refine lv_iload hx hb d_MO_ordered_107 (lv_at hl 8 rfl) ?_
                refine lv_topr (show _ = nI y9.toNat from z_toN (by omega)) ?_
                refine lv_ishr hx hb d_MO_ordered_109 ?_
                refine lv_iconst (v := nI 1) hx hb d_MO_ordered_110 (by decide +kernel) ?_
                refine lv_iand hx hb d_MO_ordered_111 ?_
                have hb01 := bit_01 V y9.toNat
                refine lv_topr (show _ = nI (bit V y9.toNat) from bt_bit V (by omega) y9.toNat (by omega)) ?_
                refine ix_if_ne (tgt := 126) hx hb (nI_tI (n := bit V y9.toNat) (by omega)) d_MO_ordered_112 (by decide) (fun c_112 => ?_) (fun c_112 => ?_)
                · refine lv_iload hx hb d_MO_ordered_126 (lv_at hl 7 rfl) ?_
                  refine lv_istore (lv' := [(6, .int (zI nx)), (8, .int (nI (msm mo1 re1 la V y9.toNat))), (0, .ref (z 0)), (1, .int (zI (i8 : Int))), (2, .int (nI r9)), (3, .int (nI V)), (4, .int (zI la)), (5, .int (nI k9)), (7, .int (zI y9))]) hx hb d_MO_ordered_128 hl (by decide) rfl (fun ls hl => ?_)
                  refine lv_iinc (v := zI (y9 - 1)) (lv' := [(7, .int (zI (y9 - 1))), (6, .int (zI nx)), (8, .int (nI (msm mo1 re1 la V y9.toNat))), (0, .ref (z 0)), (1, .int (zI (i8 : Int))), (2, .int (nI r9)), (3, .int (nI V)), (4, .int (zI la)), (5, .int (nI k9))]) hx hb d_MO_ordered_130 hl (k := 8) rfl ((n_incZ y9 (-1))) (by decide) rfl (fun ls hl => ?_)
                  refine lv_goto (tgt := 59) hx hb d_MO_ordered_133 (by decide) ?_
                  exact ih_inn (y9 - 1) nx (by omega) (by omega) (by omega) (hN.skip (by omega) (by omega)) _ _ _ hP hD hS (lv_sub hl [3, 4, 5, 6, 7, 8, 1, 0] rfl)
                have hreb1 := hreb (by omega)
                refine lv_iload hx hb d_MO_ordered_115 (lv_at hl 0 rfl) ?_
                refine lv_iload_n hx hb d_MO_ordered_117 rfl (lv_at hl 3 rfl) ?_
                refine ix_icmp_ne (tgt := 126) hx hb (nI_tI (n := msm mo1 re1 la V y9.toNat) (by omega)) (nI_tI (n := r9) (by omega)) d_MO_ordered_118 (by decide) (fun c_118 => ?_) (fun c_118 => ?_)
                · refine lv_iload hx hb d_MO_ordered_126 (lv_at hl 7 rfl) ?_
                  refine lv_istore (lv' := [(6, .int (zI nx)), (8, .int (nI (msm mo1 re1 la V y9.toNat))), (0, .ref (z 0)), (1, .int (zI (i8 : Int))), (2, .int (nI r9)), (3, .int (nI V)), (4, .int (zI la)), (5, .int (nI k9)), (7, .int (zI y9))]) hx hb d_MO_ordered_128 hl (by decide) rfl (fun ls hl => ?_)
                  refine lv_iinc (v := zI (y9 - 1)) (lv' := [(7, .int (zI (y9 - 1))), (6, .int (zI nx)), (8, .int (nI (msm mo1 re1 la V y9.toNat))), (0, .ref (z 0)), (1, .int (zI (i8 : Int))), (2, .int (nI r9)), (3, .int (nI V)), (4, .int (zI la)), (5, .int (nI k9))]) hx hb d_MO_ordered_130 hl (k := 8) rfl ((n_incZ y9 (-1))) (by decide) rfl (fun ls hl => ?_)
                  refine lv_goto (tgt := 59) hx hb d_MO_ordered_133 (by decide) ?_
                  exact ih_inn (y9 - 1) nx (by omega) (by omega) (by omega) (hN.skip (by omega) (by omega)) _ _ _ hP hD hS (lv_sub hl [3, 4, 5, 6, 7, 8, 1, 0] rfl)
                refine lv_iload hx hb d_MO_ordered_121 (lv_at hl 8 rfl) ?_
                refine lv_goto (tgt := 128) hx hb d_MO_ordered_123 (by decide) ?_
                refine lv_istore (lv' := [(6, .int (zI y9)), (8, .int (nI (msm mo1 re1 la V y9.toNat))), (0, .ref (z 0)), (1, .int (zI (i8 : Int))), (2, .int (nI r9)), (3, .int (nI V)), (4, .int (zI la)), (5, .int (nI k9)), (7, .int (zI y9))]) hx hb d_MO_ordered_128 hl (by decide) rfl (fun ls hl => ?_)
                refine lv_iinc (v := zI (y9 - 1)) (lv' := [(7, .int (zI (y9 - 1))), (6, .int (zI y9)), (8, .int (nI (msm mo1 re1 la V y9.toNat))), (0, .ref (z 0)), (1, .int (zI (i8 : Int))), (2, .int (nI r9)), (3, .int (nI V)), (4, .int (zI la)), (5, .int (nI k9))]) hx hb d_MO_ordered_130 hl (k := 8) rfl ((n_incZ y9 (-1))) (by decide) rfl (fun ls hl => ?_)
                refine lv_goto (tgt := 59) hx hb d_MO_ordered_133 (by decide) ?_
                exact ih_inn (y9 - 1) y9 (by omega) (by omega) (by omega) (hN.take (by omega) (by omega) ⟨by omega, by omega⟩) _ _ _ hP hD hS (lv_sub hl [3, 4, 5, 6, 7, 8, 1, 0] rfl)
              refine lv_iconst (v := nI 0) hx hb d_MO_ordered_69 (by decide +kernel) ?_
              refine lv_goto (tgt := 86) hx hb d_MO_ordered_70 (by decide) ?_
              refine lv_aload_n hx hb d_MO_ordered_86 rfl (lv_at hl 0 rfl) ?_
              refine va_get (D := (dC, dI)) (ci := 7) (v := .ref (z 13)) (C := R_MO) (T := F_MO) (N := 23) hx hb hts in_MO hown hK hP 0 rfl rfl 21 (by decide) (hts _ m_593) (fun _ h9 => h9) rfl d_MO_ordered_87 ?_
              refine lv_bipush (v := nI 9) hx hb d_MO_ordered_90 (by decide +kernel) ?_
              refine lv_iload_n hx hb d_MO_ordered_92 rfl (lv_at hl 3 rfl) ?_
              refine lv_iconst (v := nI 1) hx hb d_MO_ordered_93 (by decide +kernel) ?_
              refine lv_iload hx hb d_MO_ordered_94 (lv_at hl 7 rfl) ?_
              refine lv_topr (show _ = nI y9.toNat from z_toN (by omega)) ?_
              refine lv_ishl hx hb d_MO_ordered_96 ?_
              refine lv_ior hx hb d_MO_ordered_97 ?_
              refine lv_topr (show _ = nI (sto V y9.toNat) from bt_sto V (by omega) y9.toNat (by omega)) ?_
              refine lv_imul hx hb d_MO_ordered_98 ?_
              refine lv_topr (show _ = nI (9 * (sto V y9.toNat)) from nn_mul _ _) ?_
              refine lv_iload hx hb d_MO_ordered_99 (lv_at hl 7 rfl) ?_
              refine lv_topr (show _ = nI y9.toNat from z_toN (by omega)) ?_
              refine lv_iadd hx hb d_MO_ordered_101 ?_
              refine lv_topr (show _ = nI ((9 * (sto V y9.toNat)) + y9.toNat) from nn_add _ _) ?_
              refine ix_ialdN (i := (9 * (sto V y9.toNat)) + y9.toNat) hx hb hK hP 5 0 rfl rfl (by omega) (by decide) d_MO_ordered_102 ?_
              refine lv_iadd hx hb d_MO_ordered_103 ?_
              refine lv_topr (show _ = nI (0 + (re1 ((9 * (sto V y9.toNat)) + y9.toNat))) from nn_add _ _) ?_
              have hms : msm mo1 re1 la V y9.toNat = 0 + (re1 ((9 * (sto V y9.toNat)) + y9.toNat)) := by unfold msm; rw [if_pos (by omega)]
              rw [← hms]
              refine lv_istore (lv' := [(8, .int (nI (msm mo1 re1 la V y9.toNat))), (0, .ref (z 0)), (1, .int (zI (i8 : Int))), (2, .int (nI r9)), (3, .int (nI V)), (4, .int (zI la)), (5, .int (nI k9)), (6, .int (zI nx)), (7, .int (zI y9))]) hx hb d_MO_ordered_104 hl (by decide) rfl (fun ls hl => ?_)
              refine lv_iload_n hx hb d_MO_ordered_106 rfl (lv_at hl 4 rfl) ?_
              refine lv_iload hx hb d_MO_ordered_107 (lv_at hl 8 rfl) ?_
              refine lv_topr (show _ = nI y9.toNat from z_toN (by omega)) ?_
              refine lv_ishr hx hb d_MO_ordered_109 ?_
              refine lv_iconst (v := nI 1) hx hb d_MO_ordered_110 (by decide +kernel) ?_
              refine lv_iand hx hb d_MO_ordered_111 ?_
              have hb01 := bit_01 V y9.toNat
              refine lv_topr (show _ = nI (bit V y9.toNat) from bt_bit V (by omega) y9.toNat (by omega)) ?_
              refine ix_if_ne (tgt := 126) hx hb (nI_tI (n := bit V y9.toNat) (by omega)) d_MO_ordered_112 (by decide) (fun c_112 => ?_) (fun c_112 => ?_)
              · refine lv_iload hx hb d_MO_ordered_126 (lv_at hl 7 rfl) ?_
                refine lv_istore (lv' := [(6, .int (zI nx)), (8, .int (nI (msm mo1 re1 la V y9.toNat))), (0, .ref (z 0)), (1, .int (zI (i8 : Int))), (2, .int (nI r9)), (3, .int (nI V)), (4, .int (zI la)), (5, .int (nI k9)), (7, .int (zI y9))]) hx hb d_MO_ordered_128 hl (by decide) rfl (fun ls hl => ?_)
                refine lv_iinc (v := zI (y9 - 1)) (lv' := [(7, .int (zI (y9 - 1))), (6, .int (zI nx)), (8, .int (nI (msm mo1 re1 la V y9.toNat))), (0, .ref (z 0)), (1, .int (zI (i8 : Int))), (2, .int (nI r9)), (3, .int (nI V)), (4, .int (zI la)), (5, .int (nI k9))]) hx hb d_MO_ordered_130 hl (k := 8) rfl ((n_incZ y9 (-1))) (by decide) rfl (fun ls hl => ?_)
                refine lv_goto (tgt := 59) hx hb d_MO_ordered_133 (by decide) ?_
                exact ih_inn (y9 - 1) nx (by omega) (by omega) (by omega) (hN.skip (by omega) (by omega)) _ _ _ hP hD hS (lv_sub hl [3, 4, 5, 6, 7, 8, 1, 0] rfl)
              have hreb1 := hreb (by omega)
              refine lv_iload hx hb d_MO_ordered_115 (lv_at hl 0 rfl) ?_
              refine lv_iload_n hx hb d_MO_ordered_117 rfl (lv_at hl 3 rfl) ?_
              refine ix_icmp_ne (tgt := 126) hx hb (nI_tI (n := msm mo1 re1 la V y9.toNat) (by omega)) (nI_tI (n := r9) (by omega)) d_MO_ordered_118 (by decide) (fun c_118 => ?_) (fun c_118 => ?_)
              · refine lv_iload hx hb d_MO_ordered_126 (lv_at hl 7 rfl) ?_
                refine lv_istore (lv' := [(6, .int (zI nx)), (8, .int (nI (msm mo1 re1 la V y9.toNat))), (0, .ref (z 0)), (1, .int (zI (i8 : Int))), (2, .int (nI r9)), (3, .int (nI V)), (4, .int (zI la)), (5, .int (nI k9)), (7, .int (zI y9))]) hx hb d_MO_ordered_128 hl (by decide) rfl (fun ls hl => ?_)
                refine lv_iinc (v := zI (y9 - 1)) (lv' := [(7, .int (zI (y9 - 1))), (6, .int (zI nx)), (8, .int (nI (msm mo1 re1 la V y9.toNat))), (0, .ref (z 0)), (1, .int (zI (i8 : Int))), (2, .int (nI r9)), (3, .int (nI V)), (4, .int (zI la)), (5, .int (nI k9))]) hx hb d_MO_ordered_130 hl (k := 8) rfl ((n_incZ y9 (-1))) (by decide) rfl (fun ls hl => ?_)
                refine lv_goto (tgt := 59) hx hb d_MO_ordered_133 (by decide) ?_
                exact ih_inn (y9 - 1) nx (by omega) (by omega) (by omega) (hN.skip (by omega) (by omega)) _ _ _ hP hD hS (lv_sub hl [3, 4, 5, 6, 7, 8, 1, 0] rfl)
              refine lv_iload hx hb d_MO_ordered_121 (lv_at hl 8 rfl) ?_
              refine lv_goto (tgt := 128) hx hb d_MO_ordered_123 (by decide) ?_
              refine lv_istore (lv' := [(6, .int (zI y9)), (8, .int (nI (msm mo1 re1 la V y9.toNat))), (0, .ref (z 0)), (1, .int (zI (i8 : Int))), (2, .int (nI r9)), (3, .int (nI V)), (4, .int (zI la)), (5, .int (nI k9)), (7, .int (zI y9))]) hx hb d_MO_ordered_128 hl (by decide) rfl (fun ls hl => ?_)
              refine lv_iinc (v := zI (y9 - 1)) (lv' := [(7, .int (zI (y9 - 1))), (6, .int (zI y9)), (8, .int (nI (msm mo1 re1 la V y9.toNat))), (0, .ref (z 0)), (1, .int (zI (i8 : Int))), (2, .int (nI r9)), (3, .int (nI V)), (4, .int (zI la)), (5, .int (nI k9))]) hx hb d_MO_ordered_130 hl (k := 8) rfl ((n_incZ y9 (-1))) (by decide) rfl (fun ls hl => ?_)
              refine lv_goto (tgt := 59) hx hb d_MO_ordered_133 (by decide) ?_
              exact ih_inn (y9 - 1) y9 (by omega) (by omega) (by omega) (hN.take (by omega) (by omega) ⟨by omega, by omega⟩) _ _ _ hP hD hS (lv_sub hl [3, 4, 5, 6, 7, 8, 1, 0] rfl)
          exact inn (g 7 + 1) ((g 7 : Int) - 1) (-1) (by omega) (by omega) (by omega) (Or.inl ⟨rfl, fun y a b => by omega⟩) _ _ _ hP hD hS (lv_sub hl [2, 3, 4, 5, 6, 7, 1, 0] rfl)
      exact lp (i8 + 2) 0 v1 0 (-1) (fun _ => 0) (by omega) (by omega) (fun _ h => absurd h (Nat.not_lt_zero _)) rfl rfl (Or.inl rfl) (fun h0 => MIN.first h7 h0 hLS) (LST_le hLS hMB h7) _ _ _ hP hD hS (lv_sub hl [4, 5, 3, 2, 1, 0] rfl)
    refine lv_iconst (v := zI (-1)) hx hb d_MO_ordered_27 (by decide +kernel) ?_
    exact W.iret (v := zI (-1)) hx hb hr (fun t ht hW => ⟨⟨zI (-1), (0, re, mo), rfl, ⟨fun q => absurd q (by omega), fun _ => ⟨rfl, rfl⟩, fun q => absurd q (by omega)⟩, by rw [ht]; exact hP, va_K.moved hW.alike hK, hD⟩, hS.F ht⟩) hS.2.2 d_MO_ordered_28
  refine lv_iconst (v := nI 1) hx hb d_MO_ordered_5 (by decide +kernel) ?_
  refine lv_goto (tgt := 10) hx hb d_MO_ordered_6 (by decide) ?_
  refine lv_iconst (v := nI 0) hx hb d_MO_ordered_10 (by decide +kernel) ?_
  have hPc := hP.sub (ws' := [(z 0, .inr (7, [.int (nI (g 0)), .int (nI (g 1)), .int (nI (g 2)), .int (nI (g 3)), .int (nI (g 4)), .int (nI (g 5)), .int (nI (g 6)), .ref (z 1), .ref (z 2), .ref (z 3), .ref (z 4), .int (nI (g 7)), .ref (z 5), .ref (z 6), .ref (z 7), .ref (z 8), .ref (z 9), .ref (z 10), .int (nI (g 8)), .ref (z 11), .ref (z 12), .ref (z 13), .ref (z 14)]))]) [0] rfl
  have hDc := hD.sub (ws' := [(z 0, .inr (7, [.int (nI (g 0)), .int (nI (g 1)), .int (nI (g 2)), .int (nI (g 3)), .int (nI (g 4)), .int (nI (g 5)), .int (nI (g 6)), .ref (z 1), .ref (z 2), .ref (z 3), .ref (z 4), .int (nI (g 7)), .ref (z 5), .ref (z 6), .ref (z 7), .ref (z 8), .ref (z 9), .ref (z 10), .int (nI (g 8)), .ref (z 11), .ref (z 12), .ref (z 13), .ref (z 14)]))]) [0] (by decide) rfl
  have hFc := va_free (wc := [(z 0, .inr (7, [.int (nI (g 0)), .int (nI (g 1)), .int (nI (g 2)), .int (nI (g 3)), .int (nI (g 4)), .int (nI (g 5)), .int (nI (g 6)), .ref (z 1), .ref (z 2), .ref (z 3), .ref (z 4), .int (nI (g 7)), .ref (z 5), .ref (z 6), .ref (z 7), .ref (z 8), .ref (z 9), .ref (z 10), .int (nI (g 8)), .ref (z 11), .ref (z 12), .ref (z 13), .ref (z 14)]))]) hD hS hA [0] rfl
  refine va_calli (va_runV (As := [.int (nI 1), .int (nI 0)]) (rest := []) ⟨hx, hb, hml, hown, hts⟩ (c_MO_throwing l dC dI s.heap.size z g cI 1 0 (by decide) (by decide)) (cwV 2 hts (gw_V m_654 m_656 s_16 m_8 m_657) rfl rfl rfl (by decide +kernel) ⟨Nat.le_of_ble_eq_true rfl, Nat.le_of_ble_eq_true rfl⟩) ⟨rw_blind, va_recv hK hPc (ci := 7) (q0 := 0) rfl rfl, fun U hU hW => ⟨rfl, by rw [hU], by rw [hU]; exact hPc, va_K.moved hW.alike hK, hDc.weaken (fun _ _ _ _ => trivial)⟩⟩ rfl rfl hl.1 rfl (lv_room (Nat.le_of_ble_eq_true rfl)) d_MO_ordered_11 ⟨Nat.le_of_ble_eq_true rfl, Nat.le_of_ble_eq_true rfl⟩) hS (fun q _ h => hFc q h) hFc (fun r u t H1 locs ht hvm hw hB hz1 hk1 hS => ?_)
  obtain ⟨th1, rfl⟩ : ∃ z, z = u := ⟨_, rfl⟩
  obtain ⟨hP1, hK1, hD1⟩ := hB
  rw [ht] at hP1
  try dsimp only at hw
  obtain ⟨hP, hD⟩ := va_join (wr := [(z 1, .inl (cI, 5, .inl (aN ww))), (z 8, .inl (cI, 9, .inl (aN sf))), (z 9, .inl (cI, 9, .inl (aN sl))), (z 10, .inl (cI, 45, .inl (aN ss))), (z 13, .inl (cI, 4608, .inl (aN re))), (z 14, .inl (cI, 81, .inl (aN mo)))]) (w1 := [(z 0, .inr (7, [.int (nI th1), .int (nI (g 1)), .int (nI (g 2)), .int (nI (g 3)), .int (nI (g 4)), .int (nI (g 5)), .int (nI (g 6)), .ref (z 1), .ref (z 2), .ref (z 3), .ref (z 4), .int (nI (g 7)), .ref (z 5), .ref (z 6), .ref (z 7), .ref (z 8), .ref (z 9), .ref (z 10), .int (nI (g 8)), .ref (z 11), .ref (z 12), .ref (z 13), .ref (z 14)]))]) hP hD [0] [1, 2, 3, 4, 5, 6] rfl rfl (by decide) (by decide) hk1 hFc hP1 hD1
  generalize H1 = H at hP hS ⊢
  have hP : va_P (dC, dI) vwCl [(z 0, .inr (7, [.int (nI th1), .int (nI (g 1)), .int (nI (g 2)), .int (nI (g 3)), .int (nI (g 4)), .int (nI (g 5)), .int (nI (g 6)), .ref (z 1), .ref (z 2), .ref (z 3), .ref (z 4), .int (nI (g 7)), .ref (z 5), .ref (z 6), .ref (z 7), .ref (z 8), .ref (z 9), .ref (z 10), .int (nI (g 8)), .ref (z 11), .ref (z 12), .ref (z 13), .ref (z 14)])), (z 1, .inl (cI, 5, .inl (aN ww))), (z 8, .inl (cI, 9, .inl (aN sf))), (z 9, .inl (cI, 9, .inl (aN sl))), (z 10, .inl (cI, 45, .inl (aN ss))), (z 13, .inl (cI, 4608, .inl (aN re))), (z 14, .inl (cI, 81, .inl (aN mo)))] H := hP.sub [6, 0, 1, 2, 3, 4, 5] rfl
  have hD : va_D A [(z 0, .inr (7, [.int (nI th1), .int (nI (g 1)), .int (nI (g 2)), .int (nI (g 3)), .int (nI (g 4)), .int (nI (g 5)), .int (nI (g 6)), .ref (z 1), .ref (z 2), .ref (z 3), .ref (z 4), .int (nI (g 7)), .ref (z 5), .ref (z 6), .ref (z 7), .ref (z 8), .ref (z 9), .ref (z 10), .int (nI (g 8)), .ref (z 11), .ref (z 12), .ref (z 13), .ref (z 14)])), (z 1, .inl (cI, 5, .inl (aN ww))), (z 8, .inl (cI, 9, .inl (aN sf))), (z 9, .inl (cI, 9, .inl (aN sl))), (z 10, .inl (cI, 45, .inl (aN ss))), (z 13, .inl (cI, 4608, .inl (aN re))), (z 14, .inl (cI, 81, .inl (aN mo)))] := hD.sub [6, 0, 1, 2, 3, 4, 5] (by decide) rfl
  obtain ⟨rfl, hth⟩ := hw
  have hth : th1 = 1 := hth
  subst hth
  have hP : va_P (dC, dI) vwCl [(z 0, .inr (7, [.int (nI 1), .int (nI (g 1)), .int (nI (g 2)), .int (nI (g 3)), .int (nI (g 4)), .int (nI (g 5)), .int (nI (g 6)), .ref (z 1), .ref (z 2), .ref (z 3), .ref (z 4), .int (nI (g 7)), .ref (z 5), .ref (z 6), .ref (z 7), .ref (z 8), .ref (z 9), .ref (z 10), .int (nI (g 8)), .ref (z 11), .ref (z 12), .ref (z 13), .ref (z 14)])), (z 1, .inl (cI, 5, .inl (aN ww))), (z 8, .inl (cI, 9, .inl (aN sf))), (z 9, .inl (cI, 9, .inl (aN sl))), (z 10, .inl (cI, 45, .inl (aN ss))), (z 13, .inl (cI, 4608, .inl (aN re))), (z 14, .inl (cI, 81, .inl (aN mo)))] H := hP
  have hD : va_D A [(z 0, .inr (7, [.int (nI 1), .int (nI (g 1)), .int (nI (g 2)), .int (nI (g 3)), .int (nI (g 4)), .int (nI (g 5)), .int (nI (g 6)), .ref (z 1), .ref (z 2), .ref (z 3), .ref (z 4), .int (nI (g 7)), .ref (z 5), .ref (z 6), .ref (z 7), .ref (z 8), .ref (z 9), .ref (z 10), .int (nI (g 8)), .ref (z 11), .ref (z 12), .ref (z 13), .ref (z 14)])), (z 1, .inl (cI, 5, .inl (aN ww))), (z 8, .inl (cI, 9, .inl (aN sf))), (z 9, .inl (cI, 9, .inl (aN sl))), (z 10, .inl (cI, 45, .inl (aN ss))), (z 13, .inl (cI, 4608, .inl (aN re))), (z 14, .inl (cI, 81, .inl (aN mo)))] := hD
  refine lv_topr (show _ = nI 1 from rfl) ?_
  refine ix_if_eq (tgt := 19) hx hb (nI_tI (n := 1) (by omega)) d_MO_ordered_14 (by decide) (fun c_14 => absurd c_14 (by omega)) (fun c_14 => ?_)
  refine lv_iconst (v := nI 0) hx hb d_MO_ordered_17 (by decide +kernel) ?_
  exact W.iret (v := nI 0) hx hb hr (fun t ht hW => ⟨⟨nI 0, (1, re, mo), rfl, ⟨fun _ => rfl, fun q => absurd q (by omega), fun q => absurd q (by omega)⟩, by rw [ht]; exact hP, va_K.moved hW.alike hK, hD⟩, hS.F ht⟩) hS.2.2 d_MO_ordered_18
