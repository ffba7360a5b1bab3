set_option maxHeartbeats 4000000 in
set_option maxRecDepth 100000 in
/-- throwing(one, two) -/
theorem c_MO_throwing (l : Launch) (dC : Nat → ClassId) (dI : Nat → Nat → Nat) (sz : Nat) (z g : Nat → Nat) (cI : ClassId) (a9 b9 : Nat) (ha9 : a9 ≤ 1) (hb9 : b9 ≤ 1) : Met l y_MO_throwing w_MO_throwing { frames := 0, cells := 0, slots := 0, locals := 0 } (rw_Pc (dC, dI) vwCl [(cI, .int)] sz [.ref (z 0), .int (nI a9), .int (nI b9)] [(z 0, .inr (7, [.int (nI (g 0)), .int (nI (g 1)), .int (nI (g 2)), .int (nI (g 3)), .int (nI (g 4)), .int (nI (g 5)), .int (nI (g 6)), .ref (z 1), .ref (z 2), .ref (z 3), .ref (z 4), .int (nI (g 7)), .ref (z 5), .ref (z 6), .ref (z 7), .ref (z 8), .ref (z 9), .ref (z 10), .int (nI (g 8)), .ref (z 11), .ref (z 12), .ref (z 13), .ref (z 14)]))]) (va_Qi (fun (r : Int32) (u : Nat) => r = nI (b01 (0 < u)) ∧ u = thw a9 b9) (rw_B (dC, dI) vwCl [(cI, .int)] (va_A [(z 0, .inr (7, [.int (nI (g 0)), .int (nI (g 1)), .int (nI (g 2)), .int (nI (g 3)), .int (nI (g 4)), .int (nI (g 5)), .int (nI (g 6)), .ref (z 1), .ref (z 2), .ref (z 3), .ref (z 4), .int (nI (g 7)), .ref (z 5), .ref (z 6), .ref (z 7), .ref (z 8), .ref (z 9), .ref (z 10), .int (nI (g 8)), .ref (z 11), .ref (z 12), .ref (z 13), .ref (z 14)]))] sz) (fun u : Nat => [(z 0, .inr (7, [.int (nI u), .int (nI (g 1)), .int (nI (g 2)), .int (nI (g 3)), .int (nI (g 4)), .int (nI (g 5)), .int (nI (g 6)), .ref (z 1), .ref (z 2), .ref (z 3), .ref (z 4), .int (nI (g 7)), .ref (z 5), .ref (z 6), .ref (z 7), .ref (z 8), .ref (z 9), .ref (z 10), .int (nI (g 8)), .ref (z 11), .ref (z 12), .ref (z 13), .ref (z 14)]))])) (va_A [(z 0, .inr (7, [.int (nI (g 0)), .int (nI (g 1)), .int (nI (g 2)), .int (nI (g 3)), .int (nI (g 4)), .int (nI (g 5)), .int (nI (g 6)), .ref (z 1), .ref (z 2), .ref (z 3), .ref (z 4), .int (nI (g 7)), .ref (z 5), .ref (z 6), .ref (z 7), .ref (z 8), .ref (z 9), .ref (z 10), .int (nI (g 8)), .ref (z 11), .ref (z 12), .ref (z 13), .ref (z 14)]))] sz)) 0 0 (va_A [(z 0, .inr (7, [.int (nI (g 0)), .int (nI (g 1)), .int (nI (g 2)), .int (nI (g 3)), .int (nI (g 4)), .int (nI (g 5)), .int (nI (g 6)), .ref (z 1), .ref (z 2), .ref (z 3), .ref (z 4), .int (nI (g 7)), .ref (z 5), .ref (z 6), .ref (z 7), .ref (z 8), .ref (z 9), .ref (z 10), .int (nI (g 8)), .ref (z 11), .ref (z 12), .ref (z 13), .ref (z 14)]))] sz) := by
  refine Met.ofW (cc := b_MO_throwing) (maxL := 3) (ret := (some .boolean)) (by decide) rfl ?_
  intro p e s m args below meth c s₁ B hml hv
  obtain ⟨rfl, hsz, hP, hK, hD0⟩ := hv
  have hx := B.exec
  have hb := B.bytes
  have hr := B.returns
  have hts := gw_h (atoms_spec (ws := w_MO_throwing) B.pre)
  have hown : s.vm.findClass R_MO = some m.cls := findClass_of_methodNamed B.named
  have hlocks := B.notSynchronized
  subst hsz
  have hD := hD0.self (sz := s.heap.size)
  generalize hAe : va_A [(z 0, .inr (7, [.int (nI (g 0)), .int (nI (g 1)), .int (nI (g 2)), .int (nI (g 3)), .int (nI (g 4)), .int (nI (g 5)), .int (nI (g 6)), .ref (z 1), .ref (z 2), .ref (z 3), .ref (z 4), .int (nI (g 7)), .ref (z 5), .ref (z 6), .ref (z 7), .ref (z 8), .ref (z 9), .ref (z 10), .int (nI (g 8)), .ref (z 11), .ref (z 12), .ref (z 13), .ref (z 14)]))] s.heap.size = A at hD ⊢
  have hA : ∀ q : Nat, s.heap.size ≤ q → A q := fun q h => by rw [← hAe]; exact Or.inr h
  have hS : va_S A s.heap s.heap [] := va_S.rf
  have hP : va_P (dC, dI) vwCl [(z 0, .inr (7, [.int (nI (g 0)), .int (nI (g 1)), .int (nI (g 2)), .int (nI (g 3)), .int (nI (g 4)), .int (nI (g 5)), .int (nI (g 6)), .ref (z 1), .ref (z 2), .ref (z 3), .ref (z 4), .int (nI (g 7)), .ref (z 5), .ref (z 6), .ref (z 7), .ref (z 8), .ref (z 9), .ref (z 10), .int (nI (g 8)), .ref (z 11), .ref (z 12), .ref (z 13), .ref (z 14)]))] s.heap := hP
  have hl := lv_entry ([.ref (z 0), .int (nI a9), .int (nI b9)]) (n := 3) (Nat.le_of_ble_eq_true rfl)
  rw [lg_entry_eq]
  generalize (lg_sl ([.ref (z 0), .int (nI a9), .int (nI b9)]) ++ List.replicate (3 - (lg_sl ([.ref (z 0), .int (nI a9), .int (nI b9)])).length) Slot.unset).toArray = ls at hl ⊢
  have hl : lv_has ls 3 [(0, .ref (z 0)), (1, .int (nI a9)), (2, .int (nI b9))] := hl
  refine lv_aload_n hx hb d_MO_throwing_0 rfl (lv_at hl 0 rfl) ?_
  refine lv_iload_n hx hb d_MO_throwing_1 rfl (lv_at hl 1 rfl) ?_
  refine ix_if_eq (tgt := 9) hx hb (nI_tI (n := a9) (by omega)) d_MO_throwing_2 (by decide) (fun c_2 => ?_) (fun c_2 => ?_)
  · refine lv_iload_n hx hb d_MO_throwing_9 rfl (lv_at hl 2 rfl) ?_
    refine ix_if_eq (tgt := 17) hx hb (nI_tI (n := b9) (by omega)) d_MO_throwing_10 (by decide) (fun c_10 => ?_) (fun c_10 => ?_)
    · refine lv_iconst (v := nI 0) hx hb d_MO_throwing_17 (by decide +kernel) ?_
      refine va_put (D := (dC, dI)) (ci := 7) (v := .int (nI 0)) (ty := .int) (C := R_MO) (T := F_MO) (N := 23) hx hb hts in_MO t_MO t_MO_ok n_MO hown hK hP hD hS 0 rfl rfl 0 (by decide) (hts _ m_572) (fun _ h9 => h9) rfl (by decide +kernel) rfl rfl (Nat.le_of_ble_eq_true rfl) d_MO_throwing_18 (fun H locs hP hD hS => ?_)
      have hP : va_P (dC, dI) vwCl [(z 0, .inr (7, [.int (nI 0), .int (nI (g 1)), .int (nI (g 2)), .int (nI (g 3)), .int (nI (g 4)), .int (nI (g 5)), .int (nI (g 6)), .ref (z 1), .ref (z 2), .ref (z 3), .ref (z 4), .int (nI (g 7)), .ref (z 5), .ref (z 6), .ref (z 7), .ref (z 8), .ref (z 9), .ref (z 10), .int (nI (g 8)), .ref (z 11), .ref (z 12), .ref (z 13), .ref (z 14)]))] H := hP
      have hD : va_D A [(z 0, .inr (7, [.int (nI 0), .int (nI (g 1)), .int (nI (g 2)), .int (nI (g 3)), .int (nI (g 4)), .int (nI (g 5)), .int (nI (g 6)), .ref (z 1), .ref (z 2), .ref (z 3), .ref (z 4), .int (nI (g 7)), .ref (z 5), .ref (z 6), .ref (z 7), .ref (z 8), .ref (z 9), .ref (z 10), .int (nI (g 8)), .ref (z 11), .ref (z 12), .ref (z 13), .ref (z 14)]))] := hD
      refine lv_aload_n hx hb d_MO_throwing_21 rfl (lv_at hl 0 rfl) ?_
      refine va_get (D := (dC, dI)) (ci := 7) (v := .int (nI 0)) (C := R_MO) (T := F_MO) (N := 23) hx hb hts in_MO hown hK hP 0 rfl rfl 0 (by decide) (hts _ m_572) (fun _ h9 => h9) rfl d_MO_throwing_22 ?_
      refine ix_if_le (tgt := 32) hx hb (nI_tI (n := 0) (by omega)) d_MO_throwing_25 (by decide) (fun c_25 => ?_) (fun c_25 => absurd c_25 (by omega))
      refine lv_iconst (v := nI 0) hx hb d_MO_throwing_32 (by decide +kernel) ?_
      exact W.zret (v := nI 0) (ty := .boolean) hx hb hr (by decide +kernel) (fun t ht hW => ⟨⟨nI 0, 0, rfl, ⟨rfl, by unfold thw; rw [if_neg (by omega), if_neg (by omega)]⟩, by rw [ht]; exact hP, va_K.moved hW.alike hK, hD⟩, hS.F ht⟩) hS.2.2 d_MO_throwing_33
    refine lv_iconst (v := nI 2) hx hb d_MO_throwing_13 (by decide +kernel) ?_
    refine lv_goto (tgt := 18) hx hb d_MO_throwing_14 (by decide) ?_
    refine va_put (D := (dC, dI)) (ci := 7) (v := .int (nI 2)) (ty := .int) (C := R_MO) (T := F_MO) (N := 23) hx hb hts in_MO t_MO t_MO_ok n_MO hown hK hP hD hS 0 rfl rfl 0 (by decide) (hts _ m_572) (fun _ h9 => h9) rfl (by decide +kernel) rfl rfl (Nat.le_of_ble_eq_true rfl) d_MO_throwing_18 (fun H locs hP hD hS => ?_)
    have hP : va_P (dC, dI) vwCl [(z 0, .inr (7, [.int (nI 2), .int (nI (g 1)), .int (nI (g 2)), .int (nI (g 3)), .int (nI (g 4)), .int (nI (g 5)), .int (nI (g 6)), .ref (z 1), .ref (z 2), .ref (z 3), .ref (z 4), .int (nI (g 7)), .ref (z 5), .ref (z 6), .ref (z 7), .ref (z 8), .ref (z 9), .ref (z 10), .int (nI (g 8)), .ref (z 11), .ref (z 12), .ref (z 13), .ref (z 14)]))] H := hP
    have hD : va_D A [(z 0, .inr (7, [.int (nI 2), .int (nI (g 1)), .int (nI (g 2)), .int (nI (g 3)), .int (nI (g 4)), .int (nI (g 5)), .int (nI (g 6)), .ref (z 1), .ref (z 2), .ref (z 3), .ref (z 4), .int (nI (g 7)), .ref (z 5), .ref (z 6), .ref (z 7), .ref (z 8), .ref (z 9), .ref (z 10), .int (nI (g 8)), .ref (z 11), .ref (z 12), .ref (z 13), .ref (z 14)]))] := hD
    refine lv_aload_n hx hb d_MO_throwing_21 rfl (lv_at hl 0 rfl) ?_
    refine va_get (D := (dC, dI)) (ci := 7) (v := .int (nI 2)) (C := R_MO) (T := F_MO) (N := 23) hx hb hts in_MO hown hK hP 0 rfl rfl 0 (by decide) (hts _ m_572) (fun _ h9 => h9) rfl d_MO_throwing_22 ?_
    refine ix_if_le (tgt := 32) hx hb (nI_tI (n := 2) (by omega)) d_MO_throwing_25 (by decide) (fun c_25 => absurd c_25 (by omega)) (fun c_25 => ?_)
    refine lv_iconst (v := nI 1) hx hb d_MO_throwing_28 (by decide +kernel) ?_
    refine lv_goto (tgt := 33) hx hb d_MO_throwing_29 (by decide) ?_
    exact W.zret (v := nI 1) (ty := .boolean) hx hb hr (by decide +kernel) (fun t ht hW => ⟨⟨nI 1, 2, rfl, ⟨rfl, by unfold thw; rw [if_neg (by omega), if_pos (by omega)]⟩, by rw [ht]; exact hP, va_K.moved hW.alike hK, hD⟩, hS.F ht⟩) hS.2.2 d_MO_throwing_33
  refine lv_iconst (v := nI 1) hx hb d_MO_throwing_5 (by decide +kernel) ?_
  refine lv_goto (tgt := 18) hx hb d_MO_throwing_6 (by decide) ?_
  refine va_put (D := (dC, dI)) (ci := 7) (v := .int (nI 1)) (ty := .int) (C := R_MO) (T := F_MO) (N := 23) hx hb hts in_MO t_MO t_MO_ok n_MO hown hK hP hD hS 0 rfl rfl 0 (by decide) (hts _ m_572) (fun _ h9 => h9) rfl (by decide +kernel) rfl rfl (Nat.le_of_ble_eq_true rfl) d_MO_throwing_18 (fun H locs hP hD hS => ?_)
  have hP : va_P (dC, dI) vwCl [(z 0, .inr (7, [.int (nI 1), .int (nI (g 1)), .int (nI (g 2)), .int (nI (g 3)), .int (nI (g 4)), .int (nI (g 5)), .int (nI (g 6)), .ref (z 1), .ref (z 2), .ref (z 3), .ref (z 4), .int (nI (g 7)), .ref (z 5), .ref (z 6), .ref (z 7), .ref (z 8), .ref (z 9), .ref (z 10), .int (nI (g 8)), .ref (z 11), .ref (z 12), .ref (z 13), .ref (z 14)]))] H := hP
  have hD : va_D A [(z 0, .inr (7, [.int (nI 1), .int (nI (g 1)), .int (nI (g 2)), .int (nI (g 3)), .int (nI (g 4)), .int (nI (g 5)), .int (nI (g 6)), .ref (z 1), .ref (z 2), .ref (z 3), .ref (z 4), .int (nI (g 7)), .ref (z 5), .ref (z 6), .ref (z 7), .ref (z 8), .ref (z 9), .ref (z 10), .int (nI (g 8)), .ref (z 11), .ref (z 12), .ref (z 13), .ref (z 14)]))] := hD
  refine lv_aload_n hx hb d_MO_throwing_21 rfl (lv_at hl 0 rfl) ?_
  refine va_get (D := (dC, dI)) (ci := 7) (v := .int (nI 1)) (C := R_MO) (T := F_MO) (N := 23) hx hb hts in_MO hown hK hP 0 rfl rfl 0 (by decide) (hts _ m_572) (fun _ h9 => h9) rfl d_MO_throwing_22 ?_
  refine ix_if_le (tgt := 32) hx hb (nI_tI (n := 1) (by omega)) d_MO_throwing_25 (by decide) (fun c_25 => absurd c_25 (by omega)) (fun c_25 => ?_)
  refine lv_iconst (v := nI 1) hx hb d_MO_throwing_28 (by decide +kernel) ?_
  refine lv_goto (tgt := 33) hx hb d_MO_throwing_29 (by decide) ?_
  exact W.zret (v := nI 1) (ty := .boolean) hx hb hr (by decide +kernel) (fun t ht hW => ⟨⟨nI 1, 1, rfl, ⟨rfl, by unfold thw; rw [if_pos (by omega)]⟩, by rw [ht]; exact hP, va_K.moved hW.alike hK, hD⟩, hS.F ht⟩) hS.2.2 d_MO_throwing_33
set_option maxHeartbeats 4000000 in
set_option maxRecDepth 100000 in
/-- isSound(s, by) -/
theorem c_MO_isSound (l : Launch) (dC : Nat → ClassId) (dI : Nat → Nat → Nat) (z g : Nat → Nat) (cI : ClassId) (ww sf sl ss : Nat → Nat) (df dt nu : Nat → Nat) (s9 : Nat) (y9 : Int) (hy : -1000000 ≤ y9 ∧ y9 ≤ 1000000) (h8 : g 8 ≤ 10) (hdf : ∀ d, d < g 8 → df d ≤ 20000 ∧ dt d ≤ 20000) (hs9s9 : s9 < 9) (hW9s9 : HW (fun w => ss (5 * s9 + w)) nu) (hb9s9 : ∀ w, w < 5 → ss (5 * s9 + w) ≤ 6) (hp9s9 : ∀ k, k < sumN (fun w => ss (5 * s9 + w)) 5 → Em ww nu (sf s9) (sl s9) k < 1000000) : Met l y_MO_isSound w_MO_isSound { frames := 3, cells := 0, slots := 0, locals := 70 } (ro_Pc (dC, dI) vwCl [(cI, .int)] [.ref (z 0), .int (nI s9), .int (zI y9)] [(z 0, .inr (7, [.int (nI (g 0)), .int (nI (g 1)), .int (nI (g 2)), .int (nI (g 3)), .int (nI (g 4)), .int (nI (g 5)), .int (nI (g 6)), .ref (z 1), .ref (z 2), .ref (z 3), .ref (z 4), .int (nI (g 7)), .ref (z 5), .ref (z 6), .ref (z 7), .ref (z 8), .ref (z 9), .ref (z 10), .int (nI (g 8)), .ref (z 11), .ref (z 12), .ref (z 13), .ref (z 14)])), (z 1, .inl (cI, 5, .inl (aN ww))), (z 8, .inl (cI, 9, .inl (aN sf))), (z 9, .inl (cI, 9, .inl (aN sl))), (z 10, .inl (cI, 45, .inl (aN ss))), (z 11, .inl (cI, 10, .inl (aN df))), (z 12, .inl (cI, 10, .inl (aN dt)))]) (ro_Qi (fun r => ∃ v, r = nI v ∧ v ≤ 1 ∧ (v = 1 ↔ ∀ k, k < sumN (fun w => ss (5 * s9 + w)) 5 → ∀ d, d < g 8 → (fun k d => (Em ww nu (sf s9) (sl s9) k : Int) + y9 ≤ df d ∨ (dt d : Int) ≤ Bm ww nu (sf s9) (sl s9) k + y9) k d))) 0 0 ro_no := by
  refine Met.ofW (cc := b_MO_isSound) (maxL := 6) (ret := (some .boolean)) (by decide) rfl ?_
  intro p e s m args below meth c s₁ B hml hv
  obtain ⟨rfl, hP, hK⟩ := hv
  have hx := B.exec
  have hb := B.bytes
  have hr := B.returns
  have hts := gw_h (atoms_spec (ws := w_MO_isSound) B.pre)
  have hown : s.vm.findClass R_MO = some m.cls := findClass_of_methodNamed B.named
  have hlocks := B.notSynchronized
  have hS : va_S ro_no s.heap s.heap [] := va_S.rf
  have hP : va_P (dC, dI) vwCl [(z 0, .inr (7, [.int (nI (g 0)), .int (nI (g 1)), .int (nI (g 2)), .int (nI (g 3)), .int (nI (g 4)), .int (nI (g 5)), .int (nI (g 6)), .ref (z 1), .ref (z 2), .ref (z 3), .ref (z 4), .int (nI (g 7)), .ref (z 5), .ref (z 6), .ref (z 7), .ref (z 8), .ref (z 9), .ref (z 10), .int (nI (g 8)), .ref (z 11), .ref (z 12), .ref (z 13), .ref (z 14)])), (z 1, .inl (cI, 5, .inl (aN ww))), (z 8, .inl (cI, 9, .inl (aN sf))), (z 9, .inl (cI, 9, .inl (aN sl))), (z 10, .inl (cI, 45, .inl (aN ss))), (z 11, .inl (cI, 10, .inl (aN df))), (z 12, .inl (cI, 10, .inl (aN dt)))] s.heap := hP
  have hl := lv_entry ([.ref (z 0), .int (nI s9), .int (zI y9)]) (n := 6) (Nat.le_of_ble_eq_true rfl)
  rw [lg_entry_eq]
  generalize (lg_sl ([.ref (z 0), .int (nI s9), .int (zI y9)]) ++ List.replicate (6 - (lg_sl ([.ref (z 0), .int (nI s9), .int (zI y9)])).length) Slot.unset).toArray = ls at hl ⊢
  have hl : lv_has ls 6 [(0, .ref (z 0)), (1, .int (nI s9)), (2, .int (zI y9))] := hl
  have h30s9 : sumN (fun w => ss (5 * s9 + w)) 5 ≤ 30 := by have h0 := hb9s9 0 (by omega); have h1 := hb9s9 1 (by omega); have h2 := hb9s9 2 (by omega); have h3 := hb9s9 3 (by omega); have h4 := hb9s9 4 (by omega); simp only [sumN]; omega
  have hbbs9 : ∀ w, w < 5 → ss (5 * s9 + w) ≤ 1000 := fun w hw => Nat.le_trans (hb9s9 w hw) (by decide)
  refine lv_iconst (v := nI 1) hx hb d_MO_isSound_0 (by decide +kernel) ?_
  refine lv_istore_n (lv' := [(3, .int (nI 1)), (0, .ref (z 0)), (1, .int (nI s9)), (2, .int (zI y9))]) hx hb d_MO_isSound_1 rfl hl (by decide) rfl (fun ls hl => ?_)
  refine lv_iconst (v := nI 0) hx hb d_MO_isSound_2 (by decide +kernel) ?_
  refine lv_istore (lv' := [(4, .int (nI 0)), (3, .int (nI 1)), (0, .ref (z 0)), (1, .int (nI s9)), (2, .int (zI y9))]) hx hb d_MO_isSound_3 hl (by decide) rfl (fun ls hl => ?_)
  have out : ∀ (n_out : Nat) (k9 : Nat) (v9 : Nat), (sumN (fun w => ss (5 * s9 + w)) 5 + 1 ≤ k9 + n_out) → (k9 ≤ sumN (fun w => ss (5 * s9 + w)) 5) → (sndI (fun k d => (Em ww nu (sf s9) (sl s9) k : Int) + y9 ≤ df d ∨ (dt d : Int) ≤ Bm ww nu (sf s9) (sl s9) k + y9) (sumN (fun w => ss (5 * s9 + w)) 5) (g 8) k9 0 v9) → ∀ (H : Heap) (locs : List Loc) (ls : Array Slot), va_P (dC, dI) vwCl [(z 0, .inr (7, [.int (nI (g 0)), .int (nI (g 1)), .int (nI (g 2)), .int (nI (g 3)), .int (nI (g 4)), .int (nI (g 5)), .int (nI (g 6)), .ref (z 1), .ref (z 2), .ref (z 3), .ref (z 4), .int (nI (g 7)), .ref (z 5), .ref (z 6), .ref (z 7), .ref (z 8), .ref (z 9), .ref (z 10), .int (nI (g 8)), .ref (z 11), .ref (z 12), .ref (z 13), .ref (z 14)])), (z 1, .inl (cI, 5, .inl (aN ww))), (z 8, .inl (cI, 9, .inl (aN sf))), (z 9, .inl (cI, 9, .inl (aN sl))), (z 10, .inl (cI, 45, .inl (aN ss))), (z 11, .inl (cI, 10, .inl (aN df))), (z 12, .inl (cI, 10, .inl (aN dt)))] H → va_S ro_no s.heap H locs → lv_has ls 6 [(0, .ref (z 0)), (1, .int (nI s9)), (2, .int (zI y9)), (3, .int (nI v9)), (4, .int (nI k9))] → W p l e (headSpec w_MO_isSound { frames := 3, cells := 0, slots := 0, locals := 70 }).room s m [.ref (z 0), .int (nI s9), .int (zI y9)].toArray below meth c H locs 0 0 (MQ below (ro_Qi (fun r => ∃ v, r = nI v ∧ v ≤ 1 ∧ (v = 1 ↔ ∀ k, k < sumN (fun w => ss (5 * s9 + w)) 5 → ∀ d, d < g 8 → (fun k d => (Em ww nu (sf s9) (sl s9) k : Int) + y9 ≤ df d ∨ (dt d : Int) ≤ Bm ww nu (sf s9) (sl s9) k + y9) k d))) [.ref (z 0), .int (nI s9), .int (zI y9)].toArray s 0 0 ro_no) (F0 m 5 ls []) := by
    intro n_out
    induction n_out with
    | zero =>
      intro k9 v9 hm hk hI
      exact absurd hm (by omega)
    | succ n_out ih_out =>
      intro k9 v9 hm hk hI H locs ls hP hS hl
      refine lv_iload hx hb d_MO_isSound_5 (lv_at hl 4 rfl) ?_
      refine lv_aload_n hx hb d_MO_isSound_7 rfl (lv_at hl 0 rfl) ?_
      refine lv_iload_n hx hb d_MO_isSound_8 rfl (lv_at hl 1 rfl) ?_
      have hPc := hP.sub (ws' := [(z 0, .inr (7, [.int (nI (g 0)), .int (nI (g 1)), .int (nI (g 2)), .int (nI (g 3)), .int (nI (g 4)), .int (nI (g 5)), .int (nI (g 6)), .ref (z 1), .ref (z 2), .ref (z 3), .ref (z 4), .int (nI (g 7)), .ref (z 5), .ref (z 6), .ref (z 7), .ref (z 8), .ref (z 9), .ref (z 10), .int (nI (g 8)), .ref (z 11), .ref (z 12), .ref (z 13), .ref (z 14)])), (z 10, .inl (cI, 45, .inl (aN ss)))]) [0, 4] rfl
      refine ro_calli (va_runV (As := [.int (nI s9)]) (rest := [.int (nI k9)]) ⟨hx, hb, hml, hown, hts⟩ (c_MO_many l dC dI z g cI ss s9 hs9s9) (cwV 1 hts (gw_V m_702 m_704 s_22 m_8 m_705) rfl rfl rfl (by decide +kernel) ⟨Nat.le_of_ble_eq_true rfl, Nat.le_of_ble_eq_true rfl⟩) ⟨ro_blind, va_recv hK hPc (ci := 7) (q0 := 0) rfl rfl, fun U hU hW => ⟨rfl, by rw [hU]; exact hPc, va_K.moved hW.alike hK⟩⟩ rfl rfl hl.1 rfl (lv_room (Nat.le_of_ble_eq_true rfl)) d_MO_isSound_9 ⟨Nat.le_of_ble_eq_true rfl, Nat.le_of_ble_eq_true rfl⟩) hS hP (fun r H locs er hP hS => ?_)
      subst er
      refine ix_icmp_ge (tgt := 87) hx hb (nI_tI (n := k9) (by omega)) (nI_tI (n := sumN (fun w => ss (5 * s9 + w)) 5) (by omega)) d_MO_isSound_12 (by decide) (fun c_12 => ?_) (fun c_12 => ?_)
      · refine lv_iload_n hx hb d_MO_isSound_87 rfl (lv_at hl 3 rfl) ?_
        have hv1 := hI.1
        have hdn := hI.done (by omega)
        rcases (show v9 = 0 ∨ v9 = 1 by omega) with h | h
        · rw [h] at hdn ⊢
          exact W.zret (v := nI 0) (ty := .boolean) hx hb hr (by decide +kernel) (fun t ht hW => ⟨⟨nI 0, (), rfl, ⟨0, rfl, by decide, hdn⟩, trivial⟩, hS.F ht⟩) hS.2.2 d_MO_isSound_88
        · rw [h] at hdn ⊢
          exact W.zret (v := nI 1) (ty := .boolean) hx hb hr (by decide +kernel) (fun t ht hW => ⟨⟨nI 1, (), rfl, ⟨1, rfl, by decide, hdn⟩, trivial⟩, hS.F ht⟩) hS.2.2 d_MO_isSound_88
      refine lv_iconst (v := nI 0) hx hb d_MO_isSound_15 (by decide +kernel) ?_
      refine lv_istore (lv' := [(5, .int (nI 0)), (0, .ref (z 0)), (1, .int (nI s9)), (2, .int (zI y9)), (3, .int (nI v9)), (4, .int (nI k9))]) hx hb d_MO_isSound_16 hl (by decide) rfl (fun ls hl => ?_)
      have hks : k9 < sumN (fun w => ss (5 * s9 + w)) 5 := by omega
      have hE := hp9s9 k9 hks
      have hBE : Bm ww nu (sf s9) (sl s9) k9 ≤ Em ww nu (sf s9) (sl s9) k9 := Nat.le_add_right _ _
      have inn : ∀ (n_inn : Nat) (d9 : Nat) (v9 : Nat), (g 8 + 1 ≤ d9 + n_inn) → (d9 ≤ g 8) → (sndI (fun k d => (Em ww nu (sf s9) (sl s9) k : Int) + y9 ≤ df d ∨ (dt d : Int) ≤ Bm ww nu (sf s9) (sl s9) k + y9) (sumN (fun w => ss (5 * s9 + w)) 5) (g 8) k9 d9 v9) → ∀ (H : Heap) (locs : List Loc) (ls : Array Slot), va_P (dC, dI) vwCl [(z 0, .inr (7, [.int (nI (g 0)), .int (nI (g 1)), .int (nI (g 2)), .int (nI (g 3)), .int (nI (g 4)), .int (nI (g 5)), .int (nI (g 6)), .ref (z 1), .ref (z 2), .ref (z 3), .ref (z 4), .int (nI (g 7)), .ref (z 5), .ref (z 6), .ref (z 7), .ref (z 8), .ref (z 9), .ref (z 10), .int (nI (g 8)), .ref (z 11), .ref (z 12), .ref (z 13), .ref (z 14)])), (z 1, .inl (cI, 5, .inl (aN ww))), (z 8, .inl (cI, 9, .inl (aN sf))), (z 9, .inl (cI, 9, .inl (aN sl))), (z 10, .inl (cI, 45, .inl (aN ss))), (z 11, .inl (cI, 10, .inl (aN df))), (z 12, .inl (cI, 10, .inl (aN dt)))] H → va_S ro_no s.heap H locs → lv_has ls 6 [(0, .ref (z 0)), (1, .int (nI s9)), (2, .int (zI y9)), (3, .int (nI v9)), (4, .int (nI k9)), (5, .int (nI d9))] → W p l e (headSpec w_MO_isSound { frames := 3, cells := 0, slots := 0, locals := 70 }).room s m [.ref (z 0), .int (nI s9), .int (zI y9)].toArray below meth c H locs 0 0 (MQ below (ro_Qi (fun r => ∃ v, r = nI v ∧ v ≤ 1 ∧ (v = 1 ↔ ∀ k, k < sumN (fun w => ss (5 * s9 + w)) 5 → ∀ d, d < g 8 → (fun k d => (Em ww nu (sf s9) (sl s9) k : Int) + y9 ≤ df d ∨ (dt d : Int) ≤ Bm ww nu (sf s9) (sl s9) k + y9) k d))) [.ref (z 0), .int (nI s9), .int (zI y9)].toArray s 0 0 ro_no) (F0 m 18 ls []) := by
        intro n_inn
        induction n_inn with
        | zero =>
          intro d9 v9 hm2 hd hI
          exact absurd hm2 (by omega)
        | succ n_inn ih_inn =>
          intro d9 v9 hm2 hd hI H locs ls hP hS hl
          refine lv_iload hx hb d_MO_isSound_18 (lv_at hl 5 rfl) ?_
          refine lv_aload_n hx hb d_MO_isSound_20 rfl (lv_at hl 0 rfl) ?_
          refine va_get (D := (dC, dI)) (ci := 7) (v := .int (nI (g 8))) (C := R_MO) (T := F_MO) (N := 23) hx hb hts in_MO hown hK hP 0 rfl rfl 18 (by decide) (hts _ m_590) (fun _ h9 => h9) rfl d_MO_isSound_21 ?_
          refine ix_icmp_ge (tgt := 81) hx hb (nI_tI (n := d9) (by omega)) (nI_tI (n := g 8) (by omega)) d_MO_isSound_24 (by decide) (fun c_24 => ?_) (fun c_24 => ?_)
          · refine lv_iinc (v := nI (k9 + 1)) (lv' := [(4, .int (nI (k9 + 1))), (0, .ref (z 0)), (1, .int (nI s9)), (2, .int (zI y9)), (3, .int (nI v9)), (5, .int (nI d9))]) hx hb d_MO_isSound_81 hl (k := 4) rfl (n_incN k9 1) (by decide) rfl (fun ls hl => ?_)
            refine lv_goto (tgt := 5) hx hb d_MO_isSound_84 (by decide) ?_
            exact ih_out (k9 + 1) v9 (by omega) (by omega) (hI.next (by omega)) _ _ _ hP hS (lv_sub hl [1, 2, 3, 4, 0] rfl)
          have hds : d9 < g 8 := by omega
          have hdd := hdf d9 hds
          have hv1 := hI.1
          refine lv_iload_n hx hb d_MO_isSound_27 rfl (lv_at hl 3 rfl) ?_
          refine ix_if_eq (tgt := 73) hx hb (nI_tI (n := v9) (by omega)) d_MO_isSound_28 (by decide) (fun c_28 => ?_) (fun c_28 => ?_)
          · refine lv_iconst (v := nI 0) hx hb d_MO_isSound_73 (by decide +kernel) ?_
            refine lv_istore_n (lv' := [(3, .int (nI 0)), (0, .ref (z 0)), (1, .int (nI s9)), (2, .int (zI y9)), (4, .int (nI k9)), (5, .int (nI d9))]) hx hb d_MO_isSound_74 rfl hl (by decide) rfl (fun ls hl => ?_)
            refine lv_iinc (v := nI (d9 + 1)) (lv' := [(5, .int (nI (d9 + 1))), (3, .int (nI 0)), (0, .ref (z 0)), (1, .int (nI s9)), (2, .int (zI y9)), (4, .int (nI k9))]) hx hb d_MO_isSound_75 hl (k := 5) rfl (n_incN d9 1) (by decide) rfl (fun ls hl => ?_)
            refine lv_goto (tgt := 18) hx hb d_MO_isSound_78 (by decide) ?_
            exact ih_inn (d9 + 1) 0 (by omega) (by omega) (hI.step hks hds (by omega) (by omega)) _ _ _ hP hS (lv_sub hl [2, 3, 4, 1, 5, 0] rfl)
          refine lv_aload_n hx hb d_MO_isSound_31 rfl (lv_at hl 0 rfl) ?_
          refine lv_iload_n hx hb d_MO_isSound_32 rfl (lv_at hl 1 rfl) ?_
          refine lv_iload hx hb d_MO_isSound_33 (lv_at hl 4 rfl) ?_
          have hPc := hP.sub (ws' := [(z 0, .inr (7, [.int (nI (g 0)), .int (nI (g 1)), .int (nI (g 2)), .int (nI (g 3)), .int (nI (g 4)), .int (nI (g 5)), .int (nI (g 6)), .ref (z 1), .ref (z 2), .ref (z 3), .ref (z 4), .int (nI (g 7)), .ref (z 5), .ref (z 6), .ref (z 7), .ref (z 8), .ref (z 9), .ref (z 10), .int (nI (g 8)), .ref (z 11), .ref (z 12), .ref (z 13), .ref (z 14)])), (z 1, .inl (cI, 5, .inl (aN ww))), (z 8, .inl (cI, 9, .inl (aN sf))), (z 9, .inl (cI, 9, .inl (aN sl))), (z 10, .inl (cI, 45, .inl (aN ss)))]) [0, 1, 2, 3, 4] rfl
          refine ro_calli (va_runV (As := [.int (nI s9), .int (nI k9)]) (rest := []) ⟨hx, hb, hml, hown, hts⟩ (c_MO_endOf l dC dI z g cI ww sf sl ss nu s9 k9 hs9s9 hW9s9 (by omega) hbbs9 (by omega)) (cwV 2 hts (gw_V m_714 m_716 s_25 m_8 m_717) rfl rfl rfl (by decide +kernel) ⟨Nat.le_of_ble_eq_true rfl, Nat.le_of_ble_eq_true rfl⟩) ⟨ro_blind, va_recv hK hPc (ci := 7) (q0 := 0) rfl rfl, fun U hU hW => ⟨rfl, by rw [hU]; exact hPc, va_K.moved hW.alike hK⟩⟩ rfl rfl hl.1 rfl (lv_room (Nat.le_of_ble_eq_true rfl)) d_MO_isSound_35 ⟨Nat.le_of_ble_eq_true rfl, Nat.le_of_ble_eq_true rfl⟩) hS hP (fun r H locs er hP hS => ?_)
          subst er
          refine lv_iload_n hx hb d_MO_isSound_38 rfl (lv_at hl 2 rfl) ?_
          refine lv_iadd hx hb d_MO_isSound_39 ?_
          refine lv_topr (show _ = zI (((Em ww nu (sf s9) (sl s9) k9 : Nat) : Int) + y9) from nz_add _ _) ?_
          refine lv_aload_n hx hb d_MO_isSound_40 rfl (lv_at hl 0 rfl) ?_
          refine va_get (D := (dC, dI)) (ci := 7) (v := .ref (z 11)) (C := R_MO) (T := F_MO) (N := 23) hx hb hts in_MO hown hK hP 0 rfl rfl 19 (by decide) (hts _ m_591) (fun _ h9 => h9) rfl d_MO_isSound_41 ?_
          refine lv_iload hx hb d_MO_isSound_44 (lv_at hl 5 rfl) ?_
          refine ix_ialdN (i := d9) hx hb hK hP 5 0 rfl rfl (by omega) (by decide) d_MO_isSound_46 ?_
          refine ix_icmp_le (tgt := 69) hx hb (zI_toInt (z := ((Em ww nu (sf s9) (sl s9) k9 : Nat) : Int) + y9) (by omega) (by omega)) (nI_tI (n := df d9) (by omega)) d_MO_isSound_47 (by decide) (fun c_47 => ?_) (fun c_47 => ?_)
          · refine lv_iconst (v := nI 1) hx hb d_MO_isSound_69 (by decide +kernel) ?_
            refine lv_goto (tgt := 74) hx hb d_MO_isSound_70 (by decide) ?_
            refine lv_istore_n (lv' := [(3, .int (nI 1)), (0, .ref (z 0)), (1, .int (nI s9)), (2, .int (zI y9)), (4, .int (nI k9)), (5, .int (nI d9))]) hx hb d_MO_isSound_74 rfl hl (by decide) rfl (fun ls hl => ?_)
            refine lv_iinc (v := nI (d9 + 1)) (lv' := [(5, .int (nI (d9 + 1))), (3, .int (nI 1)), (0, .ref (z 0)), (1, .int (nI s9)), (2, .int (zI y9)), (4, .int (nI k9))]) hx hb d_MO_isSound_75 hl (k := 5) rfl (n_incN d9 1) (by decide) rfl (fun ls hl => ?_)
            refine lv_goto (tgt := 18) hx hb d_MO_isSound_78 (by decide) ?_
            exact ih_inn (d9 + 1) 1 (by omega) (by omega) (hI.step hks hds (by omega) (by omega)) _ _ _ hP hS (lv_sub hl [2, 3, 4, 1, 5, 0] rfl)
          refine lv_aload_n hx hb d_MO_isSound_50 rfl (lv_at hl 0 rfl) ?_
          refine lv_iload_n hx hb d_MO_isSound_51 rfl (lv_at hl 1 rfl) ?_
          refine lv_iload hx hb d_MO_isSound_52 (lv_at hl 4 rfl) ?_
          have hPc := hP.sub (ws' := [(z 0, .inr (7, [.int (nI (g 0)), .int (nI (g 1)), .int (nI (g 2)), .int (nI (g 3)), .int (nI (g 4)), .int (nI (g 5)), .int (nI (g 6)), .ref (z 1), .ref (z 2), .ref (z 3), .ref (z 4), .int (nI (g 7)), .ref (z 5), .ref (z 6), .ref (z 7), .ref (z 8), .ref (z 9), .ref (z 10), .int (nI (g 8)), .ref (z 11), .ref (z 12), .ref (z 13), .ref (z 14)])), (z 1, .inl (cI, 5, .inl (aN ww))), (z 8, .inl (cI, 9, .inl (aN sf))), (z 9, .inl (cI, 9, .inl (aN sl))), (z 10, .inl (cI, 45, .inl (aN ss)))]) [0, 1, 2, 3, 4] rfl
          refine ro_calli (va_runV (As := [.int (nI s9), .int (nI k9)]) (rest := []) ⟨hx, hb, hml, hown, hts⟩ (c_MO_beginOf l dC dI z g cI ww sf sl ss nu s9 k9 hs9s9 hW9s9 (by omega) hbbs9 (by omega)) (cwV 2 hts (gw_V m_710 m_712 s_24 m_8 m_713) rfl rfl rfl (by decide +kernel) ⟨Nat.le_of_ble_eq_true rfl, Nat.le_of_ble_eq_true rfl⟩) ⟨ro_blind, va_recv hK hPc (ci := 7) (q0 := 0) rfl rfl, fun U hU hW => ⟨rfl, by rw [hU]; exact hPc, va_K.moved hW.alike hK⟩⟩ rfl rfl hl.1 rfl (lv_room (Nat.le_of_ble_eq_true rfl)) d_MO_isSound_54 ⟨Nat.le_of_ble_eq_true rfl, Nat.le_of_ble_eq_true rfl⟩) hS hP (fun r H locs er hP hS => ?_)
          subst er
          refine lv_iload_n hx hb d_MO_isSound_57 rfl (lv_at hl 2 rfl) ?_
          refine lv_iadd hx hb d_MO_isSound_58 ?_
          refine lv_topr (show _ = zI (((Bm ww nu (sf s9) (sl s9) k9 : Nat) : Int) + y9) from nz_add _ _) ?_
          refine lv_aload_n hx hb d_MO_isSound_59 rfl (lv_at hl 0 rfl) ?_
          refine va_get (D := (dC, dI)) (ci := 7) (v := .ref (z 12)) (C := R_MO) (T := F_MO) (N := 23) hx hb hts in_MO hown hK hP 0 rfl rfl 20 (by decide) (hts _ m_592) (fun _ h9 => h9) rfl d_MO_isSound_60 ?_
          refine lv_iload hx hb d_MO_isSound_63 (lv_at hl 5 rfl) ?_
          refine ix_ialdN (i := d9) hx hb hK hP 6 0 rfl rfl (by omega) (by decide) d_MO_isSound_65 ?_
          refine ix_icmp_lt (tgt := 73) hx hb (zI_toInt (z := ((Bm ww nu (sf s9) (sl s9) k9 : Nat) : Int) + y9) (by omega) (by omega)) (nI_tI (n := dt d9) (by omega)) d_MO_isSound_66 (by decide) (fun c_66 => ?_) (fun c_66 => ?_)
          · refine lv_iconst (v := nI 0) hx hb d_MO_isSound_73 (by decide +kernel) ?_
            refine lv_istore_n (lv' := [(3, .int (nI 0)), (0, .ref (z 0)), (1, .int (nI s9)), (2, .int (zI y9)), (4, .int (nI k9)), (5, .int (nI d9))]) hx hb d_MO_isSound_74 rfl hl (by decide) rfl (fun ls hl => ?_)
            refine lv_iinc (v := nI (d9 + 1)) (lv' := [(5, .int (nI (d9 + 1))), (3, .int (nI 0)), (0, .ref (z 0)), (1, .int (nI s9)), (2, .int (zI y9)), (4, .int (nI k9))]) hx hb d_MO_isSound_75 hl (k := 5) rfl (n_incN d9 1) (by decide) rfl (fun ls hl => ?_)
            refine lv_goto (tgt := 18) hx hb d_MO_isSound_78 (by decide) ?_
            exact ih_inn (d9 + 1) 0 (by omega) (by omega) (hI.step hks hds (by omega) (by omega)) _ _ _ hP hS (lv_sub hl [2, 3, 4, 1, 5, 0] rfl)
          refine lv_iconst (v := nI 1) hx hb d_MO_isSound_69 (by decide +kernel) ?_
          refine lv_goto (tgt := 74) hx hb d_MO_isSound_70 (by decide) ?_
          refine lv_istore_n (lv' := [(3, .int (nI 1)), (0, .ref (z 0)), (1, .int (nI s9)), (2, .int (zI y9)), (4, .int (nI k9)), (5, .int (nI d9))]) hx hb d_MO_isSound_74 rfl hl (by decide) rfl (fun ls hl => ?_)
          refine lv_iinc (v := nI (d9 + 1)) (lv' := [(5, .int (nI (d9 + 1))), (3, .int (nI 1)), (0, .ref (z 0)), (1, .int (nI s9)), (2, .int (zI y9)), (4, .int (nI k9))]) hx hb d_MO_isSound_75 hl (k := 5) rfl (n_incN d9 1) (by decide) rfl (fun ls hl => ?_)
          refine lv_goto (tgt := 18) hx hb d_MO_isSound_78 (by decide) ?_
          exact ih_inn (d9 + 1) 1 (by omega) (by omega) (hI.step hks hds (by omega) (by omega)) _ _ _ hP hS (lv_sub hl [2, 3, 4, 1, 5, 0] rfl)
      exact inn (g 8 + 1) 0 v9 (by omega) (by omega) hI _ _ _ hP hS (lv_sub hl [1, 2, 3, 4, 5, 0] rfl)
  exact out (sumN (fun w => ss (5 * s9 + w)) 5 + 1) 0 1 (by omega) (by omega) (sndI.init _ _ _) _ _ _ hP hS (lv_sub hl [2, 3, 4, 1, 0] rfl)
set_option maxHeartbeats 4000000 in
set_option maxRecDepth 100000 in
/-- stripsNow() -/
theorem c_MO_stripsNow (l : Launch) (dC : Nat → ClassId) (dI : Nat → Nat → Nat) (z g : Nat → Nat) (cI : ClassId) (nw : Nat → Nat) (h6 : g 6 ≤ 5) : Met l y_MO_stripsNow w_MO_stripsNow { frames := 0, cells := 0, slots := 0, locals := 0 } (ro_Pc (dC, dI) vwCl [(cI, .int)] [.ref (z 0)] [(z 0, .inr (7, [.int (nI (g 0)), .int (nI (g 1)), .int (nI (g 2)), .int (nI (g 3)), .int (nI (g 4)), .int (nI (g 5)), .int (nI (g 6)), .ref (z 1), .ref (z 2), .ref (z 3), .ref (z 4), .int (nI (g 7)), .ref (z 5), .ref (z 6), .ref (z 7), .ref (z 8), .ref (z 9), .ref (z 10), .int (nI (g 8)), .ref (z 11), .ref (z 12), .ref (z 13), .ref (z 14)])), (z 3, .inl (cI, 5, .inl (aN nw)))]) (ro_Qi (fun r => r = nI (sumN nw (g 6)))) 0 0 ro_no := by
  refine Met.ofW (cc := b_MO_stripsNow) (maxL := 3) (ret := (some .int)) (by decide) rfl ?_
  intro p e s m args below meth c s₁ B hml hv
  obtain ⟨rfl, hP, hK⟩ := hv
  have hx := B.exec
  have hb := B.bytes
  have hr := B.returns
  have hts := gw_h (atoms_spec (ws := w_MO_stripsNow) B.pre)
  have hown : s.vm.findClass R_MO = some m.cls := findClass_of_methodNamed B.named
  have hlocks := B.notSynchronized
  have hS : va_S ro_no s.heap s.heap [] := va_S.rf
  have hP : va_P (dC, dI) vwCl [(z 0, .inr (7, [.int (nI (g 0)), .int (nI (g 1)), .int (nI (g 2)), .int (nI (g 3)), .int (nI (g 4)), .int (nI (g 5)), .int (nI (g 6)), .ref (z 1), .ref (z 2), .ref (z 3), .ref (z 4), .int (nI (g 7)), .ref (z 5), .ref (z 6), .ref (z 7), .ref (z 8), .ref (z 9), .ref (z 10), .int (nI (g 8)), .ref (z 11), .ref (z 12), .ref (z 13), .ref (z 14)])), (z 3, .inl (cI, 5, .inl (aN nw)))] s.heap := hP
  have hl := lv_entry ([.ref (z 0)]) (n := 3) (Nat.le_of_ble_eq_true rfl)
  rw [lg_entry_eq]
  generalize (lg_sl ([.ref (z 0)]) ++ List.replicate (3 - (lg_sl ([.ref (z 0)])).length) Slot.unset).toArray = ls at hl ⊢
  have hl : lv_has ls 3 [(0, .ref (z 0))] := hl
  refine lv_iconst (v := nI 0) hx hb d_MO_stripsNow_0 (by decide +kernel) ?_
  refine lv_istore_n (lv' := [(1, .int (nI 0)), (0, .ref (z 0))]) hx hb d_MO_stripsNow_1 rfl hl (by decide) rfl (fun ls hl => ?_)
  refine lv_iconst (v := nI 0) hx hb d_MO_stripsNow_2 (by decide +kernel) ?_
  refine lv_istore_n (lv' := [(2, .int (nI 0)), (1, .int (nI 0)), (0, .ref (z 0))]) hx hb d_MO_stripsNow_3 rfl hl (by decide) rfl (fun ls hl => ?_)
  have lp : ∀ (n_lp : Nat) (i9 : Nat) (n9 : Nat), (g 6 + 1 ≤ i9 + n_lp) → (i9 ≤ g 6) → (n9 = sumN nw i9) → ∀ (H : Heap) (locs : List Loc) (ls : Array Slot), va_P (dC, dI) vwCl [(z 0, .inr (7, [.int (nI (g 0)), .int (nI (g 1)), .int (nI (g 2)), .int (nI (g 3)), .int (nI (g 4)), .int (nI (g 5)), .int (nI (g 6)), .ref (z 1), .ref (z 2), .ref (z 3), .ref (z 4), .int (nI (g 7)), .ref (z 5), .ref (z 6), .ref (z 7), .ref (z 8), .ref (z 9), .ref (z 10), .int (nI (g 8)), .ref (z 11), .ref (z 12), .ref (z 13), .ref (z 14)])), (z 3, .inl (cI, 5, .inl (aN nw)))] H → va_S ro_no s.heap H locs → lv_has ls 3 [(0, .ref (z 0)), (1, .int (nI n9)), (2, .int (nI i9))] → W p l e (headSpec w_MO_stripsNow { frames := 0, cells := 0, slots := 0, locals := 0 }).room s m [.ref (z 0)].toArray below meth c H locs 0 0 (MQ below (ro_Qi (fun r => r = nI (sumN nw (g 6)))) [.ref (z 0)].toArray s 0 0 ro_no) (F0 m 4 ls []) := by
    intro n_lp
    induction n_lp with
    | zero =>
      intro i9 n9 hm hi hn
      exact absurd hm (by omega)
    | succ n_lp ih_lp =>
      intro i9 n9 hm hi hn H locs ls hP hS hl
      refine lv_iload_n hx hb d_MO_stripsNow_4 rfl (lv_at hl 2 rfl) ?_
      refine lv_aload_n hx hb d_MO_stripsNow_5 rfl (lv_at hl 0 rfl) ?_
      refine va_get (D := (dC, dI)) (ci := 7) (v := .int (nI (g 6))) (C := R_MO) (T := F_MO) (N := 23) hx hb hts in_MO hown hK hP 0 rfl rfl 6 (by decide) (hts _ m_578) (fun _ h9 => h9) rfl d_MO_stripsNow_6 ?_
      refine ix_icmp_ge (tgt := 27) hx hb (nI_tI (n := i9) (by omega)) (nI_tI (n := g 6) (by omega)) d_MO_stripsNow_9 (by decide) (fun c_9 => ?_) (fun c_9 => ?_)
      · refine lv_iload_n hx hb d_MO_stripsNow_27 rfl (lv_at hl 1 rfl) ?_
        exact W.iret (v := nI n9) hx hb hr (fun t ht hW => ⟨⟨nI n9, (), rfl, by rw [hn, show i9 = g 6 by omega], trivial⟩, hS.F ht⟩) hS.2.2 d_MO_stripsNow_28
      refine lv_iload_n hx hb d_MO_stripsNow_12 rfl (lv_at hl 1 rfl) ?_
      refine lv_aload_n hx hb d_MO_stripsNow_13 rfl (lv_at hl 0 rfl) ?_
      refine va_get (D := (dC, dI)) (ci := 7) (v := .ref (z 3)) (C := R_MO) (T := F_MO) (N := 23) hx hb hts in_MO hown hK hP 0 rfl rfl 9 (by decide) (hts _ m_581) (fun _ h9 => h9) rfl d_MO_stripsNow_14 ?_
      refine lv_iload_n hx hb d_MO_stripsNow_17 rfl (lv_at hl 2 rfl) ?_
      refine ix_ialdN (i := i9) hx hb hK hP 1 0 rfl rfl (by omega) (by decide) d_MO_stripsNow_18 ?_
      refine lv_iadd hx hb d_MO_stripsNow_19 ?_
      refine lv_topr (show _ = nI (n9 + (nw i9)) from nn_add _ _) ?_
      refine lv_istore_n (lv' := [(1, .int (nI (n9 + (nw i9)))), (0, .ref (z 0)), (2, .int (nI i9))]) hx hb d_MO_stripsNow_20 rfl hl (by decide) rfl (fun ls hl => ?_)
      refine lv_iinc (v := nI (i9 + 1)) (lv' := [(2, .int (nI (i9 + 1))), (1, .int (nI (n9 + (nw i9)))), (0, .ref (z 0))]) hx hb d_MO_stripsNow_21 hl (k := 2) rfl (n_incN i9 1) (by decide) rfl (fun ls hl => ?_)
      refine lv_goto (tgt := 4) hx hb d_MO_stripsNow_24 (by decide) ?_
      exact ih_lp (i9 + 1) (n9 + (nw i9)) (by omega) (by omega) (by rw [hn]; rfl) _ _ _ hP hS (lv_sub hl [2, 1, 0] rfl)
  exact lp (g 6 + 1) 0 0 (by omega) (by omega) rfl _ _ _ hP hS (lv_sub hl [2, 1, 0] rfl)
set_option maxHeartbeats 4000000 in
set_option maxRecDepth 100000 in
/-- fillNow() -/
theorem c_MO_fillNow (l : Launch) (dC : Nat → ClassId) (dI : Nat → Nat → Nat) (z g : Nat → Nat) (cI : ClassId) (ww nw : Nat → Nat) (h6 : g 6 ≤ 5) : Met l y_MO_fillNow w_MO_fillNow { frames := 1, cells := 0, slots := 0, locals := 22 } (ro_Pc (dC, dI) vwCl [(cI, .int)] [.ref (z 0)] [(z 0, .inr (7, [.int (nI (g 0)), .int (nI (g 1)), .int (nI (g 2)), .int (nI (g 3)), .int (nI (g 4)), .int (nI (g 5)), .int (nI (g 6)), .ref (z 1), .ref (z 2), .ref (z 3), .ref (z 4), .int (nI (g 7)), .ref (z 5), .ref (z 6), .ref (z 7), .ref (z 8), .ref (z 9), .ref (z 10), .int (nI (g 8)), .ref (z 11), .ref (z 12), .ref (z 13), .ref (z 14)])), (z 1, .inl (cI, 5, .inl (aN ww))), (z 3, .inl (cI, 5, .inl (aN nw)))]) (ro_Qi (fun r => r = zI (((g 4 : Nat) : Int) * (((sumN nw (g 6) : Nat) : Int) - 1) + ((sumN (fun i => nw i * ww i) (g 6) : Nat) : Int)))) 0 0 ro_no := by
  refine Met.ofW (cc := b_MO_fillNow) (maxL := 3) (ret := (some .int)) (by decide) rfl ?_
  intro p e s m args below meth c s₁ B hml hv
  obtain ⟨rfl, hP, hK⟩ := hv
  have hx := B.exec
  have hb := B.bytes
  have hr := B.returns
  have hts := gw_h (atoms_spec (ws := w_MO_fillNow) B.pre)
  have hown : s.vm.findClass R_MO = some m.cls := findClass_of_methodNamed B.named
  have hlocks := B.notSynchronized
  have hS : va_S ro_no s.heap s.heap [] := va_S.rf
  have hP : va_P (dC, dI) vwCl [(z 0, .inr (7, [.int (nI (g 0)), .int (nI (g 1)), .int (nI (g 2)), .int (nI (g 3)), .int (nI (g 4)), .int (nI (g 5)), .int (nI (g 6)), .ref (z 1), .ref (z 2), .ref (z 3), .ref (z 4), .int (nI (g 7)), .ref (z 5), .ref (z 6), .ref (z 7), .ref (z 8), .ref (z 9), .ref (z 10), .int (nI (g 8)), .ref (z 11), .ref (z 12), .ref (z 13), .ref (z 14)])), (z 1, .inl (cI, 5, .inl (aN ww))), (z 3, .inl (cI, 5, .inl (aN nw)))] s.heap := hP
  have hl := lv_entry ([.ref (z 0)]) (n := 3) (Nat.le_of_ble_eq_true rfl)
  rw [lg_entry_eq]
  generalize (lg_sl ([.ref (z 0)]) ++ List.replicate (3 - (lg_sl ([.ref (z 0)])).length) Slot.unset).toArray = ls at hl ⊢
  have hl : lv_has ls 3 [(0, .ref (z 0))] := hl
  refine lv_aload_n hx hb d_MO_fillNow_0 rfl (lv_at hl 0 rfl) ?_
  refine va_get (D := (dC, dI)) (ci := 7) (v := .int (nI (g 4))) (C := R_MO) (T := F_MO) (N := 23) hx hb hts in_MO hown hK hP 0 rfl rfl 4 (by decide) (hts _ m_576) (fun _ h9 => h9) rfl d_MO_fillNow_1 ?_
  refine lv_aload_n hx hb d_MO_fillNow_4 rfl (lv_at hl 0 rfl) ?_
  have hPc := hP.sub (ws' := [(z 0, .inr (7, [.int (nI (g 0)), .int (nI (g 1)), .int (nI (g 2)), .int (nI (g 3)), .int (nI (g 4)), .int (nI (g 5)), .int (nI (g 6)), .ref (z 1), .ref (z 2), .ref (z 3), .ref (z 4), .int (nI (g 7)), .ref (z 5), .ref (z 6), .ref (z 7), .ref (z 8), .ref (z 9), .ref (z 10), .int (nI (g 8)), .ref (z 11), .ref (z 12), .ref (z 13), .ref (z 14)])), (z 3, .inl (cI, 5, .inl (aN nw)))]) [0, 2] rfl
  refine ro_calli (va_runV (As := []) (rest := [.int (nI (g 4))]) ⟨hx, hb, hml, hown, hts⟩ (c_MO_stripsNow l dC dI z g cI nw h6) (cwV 0 hts (gw_V m_674 m_676 s_18 m_8 m_677) rfl rfl rfl (by decide +kernel) ⟨Nat.le_of_ble_eq_true rfl, Nat.le_of_ble_eq_true rfl⟩) ⟨ro_blind, va_recv hK hPc (ci := 7) (q0 := 0) rfl rfl, fun U hU hW => ⟨rfl, by rw [hU]; exact hPc, va_K.moved hW.alike hK⟩⟩ rfl rfl hl.1 rfl (lv_room (Nat.le_of_ble_eq_true rfl)) d_MO_fillNow_5 ⟨Nat.le_of_ble_eq_true rfl, Nat.le_of_ble_eq_true rfl⟩) hS hP (fun r H locs er hP hS => ?_)
  subst er
  refine lv_iconst (v := nI 1) hx hb d_MO_fillNow_8 (by decide +kernel) ?_
  refine lv_isub hx hb d_MO_fillNow_9 ?_
  refine lv_topr (show _ = zI (((sumN nw (g 6) : Nat) : Int) - ((1 : Nat) : Int)) from nn_sub _ _) ?_
  refine lv_imul hx hb d_MO_fillNow_10 ?_
  refine lv_topr (show _ = zI (((g 4 : Nat) : Int) * (((sumN nw (g 6) : Nat) : Int) - ((1 : Nat) : Int))) from nz_mul _ _) ?_
  refine lv_topr (show _ = zI (((g 4 : Nat) : Int) * (((sumN nw (g 6) : Nat) : Int) - 1)) from rfl) ?_
  refine lv_istore_n (lv' := [(1, .int (zI (((g 4 : Nat) : Int) * (((sumN nw (g 6) : Nat) : Int) - 1)))), (0, .ref (z 0))]) hx hb d_MO_fillNow_11 rfl hl (by decide) rfl (fun ls hl => ?_)
  refine lv_iconst (v := nI 0) hx hb d_MO_fillNow_12 (by decide +kernel) ?_
  refine lv_istore_n (lv' := [(2, .int (nI 0)), (1, .int (zI (((g 4 : Nat) : Int) * (((sumN nw (g 6) : Nat) : Int) - 1)))), (0, .ref (z 0))]) hx hb d_MO_fillNow_13 rfl hl (by decide) rfl (fun ls hl => ?_)
  have lp : ∀ (n_lp : Nat) (i9 : Nat) (y9 : Int), (g 6 + 1 ≤ i9 + n_lp) → (i9 ≤ g 6) → (y9 = ((g 4 : Nat) : Int) * (((sumN nw (g 6) : Nat) : Int) - 1) + ((sumN (fun i => nw i * ww i) i9 : Nat) : Int)) → ∀ (H : Heap) (locs : List Loc) (ls : Array Slot), va_P (dC, dI) vwCl [(z 0, .inr (7, [.int (nI (g 0)), .int (nI (g 1)), .int (nI (g 2)), .int (nI (g 3)), .int (nI (g 4)), .int (nI (g 5)), .int (nI (g 6)), .ref (z 1), .ref (z 2), .ref (z 3), .ref (z 4), .int (nI (g 7)), .ref (z 5), .ref (z 6), .ref (z 7), .ref (z 8), .ref (z 9), .ref (z 10), .int (nI (g 8)), .ref (z 11), .ref (z 12), .ref (z 13), .ref (z 14)])), (z 1, .inl (cI, 5, .inl (aN ww))), (z 3, .inl (cI, 5, .inl (aN nw)))] H → va_S ro_no s.heap H locs → lv_has ls 3 [(0, .ref (z 0)), (1, .int (zI y9)), (2, .int (nI i9))] → W p l e (headSpec w_MO_fillNow { frames := 1, cells := 0, slots := 0, locals := 22 }).room s m [.ref (z 0)].toArray below meth c H locs 0 0 (MQ below (ro_Qi (fun r => r = zI (((g 4 : Nat) : Int) * (((sumN nw (g 6) : Nat) : Int) - 1) + ((sumN (fun i => nw i * ww i) (g 6) : Nat) : Int)))) [.ref (z 0)].toArray s 0 0 ro_no) (F0 m 14 ls []) := by
    intro n_lp
    induction n_lp with
    | zero =>
      intro i9 y9 hm hi hy
      exact absurd hm (by omega)
    | succ n_lp ih_lp =>
      intro i9 y9 hm hi hy H locs ls hP hS hl
      refine lv_iload_n hx hb d_MO_fillNow_14 rfl (lv_at hl 2 rfl) ?_
      refine lv_aload_n hx hb d_MO_fillNow_15 rfl (lv_at hl 0 rfl) ?_
      refine va_get (D := (dC, dI)) (ci := 7) (v := .int (nI (g 6))) (C := R_MO) (T := F_MO) (N := 23) hx hb hts in_MO hown hK hP 0 rfl rfl 6 (by decide) (hts _ m_578) (fun _ h9 => h9) rfl d_MO_fillNow_16 ?_
      refine ix_icmp_ge (tgt := 44) hx hb (nI_tI (n := i9) (by omega)) (nI_tI (n := g 6) (by omega)) d_MO_fillNow_19 (by decide) (fun c_19 => ?_) (fun c_19 => ?_)
      · refine lv_iload_n hx hb d_MO_fillNow_44 rfl (lv_at hl 1 rfl) ?_
        exact W.iret (v := zI y9) hx hb hr (fun t ht hW => ⟨⟨zI y9, (), rfl, by rw [hy, show i9 = g 6 by omega], trivial⟩, hS.F ht⟩) hS.2.2 d_MO_fillNow_45
      refine lv_iload_n hx hb d_MO_fillNow_22 rfl (lv_at hl 1 rfl) ?_
      refine lv_aload_n hx hb d_MO_fillNow_23 rfl (lv_at hl 0 rfl) ?_
      refine va_get (D := (dC, dI)) (ci := 7) (v := .ref (z 3)) (C := R_MO) (T := F_MO) (N := 23) hx hb hts in_MO hown hK hP 0 rfl rfl 9 (by decide) (hts _ m_581) (fun _ h9 => h9) rfl d_MO_fillNow_24 ?_
      refine lv_iload_n hx hb d_MO_fillNow_27 rfl (lv_at hl 2 rfl) ?_
      refine ix_ialdN (i := i9) hx hb hK hP 2 0 rfl rfl (by omega) (by decide) d_MO_fillNow_28 ?_
      refine lv_aload_n hx hb d_MO_fillNow_29 rfl (lv_at hl 0 rfl) ?_
      refine va_get (D := (dC, dI)) (ci := 7) (v := .ref (z 1)) (C := R_MO) (T := F_MO) (N := 23) hx hb hts in_MO hown hK hP 0 rfl rfl 7 (by decide) (hts _ m_579) (fun _ h9 => h9) rfl d_MO_fillNow_30 ?_
      refine lv_iload_n hx hb d_MO_fillNow_33 rfl (lv_at hl 2 rfl) ?_
      refine ix_ialdN (i := i9) hx hb hK hP 1 0 rfl rfl (by omega) (by decide) d_MO_fillNow_34 ?_
      refine lv_imul hx hb d_MO_fillNow_35 ?_
      refine lv_topr (show _ = nI ((nw i9) * (ww i9)) from nn_mul _ _) ?_
      refine lv_iadd hx hb d_MO_fillNow_36 ?_
      refine lv_topr (show _ = zI (y9 + (((nw i9) * (ww i9) : Nat) : Int)) from zn_add _ _) ?_
      refine lv_istore_n (lv' := [(1, .int (zI (y9 + (((nw i9) * (ww i9) : Nat) : Int)))), (0, .ref (z 0)), (2, .int (nI i9))]) hx hb d_MO_fillNow_37 rfl hl (by decide) rfl (fun ls hl => ?_)
      refine lv_iinc (v := nI (i9 + 1)) (lv' := [(2, .int (nI (i9 + 1))), (1, .int (zI (y9 + (((nw i9) * (ww i9) : Nat) : Int)))), (0, .ref (z 0))]) hx hb d_MO_fillNow_38 hl (k := 2) rfl (n_incN i9 1) (by decide) rfl (fun ls hl => ?_)
      refine lv_goto (tgt := 14) hx hb d_MO_fillNow_41 (by decide) ?_
      exact ih_lp (i9 + 1) (y9 + (((nw i9) * (ww i9) : Nat) : Int)) (by omega) (by omega) (by rw [hy, sumN]; omega) _ _ _ hP hS (lv_sub hl [2, 1, 0] rfl)
  exact lp (g 6 + 1) 0 (((g 4 : Nat) : Int) * (((sumN nw (g 6) : Nat) : Int) - 1)) (by omega) (by omega) (by simp [sumN]) _ _ _ hP hS (lv_sub hl [2, 1, 0] rfl)
set_option maxHeartbeats 4000000 in
set_option maxRecDepth 100000 in
/-- goesDown() -/
theorem c_MO_goesDown (l : Launch) (dC : Nat → ClassId) (dI : Nat → Nat → Nat) (sz : Nat) (z g : Nat → Nat) (cI : ClassId) (wa nw : Nat → Nat) (h6 : g 6 ≤ 5) (hn6 : ∀ i, i < g 6 → nw i ≤ 6) : Met l y_MO_goesDown w_MO_goesDown { frames := 0, cells := 0, slots := 0, locals := 0 } (rw_Pc (dC, dI) vwCl [(cI, .int)] sz [.ref (z 0)] [(z 0, .inr (7, [.int (nI (g 0)), .int (nI (g 1)), .int (nI (g 2)), .int (nI (g 3)), .int (nI (g 4)), .int (nI (g 5)), .int (nI (g 6)), .ref (z 1), .ref (z 2), .ref (z 3), .ref (z 4), .int (nI (g 7)), .ref (z 5), .ref (z 6), .ref (z 7), .ref (z 8), .ref (z 9), .ref (z 10), .int (nI (g 8)), .ref (z 11), .ref (z 12), .ref (z 13), .ref (z 14)])), (z 2, .inl (cI, 5, .inl (aN wa))), (z 3, .inl (cI, 5, .inl (aN nw)))]) (va_Qi (fun (r : Int32) (u : (Nat → Nat)) => ∃ v, r = nI v ∧ GD wa nw (g 6) u v) (rw_B (dC, dI) vwCl [(cI, .int)] (va_A [(z 0, .inr (7, [.int (nI (g 0)), .int (nI (g 1)), .int (nI (g 2)), .int (nI (g 3)), .int (nI (g 4)), .int (nI (g 5)), .int (nI (g 6)), .ref (z 1), .ref (z 2), .ref (z 3), .ref (z 4), .int (nI (g 7)), .ref (z 5), .ref (z 6), .ref (z 7), .ref (z 8), .ref (z 9), .ref (z 10), .int (nI (g 8)), .ref (z 11), .ref (z 12), .ref (z 13), .ref (z 14)])), (z 2, .inl (cI, 5, .inl (aN wa))), (z 3, .inl (cI, 5, .inl (aN nw)))] sz) (fun u : (Nat → Nat) => [(z 0, .inr (7, [.int (nI (g 0)), .int (nI (g 1)), .int (nI (g 2)), .int (nI (g 3)), .int (nI (g 4)), .int (nI (g 5)), .int (nI (g 6)), .ref (z 1), .ref (z 2), .ref (z 3), .ref (z 4), .int (nI (g 7)), .ref (z 5), .ref (z 6), .ref (z 7), .ref (z 8), .ref (z 9), .ref (z 10), .int (nI (g 8)), .ref (z 11), .ref (z 12), .ref (z 13), .ref (z 14)])), (z 2, .inl (cI, 5, .inl (aN wa))), (z 3, .inl (cI, 5, .inl (aN u)))])) (va_A [(z 0, .inr (7, [.int (nI (g 0)), .int (nI (g 1)), .int (nI (g 2)), .int (nI (g 3)), .int (nI (g 4)), .int (nI (g 5)), .int (nI (g 6)), .ref (z 1), .ref (z 2), .ref (z 3), .ref (z 4), .int (nI (g 7)), .ref (z 5), .ref (z 6), .ref (z 7), .ref (z 8), .ref (z 9), .ref (z 10), .int (nI (g 8)), .ref (z 11), .ref (z 12), .ref (z 13), .ref (z 14)])), (z 2, .inl (cI, 5, .inl (aN wa))), (z 3, .inl (cI, 5, .inl (aN nw)))] sz)) 0 0 (va_A [(z 0, .inr (7, [.int (nI (g 0)), .int (nI (g 1)), .int (nI (g 2)), .int (nI (g 3)), .int (nI (g 4)), .int (nI (g 5)), .int (nI (g 6)), .ref (z 1), .ref (z 2), .ref (z 3), .ref (z 4), .int (nI (g 7)), .ref (z 5), .ref (z 6), .ref (z 7), .ref (z 8), .ref (z 9), .ref (z 10), .int (nI (g 8)), .ref (z 11), .ref (z 12), .ref (z 13), .ref (z 14)])), (z 2, .inl (cI, 5, .inl (aN wa))), (z 3, .inl (cI, 5, .inl (aN nw)))] sz) := by
  refine Met.ofW (cc := b_MO_goesDown) (maxL := 2) (ret := (some .boolean)) (by decide) rfl ?_
  intro p e s m args below meth c s₁ B hml hv
  obtain ⟨rfl, hsz, hP, hK, hD0⟩ := hv
  have hx := B.exec
  have hb := B.bytes
  have hr := B.returns
  have hts := gw_h (atoms_spec (ws := w_MO_goesDown) B.pre)
  have hown : s.vm.findClass R_MO = some m.cls := findClass_of_methodNamed B.named
  have hlocks := B.notSynchronized
  subst hsz
  have hD := hD0.self (sz := s.heap.size)
  generalize hAe : va_A [(z 0, .inr (7, [.int (nI (g 0)), .int (nI (g 1)), .int (nI (g 2)), .int (nI (g 3)), .int (nI (g 4)), .int (nI (g 5)), .int (nI (g 6)), .ref (z 1), .ref (z 2), .ref (z 3), .ref (z 4), .int (nI (g 7)), .ref (z 5), .ref (z 6), .ref (z 7), .ref (z 8), .ref (z 9), .ref (z 10), .int (nI (g 8)), .ref (z 11), .ref (z 12), .ref (z 13), .ref (z 14)])), (z 2, .inl (cI, 5, .inl (aN wa))), (z 3, .inl (cI, 5, .inl (aN nw)))] s.heap.size = A at hD ⊢
  have hA : ∀ q : Nat, s.heap.size ≤ q → A q := fun q h => by rw [← hAe]; exact Or.inr h
  have hS : va_S A s.heap s.heap [] := va_S.rf
  have hP : va_P (dC, dI) vwCl [(z 0, .inr (7, [.int (nI (g 0)), .int (nI (g 1)), .int (nI (g 2)), .int (nI (g 3)), .int (nI (g 4)), .int (nI (g 5)), .int (nI (g 6)), .ref (z 1), .ref (z 2), .ref (z 3), .ref (z 4), .int (nI (g 7)), .ref (z 5), .ref (z 6), .ref (z 7), .ref (z 8), .ref (z 9), .ref (z 10), .int (nI (g 8)), .ref (z 11), .ref (z 12), .ref (z 13), .ref (z 14)])), (z 2, .inl (cI, 5, .inl (aN wa))), (z 3, .inl (cI, 5, .inl (aN nw)))] s.heap := hP
  have hl := lv_entry ([.ref (z 0)]) (n := 2) (Nat.le_of_ble_eq_true rfl)
  rw [lg_entry_eq]
  generalize (lg_sl ([.ref (z 0)]) ++ List.replicate (2 - (lg_sl ([.ref (z 0)])).length) Slot.unset).toArray = ls at hl ⊢
  have hl : lv_has ls 2 [(0, .ref (z 0))] := hl
  refine lv_aload_n hx hb d_MO_goesDown_0 rfl (lv_at hl 0 rfl) ?_
  refine va_get (D := (dC, dI)) (ci := 7) (v := .int (nI (g 6))) (C := R_MO) (T := F_MO) (N := 23) hx hb hts in_MO hown hK hP 0 rfl rfl 6 (by decide) (hts _ m_578) (fun _ h9 => h9) rfl d_MO_goesDown_1 ?_
  refine lv_iconst (v := nI 1) hx hb d_MO_goesDown_4 (by decide +kernel) ?_
  refine lv_isub hx hb d_MO_goesDown_5 ?_
  refine lv_topr (show _ = zI (((g 6 : Nat) : Int) - ((1 : Nat) : Int)) from nn_sub _ _) ?_
  refine lv_topr (show _ = zI ((g 6 : Int) - 1) from congrArg zI (by omega)) ?_
  refine lv_istore_n (lv' := [(1, .int (zI ((g 6 : Int) - 1))), (0, .ref (z 0))]) hx hb d_MO_goesDown_6 rfl hl (by decide) rfl (fun ls hl => ?_)
  have lp : ∀ (n_lp : Nat) (y9 : Int) (nx : Nat → Nat), (y9 + 2 ≤ (n_lp : Int)) → (-1 ≤ y9) → (y9 < g 6) → (∀ i : Nat, (i : Int) ≤ y9 → nx i = nw i) → (∀ i : Nat, y9 < i → i < g 6 → nw i = 0) → (∀ i : Nat, y9 < i → i < g 6 → nx i = wa i) → ∀ (H : Heap) (locs : List Loc) (ls : Array Slot), va_P (dC, dI) vwCl [(z 0, .inr (7, [.int (nI (g 0)), .int (nI (g 1)), .int (nI (g 2)), .int (nI (g 3)), .int (nI (g 4)), .int (nI (g 5)), .int (nI (g 6)), .ref (z 1), .ref (z 2), .ref (z 3), .ref (z 4), .int (nI (g 7)), .ref (z 5), .ref (z 6), .ref (z 7), .ref (z 8), .ref (z 9), .ref (z 10), .int (nI (g 8)), .ref (z 11), .ref (z 12), .ref (z 13), .ref (z 14)])), (z 2, .inl (cI, 5, .inl (aN wa))), (z 3, .inl (cI, 5, .inl (aN nx)))] H → va_D A [(z 0, .inr (7, [.int (nI (g 0)), .int (nI (g 1)), .int (nI (g 2)), .int (nI (g 3)), .int (nI (g 4)), .int (nI (g 5)), .int (nI (g 6)), .ref (z 1), .ref (z 2), .ref (z 3), .ref (z 4), .int (nI (g 7)), .ref (z 5), .ref (z 6), .ref (z 7), .ref (z 8), .ref (z 9), .ref (z 10), .int (nI (g 8)), .ref (z 11), .ref (z 12), .ref (z 13), .ref (z 14)])), (z 2, .inl (cI, 5, .inl (aN wa))), (z 3, .inl (cI, 5, .inl (aN nx)))] → va_S A s.heap H locs → lv_has ls 2 [(0, .ref (z 0)), (1, .int (zI y9))] → W p l e (headSpec w_MO_goesDown { frames := 0, cells := 0, slots := 0, locals := 0 }).room s m [.ref (z 0)].toArray below meth c H locs 0 0 (MQ below (va_Qi (fun (r : Int32) (u : (Nat → Nat)) => ∃ v, r = nI v ∧ GD wa nw (g 6) u v) (rw_B (dC, dI) vwCl [(cI, .int)] A (fun u : (Nat → Nat) => [(z 0, .inr (7, [.int (nI (g 0)), .int (nI (g 1)), .int (nI (g 2)), .int (nI (g 3)), .int (nI (g 4)), .int (nI (g 5)), .int (nI (g 6)), .ref (z 1), .ref (z 2), .ref (z 3), .ref (z 4), .int (nI (g 7)), .ref (z 5), .ref (z 6), .ref (z 7), .ref (z 8), .ref (z 9), .ref (z 10), .int (nI (g 8)), .ref (z 11), .ref (z 12), .ref (z 13), .ref (z 14)])), (z 2, .inl (cI, 5, .inl (aN wa))), (z 3, .inl (cI, 5, .inl (aN u)))])) A) [.ref (z 0)].toArray s 0 0 A) (F0 m 7 ls []) := by
    intro n_lp
    induction n_lp with
    | zero =>
      intro y9 nx hm hy1 hy2 hI1 hI2 hI3
      exact absurd hm (by omega)
    | succ n_lp ih_lp =>
      intro y9 nx hm hy1 hy2 hI1 hI2 hI3 H locs ls hP hD hS hl
      refine lv_iload_n hx hb d_MO_goesDown_7 rfl (lv_at hl 1 rfl) ?_
      refine ix_if_lt (tgt := 38) hx hb (zI_toInt (z := y9) (by omega) (by omega)) d_MO_goesDown_8 (by decide) (fun c_8 => ?_) (fun c_8 => ?_)
      · refine lv_iload_n hx hb d_MO_goesDown_38 rfl (lv_at hl 1 rfl) ?_
        refine ix_if_lt (tgt := 52) hx hb (zI_toInt (z := y9) (by omega) (by omega)) d_MO_goesDown_39 (by decide) (fun c_39 => ?_) (fun c_39 => absurd c_39 (by omega))
        refine lv_iload_n hx hb d_MO_goesDown_52 rfl (lv_at hl 1 rfl) ?_
        refine ix_if_lt (tgt := 60) hx hb (zI_toInt (z := y9) (by omega) (by omega)) d_MO_goesDown_53 (by decide) (fun c_53 => ?_) (fun c_53 => absurd c_53 (by omega))
        refine lv_iconst (v := nI 0) hx hb d_MO_goesDown_60 (by decide +kernel) ?_
        exact W.zret (v := nI 0) (ty := .boolean) hx hb hr (by decide +kernel) (fun t ht hW => ⟨⟨nI 0, nx, rfl, ⟨0, rfl, Or.inl ⟨rfl, fun i hi => hI2 i (by omega) hi⟩⟩, by rw [ht]; exact hP, va_K.moved hW.alike hK, hD⟩, hS.F ht⟩) hS.2.2 d_MO_goesDown_61
      have hny := hI1 y9.toNat (by omega)
      have hn6y := hn6 y9.toNat (by omega)
      refine lv_aload_n hx hb d_MO_goesDown_11 rfl (lv_at hl 0 rfl) ?_
      refine va_get (D := (dC, dI)) (ci := 7) (v := .ref (z 3)) (C := R_MO) (T := F_MO) (N := 23) hx hb hts in_MO hown hK hP 0 rfl rfl 9 (by decide) (hts _ m_581) (fun _ h9 => h9) rfl d_MO_goesDown_12 ?_
      refine lv_iload_n hx hb d_MO_goesDown_15 rfl (lv_at hl 1 rfl) ?_
      refine lv_topr (show _ = nI y9.toNat from z_toN (by omega)) ?_
      refine ix_ialdN (i := y9.toNat) hx hb hK hP 2 0 rfl rfl (by omega) (by decide) d_MO_goesDown_16 ?_
      refine ix_if_ne (tgt := 38) hx hb (nI_tI (n := nx y9.toNat) (by omega)) d_MO_goesDown_17 (by decide) (fun c_17 => ?_) (fun c_17 => ?_)
      · refine lv_iload_n hx hb d_MO_goesDown_38 rfl (lv_at hl 1 rfl) ?_
        refine ix_if_lt (tgt := 52) hx hb (zI_toInt (z := y9) (by omega) (by omega)) d_MO_goesDown_39 (by decide) (fun c_39 => absurd c_39 (by omega)) (fun c_39 => ?_)
        refine lv_aload_n hx hb d_MO_goesDown_42 rfl (lv_at hl 0 rfl) ?_
        refine va_get (D := (dC, dI)) (ci := 7) (v := .ref (z 3)) (C := R_MO) (T := F_MO) (N := 23) hx hb hts in_MO hown hK hP 0 rfl rfl 9 (by decide) (hts _ m_581) (fun _ h9 => h9) rfl d_MO_goesDown_43 ?_
        refine lv_iload_n hx hb d_MO_goesDown_46 rfl (lv_at hl 1 rfl) ?_
        refine lv_topr (show _ = nI y9.toNat from z_toN (by omega)) ?_
        refine lv_dup2_11 hx hb d_MO_goesDown_47 rfl rfl ?_
        refine ix_ialdN (i := y9.toNat) hx hb hK hP 2 0 rfl rfl (by omega) (by decide) d_MO_goesDown_48 ?_
        refine lv_iconst (v := nI 1) hx hb d_MO_goesDown_49 (by decide +kernel) ?_
        refine lv_isub hx hb d_MO_goesDown_50 ?_
        refine lv_topr (show _ = nI ((nx y9.toNat) - 1) from nn_subN (by omega)) ?_
        refine ix_iast (i := y9.toNat) hx hb hK hP hD hS 2 0 rfl rfl (by omega) (by decide) d_MO_goesDown_51 (fun H locs hP hD hS => ?_)
        have hP : va_P (dC, dI) vwCl [(z 0, .inr (7, [.int (nI (g 0)), .int (nI (g 1)), .int (nI (g 2)), .int (nI (g 3)), .int (nI (g 4)), .int (nI (g 5)), .int (nI (g 6)), .ref (z 1), .ref (z 2), .ref (z 3), .ref (z 4), .int (nI (g 7)), .ref (z 5), .ref (z 6), .ref (z 7), .ref (z 8), .ref (z 9), .ref (z 10), .int (nI (g 8)), .ref (z 11), .ref (z 12), .ref (z 13), .ref (z 14)])), (z 2, .inl (cI, 5, .inl (aN wa))), (z 3, .inl (cI, 5, .inl (aN (up nx y9.toNat ((nx y9.toNat) - 1)))))] H := hP
        have hD : va_D A [(z 0, .inr (7, [.int (nI (g 0)), .int (nI (g 1)), .int (nI (g 2)), .int (nI (g 3)), .int (nI (g 4)), .int (nI (g 5)), .int (nI (g 6)), .ref (z 1), .ref (z 2), .ref (z 3), .ref (z 4), .int (nI (g 7)), .ref (z 5), .ref (z 6), .ref (z 7), .ref (z 8), .ref (z 9), .ref (z 10), .int (nI (g 8)), .ref (z 11), .ref (z 12), .ref (z 13), .ref (z 14)])), (z 2, .inl (cI, 5, .inl (aN wa))), (z 3, .inl (cI, 5, .inl (aN (up nx y9.toNat ((nx y9.toNat) - 1)))))] := hD
        refine lv_iload_n hx hb d_MO_goesDown_52 rfl (lv_at hl 1 rfl) ?_
        refine ix_if_lt (tgt := 60) hx hb (zI_toInt (z := y9) (by omega) (by omega)) d_MO_goesDown_53 (by decide) (fun c_53 => absurd c_53 (by omega)) (fun c_53 => ?_)
        refine lv_iconst (v := nI 1) hx hb d_MO_goesDown_56 (by decide +kernel) ?_
        refine lv_goto (tgt := 61) hx hb d_MO_goesDown_57 (by decide) ?_
        exact W.zret (v := nI 1) (ty := .boolean) hx hb hr (by decide +kernel) (fun t ht hW => ⟨⟨nI 1, (up nx y9.toNat ((nx y9.toNat) - 1)), rfl, ⟨1, rfl, Or.inr ⟨rfl, y9.toNat, by omega, by omega, fun i h1 h2 => hI2 i (by omega) h2, by rw [up_s]; omega, fun i hi => by rw [up_n _ _ (by omega)]; exact hI1 i (by omega), fun i h1 h2 => by rw [up_n _ _ (by omega)]; exact hI3 i (by omega) h2⟩⟩, by rw [ht]; exact hP, va_K.moved hW.alike hK, hD⟩, hS.F ht⟩) hS.2.2 d_MO_goesDown_61
      refine lv_aload_n hx hb d_MO_goesDown_20 rfl (lv_at hl 0 rfl) ?_
      refine va_get (D := (dC, dI)) (ci := 7) (v := .ref (z 3)) (C := R_MO) (T := F_MO) (N := 23) hx hb hts in_MO hown hK hP 0 rfl rfl 9 (by decide) (hts _ m_581) (fun _ h9 => h9) rfl d_MO_goesDown_21 ?_
      refine lv_iload_n hx hb d_MO_goesDown_24 rfl (lv_at hl 1 rfl) ?_
      refine lv_topr (show _ = nI y9.toNat from z_toN (by omega)) ?_
      refine lv_aload_n hx hb d_MO_goesDown_25 rfl (lv_at hl 0 rfl) ?_
      refine va_get (D := (dC, dI)) (ci := 7) (v := .ref (z 2)) (C := R_MO) (T := F_MO) (N := 23) hx hb hts in_MO hown hK hP 0 rfl rfl 8 (by decide) (hts _ m_580) (fun _ h9 => h9) rfl d_MO_goesDown_26 ?_
      refine lv_iload_n hx hb d_MO_goesDown_29 rfl (lv_at hl 1 rfl) ?_
      refine lv_topr (show _ = nI y9.toNat from z_toN (by omega)) ?_
      refine ix_ialdN (i := y9.toNat) hx hb hK hP 1 0 rfl rfl (by omega) (by decide) d_MO_goesDown_30 ?_
      refine ix_iast (i := y9.toNat) hx hb hK hP hD hS 2 0 rfl rfl (by omega) (by decide) d_MO_goesDown_31 (fun H locs hP hD hS => ?_)
      have hP : va_P (dC, dI) vwCl [(z 0, .inr (7, [.int (nI (g 0)), .int (nI (g 1)), .int (nI (g 2)), .int (nI (g 3)), .int (nI (g 4)), .int (nI (g 5)), .int (nI (g 6)), .ref (z 1), .ref (z 2), .ref (z 3), .ref (z 4), .int (nI (g 7)), .ref (z 5), .ref (z 6), .ref (z 7), .ref (z 8), .ref (z 9), .ref (z 10), .int (nI (g 8)), .ref (z 11), .ref (z 12), .ref (z 13), .ref (z 14)])), (z 2, .inl (cI, 5, .inl (aN wa))), (z 3, .inl (cI, 5, .inl (aN (up nx y9.toNat (wa y9.toNat)))))] H := hP
      have hD : va_D A [(z 0, .inr (7, [.int (nI (g 0)), .int (nI (g 1)), .int (nI (g 2)), .int (nI (g 3)), .int (nI (g 4)), .int (nI (g 5)), .int (nI (g 6)), .ref (z 1), .ref (z 2), .ref (z 3), .ref (z 4), .int (nI (g 7)), .ref (z 5), .ref (z 6), .ref (z 7), .ref (z 8), .ref (z 9), .ref (z 10), .int (nI (g 8)), .ref (z 11), .ref (z 12), .ref (z 13), .ref (z 14)])), (z 2, .inl (cI, 5, .inl (aN wa))), (z 3, .inl (cI, 5, .inl (aN (up nx y9.toNat (wa y9.toNat)))))] := hD
      refine lv_iinc (v := zI (y9 - 1)) (lv' := [(1, .int (zI (y9 - 1))), (0, .ref (z 0))]) hx hb d_MO_goesDown_32 hl (k := 1) rfl ((n_incZ y9 (-1))) (by decide) rfl (fun ls hl => ?_)
      refine lv_goto (tgt := 7) hx hb d_MO_goesDown_35 (by decide) ?_
      exact ih_lp (y9 - 1) (up nx y9.toNat (wa y9.toNat)) (by omega) (by omega) (by omega) (fun i hi => by rw [up_n _ _ (by omega)]; exact hI1 i (by omega)) (gd_2 hI2 (by omega) (by omega)) (gd_3 hI3 (by omega)) _ _ _ hP hD hS (lv_sub hl [1, 0] rfl)
  exact lp (g 6 + 1) ((g 6 : Int) - 1) nw (by omega) (by omega) (by omega) (fun _ _ => rfl) (fun i h1 h2 => by omega) (fun i h1 h2 => by omega) _ _ _ hP hD hS (lv_sub hl [1, 0] rfl)
