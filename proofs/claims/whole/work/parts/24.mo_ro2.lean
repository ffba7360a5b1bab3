set_option maxHeartbeats 4000000 in
set_option maxRecDepth 100000 in
/-- weightOf(s, k) -/
theorem c_MO_weightOf (l : Launch) (dC : Nat → ClassId) (dI : Nat → Nat → Nat) (z g : Nat → Nat) (cI : ClassId) (sw sk : Nat → Nat) (ww sf sl ss : Nat → Nat) (nu : Nat → Nat) (s9 k9 : Nat) (hs9s9 : s9 < 9) (hW9s9 : HW (fun w => ss (5 * s9 + w)) nu) (hb9s9 : ∀ w, w < 5 → ss (5 * s9 + w) ≤ 6) (hp9s9 : ∀ k, k < sumN (fun w => ss (5 * s9 + w)) 5 → Em ww nu (sf s9) (sl s9) k < 1000000) (hk9 : k9 < sumN (fun w => ss (5 * s9 + w)) 5) (h1 : 1 ≤ sw s9) (h2 : sw s9 < 2147483648) (h3 : sk s9 ≤ 50000) : Met l y_MO_weightOf w_MO_weightOf { frames := 3, cells := 0, slots := 0, locals := 70 } (ro_Pc (dC, dI) vwCl [(cI, .int)] [.ref (z 0), .int (nI s9), .int (nI k9)] [(z 0, .inr (7, [.int (nI (g 0)), .int (nI (g 1)), .int (nI (g 2)), .int (nI (g 3)), .int (nI (g 4)), .int (nI (g 5)), .int (nI (g 6)), .ref (z 1), .ref (z 2), .ref (z 3), .ref (z 4), .int (nI (g 7)), .ref (z 5), .ref (z 6), .ref (z 7), .ref (z 8), .ref (z 9), .ref (z 10), .int (nI (g 8)), .ref (z 11), .ref (z 12), .ref (z 13), .ref (z 14)])), (z 1, .inl (cI, 5, .inl (aN ww))), (z 5, .inl (cI, 9, .inl (aN sw))), (z 6, .inl (cI, 9, .inl (aN sk))), (z 8, .inl (cI, 9, .inl (aN sf))), (z 9, .inl (cI, 9, .inl (aN sl))), (z 10, .inl (cI, 45, .inl (aN ss)))]) (ro_Qi (fun r => r = nI (sk s9 * Em ww nu (sf s9) (sl s9) k9 / sw s9 - sk s9 * Bm ww nu (sf s9) (sl s9) k9 / sw s9))) 0 0 ro_no := by
  refine Met.ofW (cc := b_MO_weightOf) (maxL := 7) (ret := (some .int)) (by decide) rfl ?_
  intro p e s m args below meth c s₁ B hml hv
  obtain ⟨rfl, hP, hK⟩ := hv
  have hx := B.exec
  have hb := B.bytes
  have hr := B.returns
  have hts := gw_h (atoms_spec (ws := w_MO_weightOf) B.pre)
  have hown : s.vm.findClass R_MO = some m.cls := findClass_of_methodNamed B.named
  have hlocks := B.notSynchronized
  have hS : va_S ro_no s.heap s.heap [] := va_S.rf
  have hP : va_P (dC, dI) vwCl [(z 0, .inr (7, [.int (nI (g 0)), .int (nI (g 1)), .int (nI (g 2)), .int (nI (g 3)), .int (nI (g 4)), .int (nI (g 5)), .int (nI (g 6)), .ref (z 1), .ref (z 2), .ref (z 3), .ref (z 4), .int (nI (g 7)), .ref (z 5), .ref (z 6), .ref (z 7), .ref (z 8), .ref (z 9), .ref (z 10), .int (nI (g 8)), .ref (z 11), .ref (z 12), .ref (z 13), .ref (z 14)])), (z 1, .inl (cI, 5, .inl (aN ww))), (z 5, .inl (cI, 9, .inl (aN sw))), (z 6, .inl (cI, 9, .inl (aN sk))), (z 8, .inl (cI, 9, .inl (aN sf))), (z 9, .inl (cI, 9, .inl (aN sl))), (z 10, .inl (cI, 45, .inl (aN ss)))] s.heap := hP
  have hl := lv_entry ([.ref (z 0), .int (nI s9), .int (nI k9)]) (n := 7) (Nat.le_of_ble_eq_true rfl)
  rw [lg_entry_eq]
  generalize (lg_sl ([.ref (z 0), .int (nI s9), .int (nI k9)]) ++ List.replicate (7 - (lg_sl ([.ref (z 0), .int (nI s9), .int (nI k9)])).length) Slot.unset).toArray = ls at hl ⊢
  have hl : lv_has ls 7 [(0, .ref (z 0)), (1, .int (nI s9)), (2, .int (nI k9))] := hl
  have h30s9 : sumN (fun w => ss (5 * s9 + w)) 5 ≤ 30 := by have h0 := hb9s9 0 (by omega); have h1 := hb9s9 1 (by omega); have h2 := hb9s9 2 (by omega); have h3 := hb9s9 3 (by omega); have h4 := hb9s9 4 (by omega); simp only [sumN]; omega
  have hbbs9 : ∀ w, w < 5 → ss (5 * s9 + w) ≤ 1000 := fun w hw => Nat.le_trans (hb9s9 w hw) (by decide)
  have hE := hp9s9 k9 hk9
  have hBE : Bm ww nu (sf s9) (sl s9) k9 ≤ Em ww nu (sf s9) (sl s9) k9 := Nat.le_add_right _ _
  have hm1 : sk s9 * Em ww nu (sf s9) (sl s9) k9 ≤ 50000 * 1000000 := Nat.mul_le_mul h3 (by omega)
  have hm2 : sk s9 * Bm ww nu (sf s9) (sl s9) k9 ≤ 50000 * 1000000 := Nat.mul_le_mul h3 (by omega)
  refine lv_aload_n hx hb d_MO_weightOf_0 rfl (lv_at hl 0 rfl) ?_
  refine va_get (D := (dC, dI)) (ci := 7) (v := .ref (z 6)) (C := R_MO) (T := F_MO) (N := 23) hx hb hts in_MO hown hK hP 0 rfl rfl 13 (by decide) (hts _ m_585) (fun _ h9 => h9) rfl d_MO_weightOf_1 ?_
  refine lv_iload_n hx hb d_MO_weightOf_4 rfl (lv_at hl 1 rfl) ?_
  refine ix_ialdN (i := s9) hx hb hK hP 3 0 rfl rfl (by omega) (by decide) d_MO_weightOf_5 ?_
  refine lv_i2l (v := lN (sk s9)) hx hb d_MO_weightOf_6 (nI_l (by omega)) ?_
  refine lv_aload_n hx hb d_MO_weightOf_7 rfl (lv_at hl 0 rfl) ?_
  refine lv_iload_n hx hb d_MO_weightOf_8 rfl (lv_at hl 1 rfl) ?_
  refine lv_iload_n hx hb d_MO_weightOf_9 rfl (lv_at hl 2 rfl) ?_
  have hPc := hP.sub (ws' := [(z 0, .inr (7, [.int (nI (g 0)), .int (nI (g 1)), .int (nI (g 2)), .int (nI (g 3)), .int (nI (g 4)), .int (nI (g 5)), .int (nI (g 6)), .ref (z 1), .ref (z 2), .ref (z 3), .ref (z 4), .int (nI (g 7)), .ref (z 5), .ref (z 6), .ref (z 7), .ref (z 8), .ref (z 9), .ref (z 10), .int (nI (g 8)), .ref (z 11), .ref (z 12), .ref (z 13), .ref (z 14)])), (z 1, .inl (cI, 5, .inl (aN ww))), (z 8, .inl (cI, 9, .inl (aN sf))), (z 9, .inl (cI, 9, .inl (aN sl))), (z 10, .inl (cI, 45, .inl (aN ss)))]) [0, 1, 4, 5, 6] rfl
  refine ro_calli (va_runV (As := [.int (nI s9), .int (nI k9)]) (rest := [.long (lN (sk s9))]) ⟨hx, hb, hml, hown, hts⟩ (c_MO_endOf l dC dI z g cI ww sf sl ss nu s9 k9 hs9s9 hW9s9 (by omega) hbbs9 (by omega)) (cwV 2 hts (gw_V m_714 m_716 s_25 m_8 m_717) rfl rfl rfl (by decide +kernel) ⟨Nat.le_of_ble_eq_true rfl, Nat.le_of_ble_eq_true rfl⟩) ⟨ro_blind, va_recv hK hPc (ci := 7) (q0 := 0) rfl rfl, fun U hU hW => ⟨rfl, by rw [hU]; exact hPc, va_K.moved hW.alike hK⟩⟩ rfl rfl hl.1 rfl (lv_room (Nat.le_of_ble_eq_true rfl)) d_MO_weightOf_10 ⟨Nat.le_of_ble_eq_true rfl, Nat.le_of_ble_eq_true rfl⟩) hS hP (fun r H locs er hP hS => ?_)
  subst er
  refine lv_i2l (v := lN (Em ww nu (sf s9) (sl s9) k9)) hx hb d_MO_weightOf_13 (nI_l (by show Em ww nu (sf s9) (sl s9) k9 < 2 ^ 31; omega)) ?_
  refine lv_lmul hx hb d_MO_weightOf_14 ?_
  refine lv_toplr (show _ = lN ((sk s9) * (Em ww nu (sf s9) (sl s9) k9)) from lN_mul _ _) ?_
  refine lv_aload_n hx hb d_MO_weightOf_15 rfl (lv_at hl 0 rfl) ?_
  refine va_get (D := (dC, dI)) (ci := 7) (v := .ref (z 5)) (C := R_MO) (T := F_MO) (N := 23) hx hb hts in_MO hown hK hP 0 rfl rfl 12 (by decide) (hts _ m_584) (fun _ h9 => h9) rfl d_MO_weightOf_16 ?_
  refine lv_iload_n hx hb d_MO_weightOf_19 rfl (lv_at hl 1 rfl) ?_
  refine ix_ialdN (i := s9) hx hb hK hP 2 0 rfl rfl (by omega) (by decide) d_MO_weightOf_20 ?_
  refine lv_i2l (v := lN (sw s9)) hx hb d_MO_weightOf_21 (nI_l (by omega)) ?_
  refine ix_ldiv hx hb (x := (sk s9) * (Em ww nu (sf s9) (sl s9) k9)) (d := sw s9) (by omega) (by omega) (by omega) d_MO_weightOf_22 ?_
  refine lv_lstore_n (lv' := [(3, .long (lN (((sk s9) * (Em ww nu (sf s9) (sl s9) k9)) / (sw s9)))), (0, .ref (z 0)), (1, .int (nI s9)), (2, .int (nI k9))]) hx hb d_MO_weightOf_23 rfl hl (by decide) rfl (fun ls hl => ?_)
  refine lv_aload_n hx hb d_MO_weightOf_24 rfl (lv_at hl 1 rfl) ?_
  refine va_get (D := (dC, dI)) (ci := 7) (v := .ref (z 6)) (C := R_MO) (T := F_MO) (N := 23) hx hb hts in_MO hown hK hP 0 rfl rfl 13 (by decide) (hts _ m_585) (fun _ h9 => h9) rfl d_MO_weightOf_25 ?_
  refine lv_iload_n hx hb d_MO_weightOf_28 rfl (lv_at hl 2 rfl) ?_
  refine ix_ialdN (i := s9) hx hb hK hP 3 0 rfl rfl (by omega) (by decide) d_MO_weightOf_29 ?_
  refine lv_i2l (v := lN (sk s9)) hx hb d_MO_weightOf_30 (nI_l (by omega)) ?_
  refine lv_aload_n hx hb d_MO_weightOf_31 rfl (lv_at hl 1 rfl) ?_
  refine lv_iload_n hx hb d_MO_weightOf_32 rfl (lv_at hl 2 rfl) ?_
  refine lv_iload_n hx hb d_MO_weightOf_33 rfl (lv_at hl 3 rfl) ?_
  have hPc := hP.sub (ws' := [(z 0, .inr (7, [.int (nI (g 0)), .int (nI (g 1)), .int (nI (g 2)), .int (nI (g 3)), .int (nI (g 4)), .int (nI (g 5)), .int (nI (g 6)), .ref (z 1), .ref (z 2), .ref (z 3), .ref (z 4), .int (nI (g 7)), .ref (z 5), .ref (z 6), .ref (z 7), .ref (z 8), .ref (z 9), .ref (z 10), .int (nI (g 8)), .ref (z 11), .ref (z 12), .ref (z 13), .ref (z 14)])), (z 1, .inl (cI, 5, .inl (aN ww))), (z 8, .inl (cI, 9, .inl (aN sf))), (z 9, .inl (cI, 9, .inl (aN sl))), (z 10, .inl (cI, 45, .inl (aN ss)))]) [0, 1, 4, 5, 6] rfl
  refine ro_calli (va_runV (As := [.int (nI s9), .int (nI k9)]) (rest := [.long (lN (sk s9))]) ⟨hx, hb, hml, hown, hts⟩ (c_MO_beginOf l dC dI z g cI ww sf sl ss nu s9 k9 hs9s9 hW9s9 (by omega) hbbs9 (by omega)) (cwV 2 hts (gw_V m_710 m_712 s_24 m_8 m_713) rfl rfl rfl (by decide +kernel) ⟨Nat.le_of_ble_eq_true rfl, Nat.le_of_ble_eq_true rfl⟩) ⟨ro_blind, va_recv hK hPc (ci := 7) (q0 := 0) rfl rfl, fun U hU hW => ⟨rfl, by rw [hU]; exact hPc, va_K.moved hW.alike hK⟩⟩ rfl rfl hl.1 rfl (lv_room (Nat.le_of_ble_eq_true rfl)) d_MO_weightOf_34 ⟨Nat.le_of_ble_eq_true rfl, Nat.le_of_ble_eq_true rfl⟩) hS hP (fun r H locs er hP hS => ?_)
  subst er
  refine lv_i2l (v := lN (Bm ww nu (sf s9) (sl s9) k9)) hx hb d_MO_weightOf_37 (nI_l (by show Bm ww nu (sf s9) (sl s9) k9 < 2 ^ 31; omega)) ?_
  refine lv_lmul hx hb d_MO_weightOf_38 ?_
  refine lv_toplr (show _ = lN ((sk s9) * (Bm ww nu (sf s9) (sl s9) k9)) from lN_mul _ _) ?_
  refine lv_aload_n hx hb d_MO_weightOf_39 rfl (lv_at hl 1 rfl) ?_
  refine va_get (D := (dC, dI)) (ci := 7) (v := .ref (z 5)) (C := R_MO) (T := F_MO) (N := 23) hx hb hts in_MO hown hK hP 0 rfl rfl 12 (by decide) (hts _ m_584) (fun _ h9 => h9) rfl d_MO_weightOf_40 ?_
  refine lv_iload_n hx hb d_MO_weightOf_43 rfl (lv_at hl 2 rfl) ?_
  refine ix_ialdN (i := s9) hx hb hK hP 2 0 rfl rfl (by omega) (by decide) d_MO_weightOf_44 ?_
  refine lv_i2l (v := lN (sw s9)) hx hb d_MO_weightOf_45 (nI_l (by omega)) ?_
  refine ix_ldiv hx hb (x := (sk s9) * (Bm ww nu (sf s9) (sl s9) k9)) (d := sw s9) (by omega) (by omega) (by omega) d_MO_weightOf_46 ?_
  refine lv_lstore (lv' := [(5, .long (lN (((sk s9) * (Bm ww nu (sf s9) (sl s9) k9)) / (sw s9)))), (3, .long (lN (((sk s9) * (Em ww nu (sf s9) (sl s9) k9)) / (sw s9)))), (0, .ref (z 0)), (1, .int (nI s9)), (2, .int (nI k9))]) hx hb d_MO_weightOf_47 hl (by decide) rfl (fun ls hl => ?_)
  refine lv_lload_n hx hb d_MO_weightOf_49 rfl (lv_at hl 1 rfl) ?_
  refine lv_lload hx hb d_MO_weightOf_50 (lv_at hl 0 rfl) ?_
  refine lv_lsub hx hb d_MO_weightOf_52 ?_
  refine lv_toplr (show _ = lN ((((sk s9) * (Em ww nu (sf s9) (sl s9) k9)) / (sw s9)) - (((sk s9) * (Bm ww nu (sf s9) (sl s9) k9)) / (sw s9))) from lN_sub (by exact Nat.div_le_div_right (Nat.mul_le_mul_left _ hBE))) ?_
  refine lv_l2i (v := nI ((((sk s9) * (Em ww nu (sf s9) (sl s9) k9)) / (sw s9)) - (((sk s9) * (Bm ww nu (sf s9) (sl s9) k9)) / (sw s9)))) hx hb d_MO_weightOf_53 (lN_i _) ?_
  exact W.iret (v := nI ((((sk s9) * (Em ww nu (sf s9) (sl s9) k9)) / (sw s9)) - (((sk s9) * (Bm ww nu (sf s9) (sl s9) k9)) / (sw s9)))) hx hb hr (fun t ht hW => ⟨⟨nI ((((sk s9) * (Em ww nu (sf s9) (sl s9) k9)) / (sw s9)) - (((sk s9) * (Bm ww nu (sf s9) (sl s9) k9)) / (sw s9))), (), rfl, rfl, trivial⟩, hS.F ht⟩) hS.2.2 d_MO_weightOf_54
set_option maxHeartbeats 4000000 in
set_option maxRecDepth 100000 in
/-- hasKnife(s, place) -/
theorem c_MO_hasKnife (l : Launch) (dC : Nat → ClassId) (dI : Nat → Nat → Nat) (z g : Nat → Nat) (cI : ClassId) (ww sf sl ss : Nat → Nat) (nu : Nat → Nat) (s9 x9 : Nat) (hx9 : x9 < 2147483648) (hs9s9 : s9 < 9) (hW9s9 : HW (fun w => ss (5 * s9 + w)) nu) (hb9s9 : ∀ w, w < 5 → ss (5 * s9 + w) ≤ 6) (hp9s9 : ∀ k, k < sumN (fun w => ss (5 * s9 + w)) 5 → Em ww nu (sf s9) (sl s9) k < 1000000) : Met l y_MO_hasKnife w_MO_hasKnife { frames := 3, cells := 0, slots := 0, locals := 70 } (ro_Pc (dC, dI) vwCl [(cI, .int)] [.ref (z 0), .int (nI s9), .int (nI x9)] [(z 0, .inr (7, [.int (nI (g 0)), .int (nI (g 1)), .int (nI (g 2)), .int (nI (g 3)), .int (nI (g 4)), .int (nI (g 5)), .int (nI (g 6)), .ref (z 1), .ref (z 2), .ref (z 3), .ref (z 4), .int (nI (g 7)), .ref (z 5), .ref (z 6), .ref (z 7), .ref (z 8), .ref (z 9), .ref (z 10), .int (nI (g 8)), .ref (z 11), .ref (z 12), .ref (z 13), .ref (z 14)])), (z 1, .inl (cI, 5, .inl (aN ww))), (z 8, .inl (cI, 9, .inl (aN sf))), (z 9, .inl (cI, 9, .inl (aN sl))), (z 10, .inl (cI, 45, .inl (aN ss)))]) (ro_Qi (fun r => r = nI (b01 (hkB (Bm ww nu (sf s9) (sl s9)) (Em ww nu (sf s9) (sl s9)) x9 (sumN (fun w => ss (5 * s9 + w)) 5) = true)))) 0 0 ro_no := by
  refine Met.ofW (cc := b_MO_hasKnife) (maxL := 5) (ret := (some .boolean)) (by decide) rfl ?_
  intro p e s m args below meth c s₁ B hml hv
  obtain ⟨rfl, hP, hK⟩ := hv
  have hx := B.exec
  have hb := B.bytes
  have hr := B.returns
  have hts := gw_h (atoms_spec (ws := w_MO_hasKnife) B.pre)
  have hown : s.vm.findClass R_MO = some m.cls := findClass_of_methodNamed B.named
  have hlocks := B.notSynchronized
  have hS : va_S ro_no s.heap s.heap [] := va_S.rf
  have hP : va_P (dC, dI) vwCl [(z 0, .inr (7, [.int (nI (g 0)), .int (nI (g 1)), .int (nI (g 2)), .int (nI (g 3)), .int (nI (g 4)), .int (nI (g 5)), .int (nI (g 6)), .ref (z 1), .ref (z 2), .ref (z 3), .ref (z 4), .int (nI (g 7)), .ref (z 5), .ref (z 6), .ref (z 7), .ref (z 8), .ref (z 9), .ref (z 10), .int (nI (g 8)), .ref (z 11), .ref (z 12), .ref (z 13), .ref (z 14)])), (z 1, .inl (cI, 5, .inl (aN ww))), (z 8, .inl (cI, 9, .inl (aN sf))), (z 9, .inl (cI, 9, .inl (aN sl))), (z 10, .inl (cI, 45, .inl (aN ss)))] s.heap := hP
  have hl := lv_entry ([.ref (z 0), .int (nI s9), .int (nI x9)]) (n := 5) (Nat.le_of_ble_eq_true rfl)
  rw [lg_entry_eq]
  generalize (lg_sl ([.ref (z 0), .int (nI s9), .int (nI x9)]) ++ List.replicate (5 - (lg_sl ([.ref (z 0), .int (nI s9), .int (nI x9)])).length) Slot.unset).toArray = ls at hl ⊢
  have hl : lv_has ls 5 [(0, .ref (z 0)), (1, .int (nI s9)), (2, .int (nI x9))] := hl
  have h30s9 : sumN (fun w => ss (5 * s9 + w)) 5 ≤ 30 := by have h0 := hb9s9 0 (by omega); have h1 := hb9s9 1 (by omega); have h2 := hb9s9 2 (by omega); have h3 := hb9s9 3 (by omega); have h4 := hb9s9 4 (by omega); simp only [sumN]; omega
  have hbbs9 : ∀ w, w < 5 → ss (5 * s9 + w) ≤ 1000 := fun w hw => Nat.le_trans (hb9s9 w hw) (by decide)
  refine lv_iconst (v := nI 0) hx hb d_MO_hasKnife_0 (by decide +kernel) ?_
  refine lv_istore_n (lv' := [(3, .int (nI 0)), (0, .ref (z 0)), (1, .int (nI s9)), (2, .int (nI x9))]) hx hb d_MO_hasKnife_1 rfl hl (by decide) rfl (fun ls hl => ?_)
  refine lv_iconst (v := nI 0) hx hb d_MO_hasKnife_2 (by decide +kernel) ?_
  refine lv_istore (lv' := [(4, .int (nI 0)), (3, .int (nI 0)), (0, .ref (z 0)), (1, .int (nI s9)), (2, .int (nI x9))]) hx hb d_MO_hasKnife_3 hl (by decide) rfl (fun ls hl => ?_)
  have lp : ∀ (n_lp : Nat) (k9 : Nat) (v9 : Nat), (sumN (fun w => ss (5 * s9 + w)) 5 + 1 ≤ k9 + n_lp) → (k9 ≤ sumN (fun w => ss (5 * s9 + w)) 5) → (v9 ≤ 1) → (v9 = b01 (hkB (Bm ww nu (sf s9) (sl s9)) (Em ww nu (sf s9) (sl s9)) x9 k9 = true)) → ∀ (H : Heap) (locs : List Loc) (ls : Array Slot), va_P (dC, dI) vwCl [(z 0, .inr (7, [.int (nI (g 0)), .int (nI (g 1)), .int (nI (g 2)), .int (nI (g 3)), .int (nI (g 4)), .int (nI (g 5)), .int (nI (g 6)), .ref (z 1), .ref (z 2), .ref (z 3), .ref (z 4), .int (nI (g 7)), .ref (z 5), .ref (z 6), .ref (z 7), .ref (z 8), .ref (z 9), .ref (z 10), .int (nI (g 8)), .ref (z 11), .ref (z 12), .ref (z 13), .ref (z 14)])), (z 1, .inl (cI, 5, .inl (aN ww))), (z 8, .inl (cI, 9, .inl (aN sf))), (z 9, .inl (cI, 9, .inl (aN sl))), (z 10, .inl (cI, 45, .inl (aN ss)))] H → va_S ro_no s.heap H locs → lv_has ls 5 [(0, .ref (z 0)), (1, .int (nI s9)), (2, .int (nI x9)), (3, .int (nI v9)), (4, .int (nI k9))] → W p l e (headSpec w_MO_hasKnife { frames := 3, cells := 0, slots := 0, locals := 70 }).room s m [.ref (z 0), .int (nI s9), .int (nI x9)].toArray below meth c H locs 0 0 (MQ below (ro_Qi (fun r => r = nI (b01 (hkB (Bm ww nu (sf s9) (sl s9)) (Em ww nu (sf s9) (sl s9)) x9 (sumN (fun w => ss (5 * s9 + w)) 5) = true)))) [.ref (z 0), .int (nI s9), .int (nI x9)].toArray s 0 0 ro_no) (F0 m 5 ls []) := by
    intro n_lp
    induction n_lp with
    | zero =>
      intro k9 v9 hm hk hv1 hv
      exact absurd hm (by omega)
    | succ n_lp ih_lp =>
      intro k9 v9 hm hk hv1 hv H locs ls hP hS hl
      refine lv_iload hx hb d_MO_hasKnife_5 (lv_at hl 4 rfl) ?_
      refine lv_aload_n hx hb d_MO_hasKnife_7 rfl (lv_at hl 0 rfl) ?_
      refine lv_iload_n hx hb d_MO_hasKnife_8 rfl (lv_at hl 1 rfl) ?_
      have hPc := hP.sub (ws' := [(z 0, .inr (7, [.int (nI (g 0)), .int (nI (g 1)), .int (nI (g 2)), .int (nI (g 3)), .int (nI (g 4)), .int (nI (g 5)), .int (nI (g 6)), .ref (z 1), .ref (z 2), .ref (z 3), .ref (z 4), .int (nI (g 7)), .ref (z 5), .ref (z 6), .ref (z 7), .ref (z 8), .ref (z 9), .ref (z 10), .int (nI (g 8)), .ref (z 11), .ref (z 12), .ref (z 13), .ref (z 14)])), (z 10, .inl (cI, 45, .inl (aN ss)))]) [0, 4] rfl
      refine ro_calli (va_runV (As := [.int (nI s9)]) (rest := [.int (nI k9)]) ⟨hx, hb, hml, hown, hts⟩ (c_MO_many l dC dI z g cI ss s9 hs9s9) (cwV 1 hts (gw_V m_702 m_704 s_22 m_8 m_705) rfl rfl rfl (by decide +kernel) ⟨Nat.le_of_ble_eq_true rfl, Nat.le_of_ble_eq_true rfl⟩) ⟨ro_blind, va_recv hK hPc (ci := 7) (q0 := 0) rfl rfl, fun U hU hW => ⟨rfl, by rw [hU]; exact hPc, va_K.moved hW.alike hK⟩⟩ rfl rfl hl.1 rfl (lv_room (Nat.le_of_ble_eq_true rfl)) d_MO_hasKnife_9 ⟨Nat.le_of_ble_eq_true rfl, Nat.le_of_ble_eq_true rfl⟩) hS hP (fun r H locs er hP hS => ?_)
      subst er
      refine ix_icmp_ge (tgt := 53) hx hb (nI_tI (n := k9) (by omega)) (nI_tI (n := sumN (fun w => ss (5 * s9 + w)) 5) (by omega)) d_MO_hasKnife_12 (by decide) (fun c_12 => ?_) (fun c_12 => ?_)
      · refine lv_iload_n hx hb d_MO_hasKnife_53 rfl (lv_at hl 3 rfl) ?_
        rcases (show v9 = 0 ∨ v9 = 1 by omega) with h | h
        · rw [h]
          exact W.zret (v := nI 0) (ty := .boolean) hx hb hr (by decide +kernel) (fun t ht hW => ⟨⟨nI 0, (), rfl, by rw [← h, hv, show k9 = sumN (fun w => ss (5 * s9 + w)) 5 by omega], trivial⟩, hS.F ht⟩) hS.2.2 d_MO_hasKnife_54
        · rw [h]
          exact W.zret (v := nI 1) (ty := .boolean) hx hb hr (by decide +kernel) (fun t ht hW => ⟨⟨nI 1, (), rfl, by rw [← h, hv, show k9 = sumN (fun w => ss (5 * s9 + w)) 5 by omega], trivial⟩, hS.F ht⟩) hS.2.2 d_MO_hasKnife_54
      have hE := hp9s9 k9 (by omega)
      have hBE : Bm ww nu (sf s9) (sl s9) k9 ≤ Em ww nu (sf s9) (sl s9) k9 := Nat.le_add_right _ _
      refine lv_iload_n hx hb d_MO_hasKnife_15 rfl (lv_at hl 3 rfl) ?_
      refine ix_if_ne (tgt := 41) hx hb (nI_tI (n := v9) (by omega)) d_MO_hasKnife_16 (by decide) (fun c_16 => ?_) (fun c_16 => ?_)
      · refine lv_iconst (v := nI 1) hx hb d_MO_hasKnife_41 (by decide +kernel) ?_
        refine lv_goto (tgt := 46) hx hb d_MO_hasKnife_42 (by decide) ?_
        refine lv_istore_n (lv' := [(3, .int (nI 1)), (0, .ref (z 0)), (1, .int (nI s9)), (2, .int (nI x9)), (4, .int (nI k9))]) hx hb d_MO_hasKnife_46 rfl hl (by decide) rfl (fun ls hl => ?_)
        refine lv_iinc (v := nI (k9 + 1)) (lv' := [(4, .int (nI (k9 + 1))), (3, .int (nI 1)), (0, .ref (z 0)), (1, .int (nI s9)), (2, .int (nI x9))]) hx hb d_MO_hasKnife_47 hl (k := 4) rfl (n_incN k9 1) (by decide) rfl (fun ls hl => ?_)
        refine lv_goto (tgt := 5) hx hb d_MO_hasKnife_50 (by decide) ?_
        exact ih_lp (k9 + 1) 1 (by omega) (by omega) (by omega) (hkB_S hv _ (by omega) (by omega)) _ _ _ hP hS (lv_sub hl [2, 3, 4, 1, 0] rfl)
      refine lv_aload_n hx hb d_MO_hasKnife_19 rfl (lv_at hl 0 rfl) ?_
      refine lv_iload_n hx hb d_MO_hasKnife_20 rfl (lv_at hl 1 rfl) ?_
      refine lv_iload hx hb d_MO_hasKnife_21 (lv_at hl 4 rfl) ?_
      have hPc := hP.sub (ws' := [(z 0, .inr (7, [.int (nI (g 0)), .int (nI (g 1)), .int (nI (g 2)), .int (nI (g 3)), .int (nI (g 4)), .int (nI (g 5)), .int (nI (g 6)), .ref (z 1), .ref (z 2), .ref (z 3), .ref (z 4), .int (nI (g 7)), .ref (z 5), .ref (z 6), .ref (z 7), .ref (z 8), .ref (z 9), .ref (z 10), .int (nI (g 8)), .ref (z 11), .ref (z 12), .ref (z 13), .ref (z 14)])), (z 1, .inl (cI, 5, .inl (aN ww))), (z 8, .inl (cI, 9, .inl (aN sf))), (z 9, .inl (cI, 9, .inl (aN sl))), (z 10, .inl (cI, 45, .inl (aN ss)))]) [0, 1, 2, 3, 4] rfl
      refine ro_calli (va_runV (As := [.int (nI s9), .int (nI k9)]) (rest := []) ⟨hx, hb, hml, hown, hts⟩ (c_MO_beginOf l dC dI z g cI ww sf sl ss nu s9 k9 hs9s9 hW9s9 (by omega) hbbs9 (by omega)) (cwV 2 hts (gw_V m_710 m_712 s_24 m_8 m_713) rfl rfl rfl (by decide +kernel) ⟨Nat.le_of_ble_eq_true rfl, Nat.le_of_ble_eq_true rfl⟩) ⟨ro_blind, va_recv hK hPc (ci := 7) (q0 := 0) rfl rfl, fun U hU hW => ⟨rfl, by rw [hU]; exact hPc, va_K.moved hW.alike hK⟩⟩ rfl rfl hl.1 rfl (lv_room (Nat.le_of_ble_eq_true rfl)) d_MO_hasKnife_23 ⟨Nat.le_of_ble_eq_true rfl, Nat.le_of_ble_eq_true rfl⟩) hS hP (fun r H locs er hP hS => ?_)
      subst er
      refine lv_iload_n hx hb d_MO_hasKnife_26 rfl (lv_at hl 2 rfl) ?_
      refine ix_icmp_eq (tgt := 41) hx hb (nI_tI (n := Bm ww nu (sf s9) (sl s9) k9) (by omega)) (nI_tI (n := x9) (by omega)) d_MO_hasKnife_27 (by decide) (fun c_27 => ?_) (fun c_27 => ?_)
      · refine lv_iconst (v := nI 1) hx hb d_MO_hasKnife_41 (by decide +kernel) ?_
        refine lv_goto (tgt := 46) hx hb d_MO_hasKnife_42 (by decide) ?_
        refine lv_istore_n (lv' := [(3, .int (nI 1)), (0, .ref (z 0)), (1, .int (nI s9)), (2, .int (nI x9)), (4, .int (nI k9))]) hx hb d_MO_hasKnife_46 rfl hl (by decide) rfl (fun ls hl => ?_)
        refine lv_iinc (v := nI (k9 + 1)) (lv' := [(4, .int (nI (k9 + 1))), (3, .int (nI 1)), (0, .ref (z 0)), (1, .int (nI s9)), (2, .int (nI x9))]) hx hb d_MO_hasKnife_47 hl (k := 4) rfl (n_incN k9 1) (by decide) rfl (fun ls hl => ?_)
        refine lv_goto (tgt := 5) hx hb d_MO_hasKnife_50 (by decide) ?_
        exact ih_lp (k9 + 1) 1 (by omega) (by omega) (by omega) (hkB_S hv _ (by omega) (by omega)) _ _ _ hP hS (lv_sub hl [2, 3, 4, 1, 0] rfl)
      refine lv_aload_n hx hb d_MO_hasKnife_30 rfl (lv_at hl 0 rfl) ?_
      refine lv_iload_n hx hb d_MO_hasKnife_31 rfl (lv_at hl 1 rfl) ?_
      refine lv_iload hx hb d_MO_hasKnife_32 (lv_at hl 4 rfl) ?_
      have hPc := hP.sub (ws' := [(z 0, .inr (7, [.int (nI (g 0)), .int (nI (g 1)), .int (nI (g 2)), .int (nI (g 3)), .int (nI (g 4)), .int (nI (g 5)), .int (nI (g 6)), .ref (z 1), .ref (z 2), .ref (z 3), .ref (z 4), .int (nI (g 7)), .ref (z 5), .ref (z 6), .ref (z 7), .ref (z 8), .ref (z 9), .ref (z 10), .int (nI (g 8)), .ref (z 11), .ref (z 12), .ref (z 13), .ref (z 14)])), (z 1, .inl (cI, 5, .inl (aN ww))), (z 8, .inl (cI, 9, .inl (aN sf))), (z 9, .inl (cI, 9, .inl (aN sl))), (z 10, .inl (cI, 45, .inl (aN ss)))]) [0, 1, 2, 3, 4] rfl
      refine ro_calli (va_runV (As := [.int (nI s9), .int (nI k9)]) (rest := []) ⟨hx, hb, hml, hown, hts⟩ (c_MO_endOf l dC dI z g cI ww sf sl ss nu s9 k9 hs9s9 hW9s9 (by omega) hbbs9 (by omega)) (cwV 2 hts (gw_V m_714 m_716 s_25 m_8 m_717) rfl rfl rfl (by decide +kernel) ⟨Nat.le_of_ble_eq_true rfl, Nat.le_of_ble_eq_true rfl⟩) ⟨ro_blind, va_recv hK hPc (ci := 7) (q0 := 0) rfl rfl, fun U hU hW => ⟨rfl, by rw [hU]; exact hPc, va_K.moved hW.alike hK⟩⟩ rfl rfl hl.1 rfl (lv_room (Nat.le_of_ble_eq_true rfl)) d_MO_hasKnife_34 ⟨Nat.le_of_ble_eq_true rfl, Nat.le_of_ble_eq_true rfl⟩) hS hP (fun r H locs er hP hS => ?_)
      subst er
      refine lv_iload_n hx hb d_MO_hasKnife_37 rfl (lv_at hl 2 rfl) ?_
      refine ix_icmp_ne (tgt := 45) hx hb (nI_tI (n := Em ww nu (sf s9) (sl s9) k9) (by omega)) (nI_tI (n := x9) (by omega)) d_MO_hasKnife_38 (by decide) (fun c_38 => ?_) (fun c_38 => ?_)
      · refine lv_iconst (v := nI 0) hx hb d_MO_hasKnife_45 (by decide +kernel) ?_
        refine lv_istore_n (lv' := [(3, .int (nI 0)), (0, .ref (z 0)), (1, .int (nI s9)), (2, .int (nI x9)), (4, .int (nI k9))]) hx hb d_MO_hasKnife_46 rfl hl (by decide) rfl (fun ls hl => ?_)
        refine lv_iinc (v := nI (k9 + 1)) (lv' := [(4, .int (nI (k9 + 1))), (3, .int (nI 0)), (0, .ref (z 0)), (1, .int (nI s9)), (2, .int (nI x9))]) hx hb d_MO_hasKnife_47 hl (k := 4) rfl (n_incN k9 1) (by decide) rfl (fun ls hl => ?_)
        refine lv_goto (tgt := 5) hx hb d_MO_hasKnife_50 (by decide) ?_
        exact ih_lp (k9 + 1) 0 (by omega) (by omega) (by omega) (hkB_S hv _ (by omega) (by omega)) _ _ _ hP hS (lv_sub hl [2, 3, 4, 1, 0] rfl)
      refine lv_iconst (v := nI 1) hx hb d_MO_hasKnife_41 (by decide +kernel) ?_
      refine lv_goto (tgt := 46) hx hb d_MO_hasKnife_42 (by decide) ?_
      refine lv_istore_n (lv' := [(3, .int (nI 1)), (0, .ref (z 0)), (1, .int (nI s9)), (2, .int (nI x9)), (4, .int (nI k9))]) hx hb d_MO_hasKnife_46 rfl hl (by decide) rfl (fun ls hl => ?_)
      refine lv_iinc (v := nI (k9 + 1)) (lv' := [(4, .int (nI (k9 + 1))), (3, .int (nI 1)), (0, .ref (z 0)), (1, .int (nI s9)), (2, .int (nI x9))]) hx hb d_MO_hasKnife_47 hl (k := 4) rfl (n_incN k9 1) (by decide) rfl (fun ls hl => ?_)
      refine lv_goto (tgt := 5) hx hb d_MO_hasKnife_50 (by decide) ?_
      exact ih_lp (k9 + 1) 1 (by omega) (by omega) (by omega) (hkB_S hv _ (by omega) (by omega)) _ _ _ hP hS (lv_sub hl [2, 3, 4, 1, 0] rfl)
  exact lp (sumN (fun w => ss (5 * s9 + w)) 5 + 1) 0 0 (by omega) (by omega) (by omega) rfl _ _ _ hP hS (lv_sub hl [2, 3, 4, 1, 0] rfl)
set_option maxHeartbeats 4000000 in
set_option maxRecDepth 100000 in
/-- movesFrom(from, to) -/
theorem c_MO_movesFrom (l : Launch) (dC : Nat → ClassId) (dI : Nat → Nat → Nat) (z g : Nat → Nat) (cI : ClassId) (ww sf sl ss : Nat → Nat) (nuF nuT : Nat → Nat) (f9 t9 : Nat) (hs9f9 : f9 < 9) (hW9f9 : HW (fun w => ss (5 * f9 + w)) nuF) (hb9f9 : ∀ w, w < 5 → ss (5 * f9 + w) ≤ 6) (hp9f9 : ∀ k, k < sumN (fun w => ss (5 * f9 + w)) 5 → Em ww nuF (sf f9) (sl f9) k < 1000000) (hs9t9 : t9 < 9) (hW9t9 : HW (fun w => ss (5 * t9 + w)) nuT) (hb9t9 : ∀ w, w < 5 → ss (5 * t9 + w) ≤ 6) (hp9t9 : ∀ k, k < sumN (fun w => ss (5 * t9 + w)) 5 → Em ww nuT (sf t9) (sl t9) k < 1000000) : Met l y_MO_movesFrom w_MO_movesFrom { frames := 4, cells := 0, slots := 0, locals := 94 } (ro_Pc (dC, dI) vwCl [(cI, .int)] [.ref (z 0), .int (nI f9), .int (nI t9)] [(z 0, .inr (7, [.int (nI (g 0)), .int (nI (g 1)), .int (nI (g 2)), .int (nI (g 3)), .int (nI (g 4)), .int (nI (g 5)), .int (nI (g 6)), .ref (z 1), .ref (z 2), .ref (z 3), .ref (z 4), .int (nI (g 7)), .ref (z 5), .ref (z 6), .ref (z 7), .ref (z 8), .ref (z 9), .ref (z 10), .int (nI (g 8)), .ref (z 11), .ref (z 12), .ref (z 13), .ref (z 14)])), (z 1, .inl (cI, 5, .inl (aN ww))), (z 8, .inl (cI, 9, .inl (aN sf))), (z 9, .inl (cI, 9, .inl (aN sl))), (z 10, .inl (cI, 45, .inl (aN ss)))]) (ro_Qi (fun r => r = nI (mvF (Bm ww nuT (sf t9) (sl t9)) (Em ww nuT (sf t9) (sl t9)) (fun x => hkB (Bm ww nuF (sf f9) (sl f9)) (Em ww nuF (sf f9) (sl f9)) x (sumN (fun w => ss (5 * f9 + w)) 5)) (sumN (fun w => ss (5 * t9 + w)) 5)))) 0 0 ro_no := by
  refine Met.ofW (cc := b_MO_movesFrom) (maxL := 6) (ret := (some .int)) (by decide) rfl ?_
  intro p e s m args below meth c s₁ B hml hv
  obtain ⟨rfl, hP, hK⟩ := hv
  have hx := B.exec
  have hb := B.bytes
  have hr := B.returns
  have hts := gw_h (atoms_spec (ws := w_MO_movesFrom) B.pre)
  have hown : s.vm.findClass R_MO = some m.cls := findClass_of_methodNamed B.named
  have hlocks := B.notSynchronized
  have hS : va_S ro_no s.heap s.heap [] := va_S.rf
  have hP : va_P (dC, dI) vwCl [(z 0, .inr (7, [.int (nI (g 0)), .int (nI (g 1)), .int (nI (g 2)), .int (nI (g 3)), .int (nI (g 4)), .int (nI (g 5)), .int (nI (g 6)), .ref (z 1), .ref (z 2), .ref (z 3), .ref (z 4), .int (nI (g 7)), .ref (z 5), .ref (z 6), .ref (z 7), .ref (z 8), .ref (z 9), .ref (z 10), .int (nI (g 8)), .ref (z 11), .ref (z 12), .ref (z 13), .ref (z 14)])), (z 1, .inl (cI, 5, .inl (aN ww))), (z 8, .inl (cI, 9, .inl (aN sf))), (z 9, .inl (cI, 9, .inl (aN sl))), (z 10, .inl (cI, 45, .inl (aN ss)))] s.heap := hP
  have hl := lv_entry ([.ref (z 0), .int (nI f9), .int (nI t9)]) (n := 6) (Nat.le_of_ble_eq_true rfl)
  rw [lg_entry_eq]
  generalize (lg_sl ([.ref (z 0), .int (nI f9), .int (nI t9)]) ++ List.replicate (6 - (lg_sl ([.ref (z 0), .int (nI f9), .int (nI t9)])).length) Slot.unset).toArray = ls at hl ⊢
  have hl : lv_has ls 6 [(0, .ref (z 0)), (1, .int (nI f9)), (2, .int (nI t9))] := hl
  have h30f9 : sumN (fun w => ss (5 * f9 + w)) 5 ≤ 30 := by have h0 := hb9f9 0 (by omega); have h1 := hb9f9 1 (by omega); have h2 := hb9f9 2 (by omega); have h3 := hb9f9 3 (by omega); have h4 := hb9f9 4 (by omega); simp only [sumN]; omega
  have hbbf9 : ∀ w, w < 5 → ss (5 * f9 + w) ≤ 1000 := fun w hw => Nat.le_trans (hb9f9 w hw) (by decide)
  have h30t9 : sumN (fun w => ss (5 * t9 + w)) 5 ≤ 30 := by have h0 := hb9t9 0 (by omega); have h1 := hb9t9 1 (by omega); have h2 := hb9t9 2 (by omega); have h3 := hb9t9 3 (by omega); have h4 := hb9t9 4 (by omega); simp only [sumN]; omega
  have hbbt9 : ∀ w, w < 5 → ss (5 * t9 + w) ≤ 1000 := fun w hw => Nat.le_trans (hb9t9 w hw) (by decide)
  refine lv_iconst (v := nI 0) hx hb d_MO_movesFrom_0 (by decide +kernel) ?_
  refine lv_istore_n (lv' := [(3, .int (nI 0)), (0, .ref (z 0)), (1, .int (nI f9)), (2, .int (nI t9))]) hx hb d_MO_movesFrom_1 rfl hl (by decide) rfl (fun ls hl => ?_)
  refine lv_iconst (v := nI 0) hx hb d_MO_movesFrom_2 (by decide +kernel) ?_
  refine lv_istore (lv' := [(4, .int (nI 0)), (3, .int (nI 0)), (0, .ref (z 0)), (1, .int (nI f9)), (2, .int (nI t9))]) hx hb d_MO_movesFrom_3 hl (by decide) rfl (fun ls hl => ?_)
  have lp : ∀ (n_lp : Nat) (k9 : Nat) (n9 : Nat), (sumN (fun w => ss (5 * t9 + w)) 5 + 1 ≤ k9 + n_lp) → (k9 ≤ sumN (fun w => ss (5 * t9 + w)) 5) → (n9 = mvF (Bm ww nuT (sf t9) (sl t9)) (Em ww nuT (sf t9) (sl t9)) (fun x => hkB (Bm ww nuF (sf f9) (sl f9)) (Em ww nuF (sf f9) (sl f9)) x (sumN (fun w => ss (5 * f9 + w)) 5)) k9) → ∀ (H : Heap) (locs : List Loc) (ls : Array Slot), va_P (dC, dI) vwCl [(z 0, .inr (7, [.int (nI (g 0)), .int (nI (g 1)), .int (nI (g 2)), .int (nI (g 3)), .int (nI (g 4)), .int (nI (g 5)), .int (nI (g 6)), .ref (z 1), .ref (z 2), .ref (z 3), .ref (z 4), .int (nI (g 7)), .ref (z 5), .ref (z 6), .ref (z 7), .ref (z 8), .ref (z 9), .ref (z 10), .int (nI (g 8)), .ref (z 11), .ref (z 12), .ref (z 13), .ref (z 14)])), (z 1, .inl (cI, 5, .inl (aN ww))), (z 8, .inl (cI, 9, .inl (aN sf))), (z 9, .inl (cI, 9, .inl (aN sl))), (z 10, .inl (cI, 45, .inl (aN ss)))] H → va_S ro_no s.heap H locs → lv_has ls 6 [(0, .ref (z 0)), (1, .int (nI f9)), (2, .int (nI t9)), (3, .int (nI n9)), (4, .int (nI k9))] → W p l e (headSpec w_MO_movesFrom { frames := 4, cells := 0, slots := 0, locals := 94 }).room s m [.ref (z 0), .int (nI f9), .int (nI t9)].toArray below meth c H locs 0 0 (MQ below (ro_Qi (fun r => r = nI (mvF (Bm ww nuT (sf t9) (sl t9)) (Em ww nuT (sf t9) (sl t9)) (fun x => hkB (Bm ww nuF (sf f9) (sl f9)) (Em ww nuF (sf f9) (sl f9)) x (sumN (fun w => ss (5 * f9 + w)) 5)) (sumN (fun w => ss (5 * t9 + w)) 5)))) [.ref (z 0), .int (nI f9), .int (nI t9)].toArray s 0 0 ro_no) (F0 m 5 ls []) := by
    intro n_lp
    induction n_lp with
    | zero =>
      intro k9 n9 hm hk hn
      exact absurd hm (by omega)
    | succ n_lp ih_lp =>
      intro k9 n9 hm hk hn H locs ls hP hS hl
      refine lv_iload hx hb d_MO_movesFrom_5 (lv_at hl 4 rfl) ?_
      refine lv_aload_n hx hb d_MO_movesFrom_7 rfl (lv_at hl 0 rfl) ?_
      refine lv_iload_n hx hb d_MO_movesFrom_8 rfl (lv_at hl 2 rfl) ?_
      have hPc := hP.sub (ws' := [(z 0, .inr (7, [.int (nI (g 0)), .int (nI (g 1)), .int (nI (g 2)), .int (nI (g 3)), .int (nI (g 4)), .int (nI (g 5)), .int (nI (g 6)), .ref (z 1), .ref (z 2), .ref (z 3), .ref (z 4), .int (nI (g 7)), .ref (z 5), .ref (z 6), .ref (z 7), .ref (z 8), .ref (z 9), .ref (z 10), .int (nI (g 8)), .ref (z 11), .ref (z 12), .ref (z 13), .ref (z 14)])), (z 10, .inl (cI, 45, .inl (aN ss)))]) [0, 4] rfl
      refine ro_calli (va_runV (As := [.int (nI t9)]) (rest := [.int (nI k9)]) ⟨hx, hb, hml, hown, hts⟩ (c_MO_many l dC dI z g cI ss t9 hs9t9) (cwV 1 hts (gw_V m_702 m_704 s_22 m_8 m_705) rfl rfl rfl (by decide +kernel) ⟨Nat.le_of_ble_eq_true rfl, Nat.le_of_ble_eq_true rfl⟩) ⟨ro_blind, va_recv hK hPc (ci := 7) (q0 := 0) rfl rfl, fun U hU hW => ⟨rfl, by rw [hU]; exact hPc, va_K.moved hW.alike hK⟩⟩ rfl rfl hl.1 rfl (lv_room (Nat.le_of_ble_eq_true rfl)) d_MO_movesFrom_9 ⟨Nat.le_of_ble_eq_true rfl, Nat.le_of_ble_eq_true rfl⟩) hS hP (fun r H locs er hP hS => ?_)
      subst er
      refine ix_icmp_ge (tgt := 103) hx hb (nI_tI (n := k9) (by omega)) (nI_tI (n := sumN (fun w => ss (5 * t9 + w)) 5) (by omega)) d_MO_movesFrom_12 (by decide) (fun c_12 => ?_) (fun c_12 => ?_)
      · refine lv_iload_n hx hb d_MO_movesFrom_103 rfl (lv_at hl 3 rfl) ?_
        exact W.iret (v := nI n9) hx hb hr (fun t ht hW => ⟨⟨nI n9, (), rfl, by rw [hn, show k9 = sumN (fun w => ss (5 * t9 + w)) 5 by omega], trivial⟩, hS.F ht⟩) hS.2.2 d_MO_movesFrom_104
      have hE := hp9t9 k9 (by omega)
      have hBE : Bm ww nuT (sf t9) (sl t9) k9 ≤ Em ww nuT (sf t9) (sl t9) k9 := Nat.le_add_right _ _
      have hjo := @joiB_iff (Bm ww nuT (sf t9) (sl t9)) (Em ww nuT (sf t9) (sl t9)) k9
      unfold joi at hjo
      refine lv_iload hx hb d_MO_movesFrom_15 (lv_at hl 4 rfl) ?_
      refine ix_if_le (tgt := 43) hx hb (nI_tI (n := k9) (by omega)) d_MO_movesFrom_17 (by decide) (fun c_17 => ?_) (fun c_17 => ?_)
      · refine lv_iconst (v := nI 0) hx hb d_MO_movesFrom_43 (by decide +kernel) ?_
        refine lv_istore (lv' := [(5, .int (nI 0)), (0, .ref (z 0)), (1, .int (nI f9)), (2, .int (nI t9)), (3, .int (nI n9)), (4, .int (nI k9))]) hx hb d_MO_movesFrom_44 hl (by decide) rfl (fun ls hl => ?_)
        refine lv_iload_n hx hb d_MO_movesFrom_46 rfl (lv_at hl 4 rfl) ?_
        refine lv_iload hx hb d_MO_movesFrom_47 (lv_at hl 0 rfl) ?_
        have hj9 : joiB (Bm ww nuT (sf t9) (sl t9)) (Em ww nuT (sf t9) (sl t9)) k9 = false := by rw [← Bool.not_eq_true]; exact fun q => by have := hjo.mp q; omega
        refine ix_if_ne (tgt := 67) hx hb (nI_tI (n := 0) (by omega)) d_MO_movesFrom_49 (by decide) (fun c_49 => absurd c_49 (by omega)) (fun c_49 => ?_)
        refine lv_aload_n hx hb d_MO_movesFrom_52 rfl (lv_at hl 1 rfl) ?_
        refine lv_iload_n hx hb d_MO_movesFrom_53 rfl (lv_at hl 2 rfl) ?_
        refine lv_aload_n hx hb d_MO_movesFrom_54 rfl (lv_at hl 1 rfl) ?_
        refine lv_iload_n hx hb d_MO_movesFrom_55 rfl (lv_at hl 3 rfl) ?_
        refine lv_iload hx hb d_MO_movesFrom_56 (lv_at hl 5 rfl) ?_
        have hPc := hP.sub (ws' := [(z 0, .inr (7, [.int (nI (g 0)), .int (nI (g 1)), .int (nI (g 2)), .int (nI (g 3)), .int (nI (g 4)), .int (nI (g 5)), .int (nI (g 6)), .ref (z 1), .ref (z 2), .ref (z 3), .ref (z 4), .int (nI (g 7)), .ref (z 5), .ref (z 6), .ref (z 7), .ref (z 8), .ref (z 9), .ref (z 10), .int (nI (g 8)), .ref (z 11), .ref (z 12), .ref (z 13), .ref (z 14)])), (z 1, .inl (cI, 5, .inl (aN ww))), (z 8, .inl (cI, 9, .inl (aN sf))), (z 9, .inl (cI, 9, .inl (aN sl))), (z 10, .inl (cI, 45, .inl (aN ss)))]) [0, 1, 2, 3, 4] rfl
        refine ro_calli (va_runV (As := [.int (nI t9), .int (nI k9)]) (rest := [.int (nI f9), .ref (z 0), .int (nI n9)]) ⟨hx, hb, hml, hown, hts⟩ (c_MO_beginOf l dC dI z g cI ww sf sl ss nuT t9 k9 hs9t9 hW9t9 (by omega) hbbt9 (by omega)) (cwV 2 hts (gw_V m_710 m_712 s_24 m_8 m_713) rfl rfl rfl (by decide +kernel) ⟨Nat.le_of_ble_eq_true rfl, Nat.le_of_ble_eq_true rfl⟩) ⟨ro_blind, va_recv hK hPc (ci := 7) (q0 := 0) rfl rfl, fun U hU hW => ⟨rfl, by rw [hU]; exact hPc, va_K.moved hW.alike hK⟩⟩ rfl rfl hl.1 rfl (lv_room (Nat.le_of_ble_eq_true rfl)) d_MO_movesFrom_58 ⟨Nat.le_of_ble_eq_true rfl, Nat.le_of_ble_eq_true rfl⟩) hS hP (fun r H locs er hP hS => ?_)
        subst er
        have hPc := hP.sub (ws' := [(z 0, .inr (7, [.int (nI (g 0)), .int (nI (g 1)), .int (nI (g 2)), .int (nI (g 3)), .int (nI (g 4)), .int (nI (g 5)), .int (nI (g 6)), .ref (z 1), .ref (z 2), .ref (z 3), .ref (z 4), .int (nI (g 7)), .ref (z 5), .ref (z 6), .ref (z 7), .ref (z 8), .ref (z 9), .ref (z 10), .int (nI (g 8)), .ref (z 11), .ref (z 12), .ref (z 13), .ref (z 14)])), (z 1, .inl (cI, 5, .inl (aN ww))), (z 8, .inl (cI, 9, .inl (aN sf))), (z 9, .inl (cI, 9, .inl (aN sl))), (z 10, .inl (cI, 45, .inl (aN ss)))]) [0, 1, 2, 3, 4] rfl
        refine ro_calli (va_runV (As := [.int (nI f9), .int (nI (Bm ww nuT (sf t9) (sl t9) k9))]) (rest := [.int (nI n9)]) ⟨hx, hb, hml, hown, hts⟩ (c_MO_hasKnife l dC dI z g cI ww sf sl ss nuF f9 (Bm ww nuT (sf t9) (sl t9) k9) (by omega) hs9f9 hW9f9 hb9f9 hp9f9) (cwV 2 hts (gw_V m_734 m_736 s_28 m_8 m_737) rfl rfl rfl (by decide +kernel) ⟨Nat.le_of_ble_eq_true rfl, Nat.le_of_ble_eq_true rfl⟩) ⟨ro_blind, va_recv hK hPc (ci := 7) (q0 := 0) rfl rfl, fun U hU hW => ⟨rfl, by rw [hU]; exact hPc, va_K.moved hW.alike hK⟩⟩ rfl rfl hl.1 rfl (lv_room (Nat.le_of_ble_eq_true rfl)) d_MO_movesFrom_61 ⟨Nat.le_of_ble_eq_true rfl, Nat.le_of_ble_eq_true rfl⟩) hS hP (fun r H locs er hP hS => ?_)
        subst er
        have hb161 := @b01_1 ((fun x => hkB (Bm ww nuF (sf f9) (sl f9)) (Em ww nuF (sf f9) (sl f9)) x (sumN (fun w => ss (5 * f9 + w)) 5)) (Bm ww nuT (sf t9) (sl t9) k9) = true) _
        have hb061 := @b01_le ((fun x => hkB (Bm ww nuF (sf f9) (sl f9)) (Em ww nuF (sf f9) (sl f9)) x (sumN (fun w => ss (5 * f9 + w)) 5)) (Bm ww nuT (sf t9) (sl t9) k9) = true) _
        refine ix_if_eq (tgt := 71) hx hb (nI_tI (n := b01 ((fun x => hkB (Bm ww nuF (sf f9) (sl f9)) (Em ww nuF (sf f9) (sl f9)) x (sumN (fun w => ss (5 * f9 + w)) 5)) (Bm ww nuT (sf t9) (sl t9) k9) = true)) (by omega)) d_MO_movesFrom_64 (by decide) (fun c_64 => ?_) (fun c_64 => ?_)
        · refine lv_iconst (v := nI 1) hx hb d_MO_movesFrom_71 (by decide +kernel) ?_
          refine lv_iadd hx hb d_MO_movesFrom_72 ?_
          refine lv_topr (show _ = nI (n9 + 1) from nn_add _ _) ?_
          refine lv_istore_n (lv' := [(3, .int (nI (n9 + 1))), (5, .int (nI 0)), (0, .ref (z 0)), (1, .int (nI f9)), (2, .int (nI t9)), (4, .int (nI k9))]) hx hb d_MO_movesFrom_73 rfl hl (by decide) rfl (fun ls hl => ?_)
          refine lv_iload_n hx hb d_MO_movesFrom_74 rfl (lv_at hl 0 rfl) ?_
          refine lv_aload_n hx hb d_MO_movesFrom_75 rfl (lv_at hl 2 rfl) ?_
          refine lv_iload_n hx hb d_MO_movesFrom_76 rfl (lv_at hl 3 rfl) ?_
          refine lv_aload_n hx hb d_MO_movesFrom_77 rfl (lv_at hl 2 rfl) ?_
          refine lv_iload_n hx hb d_MO_movesFrom_78 rfl (lv_at hl 4 rfl) ?_
          refine lv_iload hx hb d_MO_movesFrom_79 (lv_at hl 5 rfl) ?_
          have hPc := hP.sub (ws' := [(z 0, .inr (7, [.int (nI (g 0)), .int (nI (g 1)), .int (nI (g 2)), .int (nI (g 3)), .int (nI (g 4)), .int (nI (g 5)), .int (nI (g 6)), .ref (z 1), .ref (z 2), .ref (z 3), .ref (z 4), .int (nI (g 7)), .ref (z 5), .ref (z 6), .ref (z 7), .ref (z 8), .ref (z 9), .ref (z 10), .int (nI (g 8)), .ref (z 11), .ref (z 12), .ref (z 13), .ref (z 14)])), (z 1, .inl (cI, 5, .inl (aN ww))), (z 8, .inl (cI, 9, .inl (aN sf))), (z 9, .inl (cI, 9, .inl (aN sl))), (z 10, .inl (cI, 45, .inl (aN ss)))]) [0, 1, 2, 3, 4] rfl
          refine ro_calli (va_runV (As := [.int (nI t9), .int (nI k9)]) (rest := [.int (nI f9), .ref (z 0), .int (nI (n9 + 1))]) ⟨hx, hb, hml, hown, hts⟩ (c_MO_endOf l dC dI z g cI ww sf sl ss nuT t9 k9 hs9t9 hW9t9 (by omega) hbbt9 (by omega)) (cwV 2 hts (gw_V m_714 m_716 s_25 m_8 m_717) rfl rfl rfl (by decide +kernel) ⟨Nat.le_of_ble_eq_true rfl, Nat.le_of_ble_eq_true rfl⟩) ⟨ro_blind, va_recv hK hPc (ci := 7) (q0 := 0) rfl rfl, fun U hU hW => ⟨rfl, by rw [hU]; exact hPc, va_K.moved hW.alike hK⟩⟩ rfl rfl hl.1 rfl (lv_room (Nat.le_of_ble_eq_true rfl)) d_MO_movesFrom_81 ⟨Nat.le_of_ble_eq_true rfl, Nat.le_of_ble_eq_true rfl⟩) hS hP (fun r H locs er hP hS => ?_)
          subst er
          have hPc := hP.sub (ws' := [(z 0, .inr (7, [.int (nI (g 0)), .int (nI (g 1)), .int (nI (g 2)), .int (nI (g 3)), .int (nI (g 4)), .int (nI (g 5)), .int (nI (g 6)), .ref (z 1), .ref (z 2), .ref (z 3), .ref (z 4), .int (nI (g 7)), .ref (z 5), .ref (z 6), .ref (z 7), .ref (z 8), .ref (z 9), .ref (z 10), .int (nI (g 8)), .ref (z 11), .ref (z 12), .ref (z 13), .ref (z 14)])), (z 1, .inl (cI, 5, .inl (aN ww))), (z 8, .inl (cI, 9, .inl (aN sf))), (z 9, .inl (cI, 9, .inl (aN sl))), (z 10, .inl (cI, 45, .inl (aN ss)))]) [0, 1, 2, 3, 4] rfl
          refine ro_calli (va_runV (As := [.int (nI f9), .int (nI (Em ww nuT (sf t9) (sl t9) k9))]) (rest := [.int (nI (n9 + 1))]) ⟨hx, hb, hml, hown, hts⟩ (c_MO_hasKnife l dC dI z g cI ww sf sl ss nuF f9 (Em ww nuT (sf t9) (sl t9) k9) (by omega) hs9f9 hW9f9 hb9f9 hp9f9) (cwV 2 hts (gw_V m_734 m_736 s_28 m_8 m_737) rfl rfl rfl (by decide +kernel) ⟨Nat.le_of_ble_eq_true rfl, Nat.le_of_ble_eq_true rfl⟩) ⟨ro_blind, va_recv hK hPc (ci := 7) (q0 := 0) rfl rfl, fun U hU hW => ⟨rfl, by rw [hU]; exact hPc, va_K.moved hW.alike hK⟩⟩ rfl rfl hl.1 rfl (lv_room (Nat.le_of_ble_eq_true rfl)) d_MO_movesFrom_84 ⟨Nat.le_of_ble_eq_true rfl, Nat.le_of_ble_eq_true rfl⟩) hS hP (fun r H locs er hP hS => ?_)
          subst er
          have hb184 := @b01_1 ((fun x => hkB (Bm ww nuF (sf f9) (sl f9)) (Em ww nuF (sf f9) (sl f9)) x (sumN (fun w => ss (5 * f9 + w)) 5)) (Em ww nuT (sf t9) (sl t9) k9) = true) _
          have hb084 := @b01_le ((fun x => hkB (Bm ww nuF (sf f9) (sl f9)) (Em ww nuF (sf f9) (sl f9)) x (sumN (fun w => ss (5 * f9 + w)) 5)) (Em ww nuT (sf t9) (sl t9) k9) = true) _
          refine ix_if_eq (tgt := 94) hx hb (nI_tI (n := b01 ((fun x => hkB (Bm ww nuF (sf f9) (sl f9)) (Em ww nuF (sf f9) (sl f9)) x (sumN (fun w => ss (5 * f9 + w)) 5)) (Em ww nuT (sf t9) (sl t9) k9) = true)) (by omega)) d_MO_movesFrom_87 (by decide) (fun c_87 => ?_) (fun c_87 => ?_)
          · refine lv_iconst (v := nI 1) hx hb d_MO_movesFrom_94 (by decide +kernel) ?_
            refine lv_iadd hx hb d_MO_movesFrom_95 ?_
            refine lv_topr (show _ = nI ((n9 + 1) + 1) from nn_add _ _) ?_
            refine lv_istore_n (lv' := [(3, .int (nI ((n9 + 1) + 1))), (5, .int (nI 0)), (0, .ref (z 0)), (1, .int (nI f9)), (2, .int (nI t9)), (4, .int (nI k9))]) hx hb d_MO_movesFrom_96 rfl hl (by decide) rfl (fun ls hl => ?_)
            refine lv_iinc (v := nI (k9 + 1)) (lv' := [(4, .int (nI (k9 + 1))), (3, .int (nI ((n9 + 1) + 1))), (5, .int (nI 0)), (0, .ref (z 0)), (1, .int (nI f9)), (2, .int (nI t9))]) hx hb d_MO_movesFrom_97 hl (k := 5) rfl (n_incN k9 1) (by decide) rfl (fun ls hl => ?_)
            refine lv_goto (tgt := 5) hx hb d_MO_movesFrom_100 (by decide) ?_
            exact ih_lp (k9 + 1) ((n9 + 1) + 1) (by omega) (by omega) (mvF_S hn (by rw [if_neg (fun q => q.elim (fun q => by rw [hj9] at q; exact Bool.noConfusion q) (fun q => by have := hb161.mpr q; omega))]) (by rw [if_neg (fun q => by have := hb184.mpr q; omega)])) _ _ _ hP hS (lv_sub hl [3, 4, 5, 1, 0] rfl)
          refine lv_iconst (v := nI 0) hx hb d_MO_movesFrom_90 (by decide +kernel) ?_
          refine lv_goto (tgt := 95) hx hb d_MO_movesFrom_91 (by decide) ?_
          refine lv_iadd hx hb d_MO_movesFrom_95 ?_
          refine lv_topr (show _ = nI ((n9 + 1) + 0) from nn_add _ _) ?_
          refine lv_istore_n (lv' := [(3, .int (nI ((n9 + 1) + 0))), (5, .int (nI 0)), (0, .ref (z 0)), (1, .int (nI f9)), (2, .int (nI t9)), (4, .int (nI k9))]) hx hb d_MO_movesFrom_96 rfl hl (by decide) rfl (fun ls hl => ?_)
          refine lv_iinc (v := nI (k9 + 1)) (lv' := [(4, .int (nI (k9 + 1))), (3, .int (nI ((n9 + 1) + 0))), (5, .int (nI 0)), (0, .ref (z 0)), (1, .int (nI f9)), (2, .int (nI t9))]) hx hb d_MO_movesFrom_97 hl (k := 5) rfl (n_incN k9 1) (by decide) rfl (fun ls hl => ?_)
          refine lv_goto (tgt := 5) hx hb d_MO_movesFrom_100 (by decide) ?_
          exact ih_lp (k9 + 1) ((n9 + 1) + 0) (by omega) (by omega) (mvF_S hn (by rw [if_neg (fun q => q.elim (fun q => by rw [hj9] at q; exact Bool.noConfusion q) (fun q => by have := hb161.mpr q; omega))]) (by rw [if_pos (hb184.mp (by omega))])) _ _ _ hP hS (lv_sub hl [3, 4, 5, 1, 0] rfl)
        refine lv_iconst (v := nI 0) hx hb d_MO_movesFrom_67 (by decide +kernel) ?_
        refine lv_goto (tgt := 72) hx hb d_MO_movesFrom_68 (by decide) ?_
        refine lv_iadd hx hb d_MO_movesFrom_72 ?_
        refine lv_topr (show _ = nI (n9 + 0) from nn_add _ _) ?_
        refine lv_istore_n (lv' := [(3, .int (nI (n9 + 0))), (5, .int (nI 0)), (0, .ref (z 0)), (1, .int (nI f9)), (2, .int (nI t9)), (4, .int (nI k9))]) hx hb d_MO_movesFrom_73 rfl hl (by decide) rfl (fun ls hl => ?_)
        refine lv_iload_n hx hb d_MO_movesFrom_74 rfl (lv_at hl 0 rfl) ?_
        refine lv_aload_n hx hb d_MO_movesFrom_75 rfl (lv_at hl 2 rfl) ?_
        refine lv_iload_n hx hb d_MO_movesFrom_76 rfl (lv_at hl 3 rfl) ?_
        refine lv_aload_n hx hb d_MO_movesFrom_77 rfl (lv_at hl 2 rfl) ?_
        refine lv_iload_n hx hb d_MO_movesFrom_78 rfl (lv_at hl 4 rfl) ?_
        refine lv_iload hx hb d_MO_movesFrom_79 (lv_at hl 5 rfl) ?_
        have hPc := hP.sub (ws' := [(z 0, .inr (7, [.int (nI (g 0)), .int (nI (g 1)), .int (nI (g 2)), .int (nI (g 3)), .int (nI (g 4)), .int (nI (g 5)), .int (nI (g 6)), .ref (z 1), .ref (z 2), .ref (z 3), .ref (z 4), .int (nI (g 7)), .ref (z 5), .ref (z 6), .ref (z 7), .ref (z 8), .ref (z 9), .ref (z 10), .int (nI (g 8)), .ref (z 11), .ref (z 12), .ref (z 13), .ref (z 14)])), (z 1, .inl (cI, 5, .inl (aN ww))), (z 8, .inl (cI, 9, .inl (aN sf))), (z 9, .inl (cI, 9, .inl (aN sl))), (z 10, .inl (cI, 45, .inl (aN ss)))]) [0, 1, 2, 3, 4] rfl
        refine ro_calli (va_runV (As := [.int (nI t9), .int (nI k9)]) (rest := [.int (nI f9), .ref (z 0), .int (nI (n9 + 0))]) ⟨hx, hb, hml, hown, hts⟩ (c_MO_endOf l dC dI z g cI ww sf sl ss nuT t9 k9 hs9t9 hW9t9 (by omega) hbbt9 (by omega)) (cwV 2 hts (gw_V m_714 m_716 s_25 m_8 m_717) rfl rfl rfl (by decide +kernel) ⟨Nat.le_of_ble_eq_true rfl, Nat.le_of_ble_eq_true rfl⟩) ⟨ro_blind, va_recv hK hPc (ci := 7) (q0 := 0) rfl rfl, fun U hU hW => ⟨rfl, by rw [hU]; exact hPc, va_K.moved hW.alike hK⟩⟩ rfl rfl hl.1 rfl (lv_room (Nat.le_of_ble_eq_true rfl)) d_MO_movesFrom_81 ⟨Nat.le_of_ble_eq_true rfl, Nat.le_of_ble_eq_true rfl⟩) hS hP (fun r H locs er hP hS => ?_)
        subst er
        have hPc := hP.sub (ws' := [(z 0, .inr (7, [.int (nI (g 0)), .int (nI (g 1)), .int (nI (g 2)), .int (nI (g 3)), .int (nI (g 4)), .int (nI (g 5)), .int (nI (g 6)), .ref (z 1), .ref (z 2), .ref (z 3), .ref (z 4), .int (nI (g 7)), .ref (z 5), .ref (z 6), .ref (z 7), .ref (z 8), .ref (z 9), .ref (z 10), .int (nI (g 8)), .ref (z 11), .ref (z 12), .ref (z 13), .ref (z 14)])), (z 1, .inl (cI, 5, .inl (aN ww))), (z 8, .inl (cI, 9, .inl (aN sf))), (z 9, .inl (cI, 9, .inl (aN sl))), (z 10, .inl (cI, 45, .inl (aN ss)))]) [0, 1, 2, 3, 4] rfl
        refine ro_calli (va_runV (As := [.int (nI f9), .int (nI (Em ww nuT (sf t9) (sl t9) k9))]) (rest := [.int (nI (n9 + 0))]) ⟨hx, hb, hml, hown, hts⟩ (c_MO_hasKnife l dC dI z g cI ww sf sl ss nuF f9 (Em ww nuT (sf t9) (sl t9) k9) (by omega) hs9f9 hW9f9 hb9f9 hp9f9) (cwV 2 hts (gw_V m_734 m_736 s_28 m_8 m_737) rfl rfl rfl (by decide +kernel) ⟨Nat.le_of_ble_eq_true rfl, Nat.le_of_ble_eq_true rfl⟩) ⟨ro_blind, va_recv hK hPc (ci := 7) (q0 := 0) rfl rfl, fun U hU hW => ⟨rfl, by rw [hU]; exact hPc, va_K.moved hW.alike hK⟩⟩ rfl rfl hl.1 rfl (lv_room (Nat.le_of_ble_eq_true rfl)) d_MO_movesFrom_84 ⟨Nat.le_of_ble_eq_true rfl, Nat.le_of_ble_eq_true rfl⟩) hS hP (fun r H locs er hP hS => ?_)
        subst er
        have hb184 := @b01_1 ((fun x => hkB (Bm ww nuF (sf f9) (sl f9)) (Em ww nuF (sf f9) (sl f9)) x (sumN (fun w => ss (5 * f9 + w)) 5)) (Em ww nuT (sf t9) (sl t9) k9) = true) _
        have hb084 := @b01_le ((fun x => hkB (Bm ww nuF (sf f9) (sl f9)) (Em ww nuF (sf f9) (sl f9)) x (sumN (fun w => ss (5 * f9 + w)) 5)) (Em ww nuT (sf t9) (sl t9) k9) = true) _
        refine ix_if_eq (tgt := 94) hx hb (nI_tI (n := b01 ((fun x => hkB (Bm ww nuF (sf f9) (sl f9)) (Em ww nuF (sf f9) (sl f9)) x (sumN (fun w => ss (5 * f9 + w)) 5)) (Em ww nuT (sf t9) (sl t9) k9) = true)) (by omega)) d_MO_movesFrom_87 (by decide) (fun c_87 => ?_) (fun c_87 => ?_)
        · refine lv_iconst (v := nI 1) hx hb d_MO_movesFrom_94 (by decide +kernel) ?_
          refine lv_iadd hx hb d_MO_movesFrom_95 ?_
          refine lv_topr (show _ = nI ((n9 + 0) + 1) from nn_add _ _) ?_
          refine lv_istore_n (lv' := [(3, .int (nI ((n9 + 0) + 1))), (5, .int (nI 0)), (0, .ref (z 0)), (1, .int (nI f9)), (2, .int (nI t9)), (4, .int (nI k9))]) hx hb d_MO_movesFrom_96 rfl hl (by decide) rfl (fun ls hl => ?_)
          refine lv_iinc (v := nI (k9 + 1)) (lv' := [(4, .int (nI (k9 + 1))), (3, .int (nI ((n9 + 0) + 1))), (5, .int (nI 0)), (0, .ref (z 0)), (1, .int (nI f9)), (2, .int (nI t9))]) hx hb d_MO_movesFrom_97 hl (k := 5) rfl (n_incN k9 1) (by decide) rfl (fun ls hl => ?_)
          refine lv_goto (tgt := 5) hx hb d_MO_movesFrom_100 (by decide) ?_
          exact ih_lp (k9 + 1) ((n9 + 0) + 1) (by omega) (by omega) (mvF_S hn (by rw [if_pos (Or.inr (hb161.mp (by omega)))]) (by rw [if_neg (fun q => by have := hb184.mpr q; omega)])) _ _ _ hP hS (lv_sub hl [3, 4, 5, 1, 0] rfl)
        refine lv_iconst (v := nI 0) hx hb d_MO_movesFrom_90 (by decide +kernel) ?_
        refine lv_goto (tgt := 95) hx hb d_MO_movesFrom_91 (by decide) ?_
        refine lv_iadd hx hb d_MO_movesFrom_95 ?_
        refine lv_topr (show _ = nI ((n9 + 0) + 0) from nn_add _ _) ?_
        refine lv_istore_n (lv' := [(3, .int (nI ((n9 + 0) + 0))), (5, .int (nI 0)), (0, .ref (z 0)), (1, .int (nI f9)), (2, .int (nI t9)), (4, .int (nI k9))]) hx hb d_MO_movesFrom_96 rfl hl (by decide) rfl (fun ls hl => ?_)
        refine lv_iinc (v := nI (k9 + 1)) (lv' := [(4, .int (nI (k9 + 1))), (3, .int (nI ((n9 + 0) + 0))), (5, .int (nI 0)), (0, .ref (z 0)), (1, .int (nI f9)), (2, .int (nI t9))]) hx hb d_MO_movesFrom_97 hl (k := 5) rfl (n_incN k9 1) (by decide) rfl (fun ls hl => ?_)
        refine lv_goto (tgt := 5) hx hb d_MO_movesFrom_100 (by decide) ?_
        exact ih_lp (k9 + 1) ((n9 + 0) + 0) (by omega) (by omega) (mvF_S hn (by rw [if_pos (Or.inr (hb161.mp (by omega)))]) (by rw [if_pos (hb184.mp (by omega))])) _ _ _ hP hS (lv_sub hl [3, 4, 5, 1, 0] rfl)
      have hE1 := hp9t9 (k9 - 1) (by omega)
      refine lv_aload_n hx hb d_MO_movesFrom_20 rfl (lv_at hl 0 rfl) ?_
      refine lv_iload_n hx hb d_MO_movesFrom_21 rfl (lv_at hl 2 rfl) ?_
      refine lv_iload hx hb d_MO_movesFrom_22 (lv_at hl 4 rfl) ?_
      refine lv_iconst (v := nI 1) hx hb d_MO_movesFrom_24 (by decide +kernel) ?_
      refine lv_isub hx hb d_MO_movesFrom_25 ?_
      refine lv_topr (show _ = nI (k9 - 1) from nn_subN (by omega)) ?_
      have hPc := hP.sub (ws' := [(z 0, .inr (7, [.int (nI (g 0)), .int (nI (g 1)), .int (nI (g 2)), .int (nI (g 3)), .int (nI (g 4)), .int (nI (g 5)), .int (nI (g 6)), .ref (z 1), .ref (z 2), .ref (z 3), .ref (z 4), .int (nI (g 7)), .ref (z 5), .ref (z 6), .ref (z 7), .ref (z 8), .ref (z 9), .ref (z 10), .int (nI (g 8)), .ref (z 11), .ref (z 12), .ref (z 13), .ref (z 14)])), (z 1, .inl (cI, 5, .inl (aN ww))), (z 8, .inl (cI, 9, .inl (aN sf))), (z 9, .inl (cI, 9, .inl (aN sl))), (z 10, .inl (cI, 45, .inl (aN ss)))]) [0, 1, 2, 3, 4] rfl
      refine ro_calli (va_runV (As := [.int (nI t9), .int (nI (k9 - 1))]) (rest := []) ⟨hx, hb, hml, hown, hts⟩ (c_MO_endOf l dC dI z g cI ww sf sl ss nuT t9 (k9 - 1) hs9t9 hW9t9 (by omega) hbbt9 (by omega)) (cwV 2 hts (gw_V m_714 m_716 s_25 m_8 m_717) rfl rfl rfl (by decide +kernel) ⟨Nat.le_of_ble_eq_true rfl, Nat.le_of_ble_eq_true rfl⟩) ⟨ro_blind, va_recv hK hPc (ci := 7) (q0 := 0) rfl rfl, fun U hU hW => ⟨rfl, by rw [hU]; exact hPc, va_K.moved hW.alike hK⟩⟩ rfl rfl hl.1 rfl (lv_room (Nat.le_of_ble_eq_true rfl)) d_MO_movesFrom_26 ⟨Nat.le_of_ble_eq_true rfl, Nat.le_of_ble_eq_true rfl⟩) hS hP (fun r H locs er hP hS => ?_)
      subst er
      refine lv_aload_n hx hb d_MO_movesFrom_29 rfl (lv_at hl 0 rfl) ?_
      refine lv_iload_n hx hb d_MO_movesFrom_30 rfl (lv_at hl 2 rfl) ?_
      refine lv_iload hx hb d_MO_movesFrom_31 (lv_at hl 4 rfl) ?_
      have hPc := hP.sub (ws' := [(z 0, .inr (7, [.int (nI (g 0)), .int (nI (g 1)), .int (nI (g 2)), .int (nI (g 3)), .int (nI (g 4)), .int (nI (g 5)), .int (nI (g 6)), .ref (z 1), .ref (z 2), .ref (z 3), .ref (z 4), .int (nI (g 7)), .ref (z 5), .ref (z 6), .ref (z 7), .ref (z 8), .ref (z 9), .ref (z 10), .int (nI (g 8)), .ref (z 11), .ref (z 12), .ref (z 13), .ref (z 14)])), (z 1, .inl (cI, 5, .inl (aN ww))), (z 8, .inl (cI, 9, .inl (aN sf))), (z 9, .inl (cI, 9, .inl (aN sl))), (z 10, .inl (cI, 45, .inl (aN ss)))]) [0, 1, 2, 3, 4] rfl
      refine ro_calli (va_runV (As := [.int (nI t9), .int (nI k9)]) (rest := [.int (nI (Em ww nuT (sf t9) (sl t9) (k9 - 1)))]) ⟨hx, hb, hml, hown, hts⟩ (c_MO_beginOf l dC dI z g cI ww sf sl ss nuT t9 k9 hs9t9 hW9t9 (by omega) hbbt9 (by omega)) (cwV 2 hts (gw_V m_710 m_712 s_24 m_8 m_713) rfl rfl rfl (by decide +kernel) ⟨Nat.le_of_ble_eq_true rfl, Nat.le_of_ble_eq_true rfl⟩) ⟨ro_blind, va_recv hK hPc (ci := 7) (q0 := 0) rfl rfl, fun U hU hW => ⟨rfl, by rw [hU]; exact hPc, va_K.moved hW.alike hK⟩⟩ rfl rfl hl.1 rfl (lv_room (Nat.le_of_ble_eq_true rfl)) d_MO_movesFrom_33 ⟨Nat.le_of_ble_eq_true rfl, Nat.le_of_ble_eq_true rfl⟩) hS hP (fun r H locs er hP hS => ?_)
      subst er
      refine ix_icmp_ne (tgt := 43) hx hb (nI_tI (n := Em ww nuT (sf t9) (sl t9) (k9 - 1)) (by omega)) (nI_tI (n := Bm ww nuT (sf t9) (sl t9) k9) (by omega)) d_MO_movesFrom_36 (by decide) (fun c_36 => ?_) (fun c_36 => ?_)
      · refine lv_iconst (v := nI 0) hx hb d_MO_movesFrom_43 (by decide +kernel) ?_
        refine lv_istore (lv' := [(5, .int (nI 0)), (0, .ref (z 0)), (1, .int (nI f9)), (2, .int (nI t9)), (3, .int (nI n9)), (4, .int (nI k9))]) hx hb d_MO_movesFrom_44 hl (by decide) rfl (fun ls hl => ?_)
        refine lv_iload_n hx hb d_MO_movesFrom_46 rfl (lv_at hl 4 rfl) ?_
        refine lv_iload hx hb d_MO_movesFrom_47 (lv_at hl 0 rfl) ?_
        have hj9 : joiB (Bm ww nuT (sf t9) (sl t9)) (Em ww nuT (sf t9) (sl t9)) k9 = false := by rw [← Bool.not_eq_true]; exact fun q => by have := hjo.mp q; omega
        refine ix_if_ne (tgt := 67) hx hb (nI_tI (n := 0) (by omega)) d_MO_movesFrom_49 (by decide) (fun c_49 => absurd c_49 (by omega)) (fun c_49 => ?_)
        refine lv_aload_n hx hb d_MO_movesFrom_52 rfl (lv_at hl 1 rfl) ?_
        refine lv_iload_n hx hb d_MO_movesFrom_53 rfl (lv_at hl 2 rfl) ?_
        refine lv_aload_n hx hb d_MO_movesFrom_54 rfl (lv_at hl 1 rfl) ?_
        refine lv_iload_n hx hb d_MO_movesFrom_55 rfl (lv_at hl 3 rfl) ?_
        refine lv_iload hx hb d_MO_movesFrom_56 (lv_at hl 5 rfl) ?_
        have hPc := hP.sub (ws' := [(z 0, .inr (7, [.int (nI (g 0)), .int (nI (g 1)), .int (nI (g 2)), .int (nI (g 3)), .int (nI (g 4)), .int (nI (g 5)), .int (nI (g 6)), .ref (z 1), .ref (z 2), .ref (z 3), .ref (z 4), .int (nI (g 7)), .ref (z 5), .ref (z 6), .ref (z 7), .ref (z 8), .ref (z 9), .ref (z 10), .int (nI (g 8)), .ref (z 11), .ref (z 12), .ref (z 13), .ref (z 14)])), (z 1, .inl (cI, 5, .inl (aN ww))), (z 8, .inl (cI, 9, .inl (aN sf))), (z 9, .inl (cI, 9, .inl (aN sl))), (z 10, .inl (cI, 45, .inl (aN ss)))]) [0, 1, 2, 3, 4] rfl
        refine ro_calli (va_runV (As := [.int (nI t9), .int (nI k9)]) (rest := [.int (nI f9), .ref (z 0), .int (nI n9)]) ⟨hx, hb, hml, hown, hts⟩ (c_MO_beginOf l dC dI z g cI ww sf sl ss nuT t9 k9 hs9t9 hW9t9 (by omega) hbbt9 (by omega)) (cwV 2 hts (gw_V m_710 m_712 s_24 m_8 m_713) rfl rfl rfl (by decide +kernel) ⟨Nat.le_of_ble_eq_true rfl, Nat.le_of_ble_eq_true rfl⟩) ⟨ro_blind, va_recv hK hPc (ci := 7) (q0 := 0) rfl rfl, fun U hU hW => ⟨rfl, by rw [hU]; exact hPc, va_K.moved hW.alike hK⟩⟩ rfl rfl hl.1 rfl (lv_room (Nat.le_of_ble_eq_true rfl)) d_MO_movesFrom_58 ⟨Nat.le_of_ble_eq_true rfl, Nat.le_of_ble_eq_true rfl⟩) hS hP (fun r H locs er hP hS => ?_)
        subst er
        have hPc := hP.sub (ws' := [(z 0, .inr (7, [.int (nI (g 0)), .int (nI (g 1)), .int (nI (g 2)), .int (nI (g 3)), .int (nI (g 4)), .int (nI (g 5)), .int (nI (g 6)), .ref (z 1), .ref (z 2), .ref (z 3), .ref (z 4), .int (nI (g 7)), .ref (z 5), .ref (z 6), .ref (z 7), .ref (z 8), .ref (z 9), .ref (z 10), .int (nI (g 8)), .ref (z 11), .ref (z 12), .ref (z 13), .ref (z 14)])), (z 1, .inl (cI, 5, .inl (aN ww))), (z 8, .inl (cI, 9, .inl (aN sf))), (z 9, .inl (cI, 9, .inl (aN sl))), (z 10, .inl (cI, 45, .inl (aN ss)))]) [0, 1, 2, 3, 4] rfl
        refine ro_calli (va_runV (As := [.int (nI f9), .int (nI (Bm ww nuT (sf t9) (sl t9) k9))]) (rest := [.int (nI n9)]) ⟨hx, hb, hml, hown, hts⟩ (c_MO_hasKnife l dC dI z g cI ww sf sl ss nuF f9 (Bm ww nuT (sf t9) (sl t9) k9) (by omega) hs9f9 hW9f9 hb9f9 hp9f9) (cwV 2 hts (gw_V m_734 m_736 s_28 m_8 m_737) rfl rfl rfl (by decide +kernel) ⟨Nat.le_of_ble_eq_true rfl, Nat.le_of_ble_eq_true rfl⟩) ⟨ro_blind, va_recv hK hPc (ci := 7) (q0 := 0) rfl rfl, fun U hU hW => ⟨rfl, by rw [hU]; exact hPc, va_K.moved hW.alike hK⟩⟩ rfl rfl hl.1 rfl (lv_room (Nat.le_of_ble_eq_true rfl)) d_MO_movesFrom_61 ⟨Nat.le_of_ble_eq_true rfl, Nat.le_of_ble_eq_true rfl⟩) hS hP (fun r H locs er hP hS => ?_)
        subst er
        have hb161 := @b01_1 ((fun x => hkB (Bm ww nuF (sf f9) (sl f9)) (Em ww nuF (sf f9) (sl f9)) x (sumN (fun w => ss (5 * f9 + w)) 5)) (Bm ww nuT (sf t9) (sl t9) k9) = true) _
        have hb061 := @b01_le ((fun x => hkB (Bm ww nuF (sf f9) (sl f9)) (Em ww nuF (sf f9) (sl f9)) x (sumN (fun w => ss (5 * f9 + w)) 5)) (Bm ww nuT (sf t9) (sl t9) k9) = true) _
        refine ix_if_eq (tgt := 71) hx hb (nI_tI (n := b01 ((fun x => hkB (Bm ww nuF (sf f9) (sl f9)) (Em ww nuF (sf f9) (sl f9)) x (sumN (fun w => ss (5 * f9 + w)) 5)) (Bm ww nuT (sf t9) (sl t9) k9) = true)) (by omega)) d_MO_movesFrom_64 (by decide) (fun c_64 => ?_) (fun c_64 => ?_)
        · refine lv_iconst (v := nI 1) hx hb d_MO_movesFrom_71 (by decide +kernel) ?_
          refine lv_iadd hx hb d_MO_movesFrom_72 ?_
          refine lv_topr (show _ = nI (n9 + 1) from nn_add _ _) ?_
          refine lv_istore_n (lv' := [(3, .int (nI (n9 + 1))), (5, .int (nI 0)), (0, .ref (z 0)), (1, .int (nI f9)), (2, .int (nI t9)), (4, .int (nI k9))]) hx hb d_MO_movesFrom_73 rfl hl (by decide) rfl (fun ls hl => ?_)
          refine lv_iload_n hx hb d_MO_movesFrom_74 rfl (lv_at hl 0 rfl) ?_
          refine lv_aload_n hx hb d_MO_movesFrom_75 rfl (lv_at hl 2 rfl) ?_
          refine lv_iload_n hx hb d_MO_movesFrom_76 rfl (lv_at hl 3 rfl) ?_
          refine lv_aload_n hx hb d_MO_movesFrom_77 rfl (lv_at hl 2 rfl) ?_
          refine lv_iload_n hx hb d_MO_movesFrom_78 rfl (lv_at hl 4 rfl) ?_
          refine lv_iload hx hb d_MO_movesFrom_79 (lv_at hl 5 rfl) ?_
          have hPc := hP.sub (ws' := [(z 0, .inr (7, [.int (nI (g 0)), .int (nI (g 1)), .int (nI (g 2)), .int (nI (g 3)), .int (nI (g 4)), .int (nI (g 5)), .int (nI (g 6)), .ref (z 1), .ref (z 2), .ref (z 3), .ref (z 4), .int (nI (g 7)), .ref (z 5), .ref (z 6), .ref (z 7), .ref (z 8), .ref (z 9), .ref (z 10), .int (nI (g 8)), .ref (z 11), .ref (z 12), .ref (z 13), .ref (z 14)])), (z 1, .inl (cI, 5, .inl (aN ww))), (z 8, .inl (cI, 9, .inl (aN sf))), (z 9, .inl (cI, 9, .inl (aN sl))), (z 10, .inl (cI, 45, .inl (aN ss)))]) [0, 1, 2, 3, 4] rfl
          refine ro_calli (va_runV (As := [.int (nI t9), .int (nI k9)]) (rest := [.int (nI f9), .ref (z 0), .int (nI (n9 + 1))]) ⟨hx, hb, hml, hown, hts⟩ (c_MO_endOf l dC dI z g cI ww sf sl ss nuT t9 k9 hs9t9 hW9t9 (by omega) hbbt9 (by omega)) (cwV 2 hts (gw_V m_714 m_716 s_25 m_8 m_717) rfl rfl rfl (by decide +kernel) ⟨Nat.le_of_ble_eq_true rfl, Nat.le_of_ble_eq_true rfl⟩) ⟨ro_blind, va_recv hK hPc (ci := 7) (q0 := 0) rfl rfl, fun U hU hW => ⟨rfl, by rw [hU]; exact hPc, va_K.moved hW.alike hK⟩⟩ rfl rfl hl.1 rfl (lv_room (Nat.le_of_ble_eq_true rfl)) d_MO_movesFrom_81 ⟨Nat.le_of_ble_eq_true rfl, Nat.le_of_ble_eq_true rfl⟩) hS hP (fun r H locs er hP hS => ?_)
          subst er
          have hPc := hP.sub (ws' := [(z 0, .inr (7, [.int (nI (g 0)), .int (nI (g 1)), .int (nI (g 2)), .int (nI (g 3)), .int (nI (g 4)), .int (nI (g 5)), .int (nI (g 6)), .ref (z 1), .ref (z 2), .ref (z 3), .ref (z 4), .int (nI (g 7)), .ref (z 5), .ref (z 6), .ref (z 7), .ref (z 8), .ref (z 9), .ref (z 10), .int (nI (g 8)), .ref (z 11), .ref (z 12), .ref (z 13), .ref (z 14)])), (z 1, .inl (cI, 5, .inl (aN ww))), (z 8, .inl (cI, 9, .inl (aN sf))), (z 9, .inl (cI, 9, .inl (aN sl))), (z 10, .inl (cI, 45, .inl (aN ss)))]) [0, 1, 2, 3, 4] rfl
          refine ro_calli (va_runV (As := [.int (nI f9), .int (nI (Em ww nuT (sf t9) (sl t9) k9))]) (rest := [.int (nI (n9 + 1))]) ⟨hx, hb, hml, hown, hts⟩ (c_MO_hasKnife l dC dI z g cI ww sf sl ss nuF f9 (Em ww nuT (sf t9) (sl t9) k9) (by omega) hs9f9 hW9f9 hb9f9 hp9f9) (cwV 2 hts (gw_V m_734 m_736 s_28 m_8 m_737) rfl rfl rfl (by decide +kernel) ⟨Nat.le_of_ble_eq_true rfl, Nat.le_of_ble_eq_true rfl⟩) ⟨ro_blind, va_recv hK hPc (ci := 7) (q0 := 0) rfl rfl, fun U hU hW => ⟨rfl, by rw [hU]; exact hPc, va_K.moved hW.alike hK⟩⟩ rfl rfl hl.1 rfl (lv_room (Nat.le_of_ble_eq_true rfl)) d_MO_movesFrom_84 ⟨Nat.le_of_ble_eq_true rfl, Nat.le_of_ble_eq_true rfl⟩) hS hP (fun r H locs er hP hS => ?_)
          subst er
          have hb184 := @b01_1 ((fun x => hkB (Bm ww nuF (sf f9) (sl f9)) (Em ww nuF (sf f9) (sl f9)) x (sumN (fun w => ss (5 * f9 + w)) 5)) (Em ww nuT (sf t9) (sl t9) k9) = true) _
          have hb084 := @b01_le ((fun x => hkB (Bm ww nuF (sf f9) (sl f9)) (Em ww nuF (sf f9) (sl f9)) x (sumN (fun w => ss (5 * f9 + w)) 5)) (Em ww nuT (sf t9) (sl t9) k9) = true) _
          refine ix_if_eq (tgt := 94) hx hb (nI_tI (n := b01 ((fun x => hkB (Bm ww nuF (sf f9) (sl f9)) (Em ww nuF (sf f9) (sl f9)) x (sumN (fun w => ss (5 * f9 + w)) 5)) (Em ww nuT (sf t9) (sl t9) k9) = true)) (by omega)) d_MO_movesFrom_87 (by decide) (fun c_87 => ?_) (fun c_87 => ?_)
          · refine lv_iconst (v := nI 1) hx hb d_MO_movesFrom_94 (by decide +kernel) ?_
            refine lv_iadd hx hb d_MO_movesFrom_95 ?_
            refine lv_topr (show _ = nI ((n9 + 1) + 1) from nn_add _ _) ?_
            refine lv_istore_n (lv' := [(3, .int (nI ((n9 + 1) + 1))), (5, .int (nI 0)), (0, .ref (z 0)), (1, .int (nI f9)), (2, .int (nI t9)), (4, .int (nI k9))]) hx hb d_MO_movesFrom_96 rfl hl (by decide) rfl (fun ls hl => ?_)
            refine lv_iinc (v := nI (k9 + 1)) (lv' := [(4, .int (nI (k9 + 1))), (3, .int (nI ((n9 + 1) + 1))), (5, .int (nI 0)), (0, .ref (z 0)), (1, .int (nI f9)), (2, .int (nI t9))]) hx hb d_MO_movesFrom_97 hl (k := 5) rfl (n_incN k9 1) (by decide) rfl (fun ls hl => ?_)
            refine lv_goto (tgt := 5) hx hb d_MO_movesFrom_100 (by decide) ?_
            exact ih_lp (k9 + 1) ((n9 + 1) + 1) (by omega) (by omega) (mvF_S hn (by rw [if_neg (fun q => q.elim (fun q => by rw [hj9] at q; exact Bool.noConfusion q) (fun q => by have := hb161.mpr q; omega))]) (by rw [if_neg (fun q => by have := hb184.mpr q; omega)])) _ _ _ hP hS (lv_sub hl [3, 4, 5, 1, 0] rfl)
          refine lv_iconst (v := nI 0) hx hb d_MO_movesFrom_90 (by decide +kernel) ?_
          refine lv_goto (tgt := 95) hx hb d_MO_movesFrom_91 (by decide) ?_
          refine lv_iadd hx hb d_MO_movesFrom_95 ?_
          refine lv_topr (show _ = nI ((n9 + 1) + 0) from nn_add _ _) ?_
          refine lv_istore_n (lv' := [(3, .int (nI ((n9 + 1) + 0))), (5, .int (nI 0)), (0, .ref (z 0)), (1, .int (nI f9)), (2, .int (nI t9)), (4, .int (nI k9))]) hx hb d_MO_movesFrom_96 rfl hl (by decide) rfl (fun ls hl => ?_)
          refine lv_iinc (v := nI (k9 + 1)) (lv' := [(4, .int (nI (k9 + 1))), (3, .int (nI ((n9 + 1) + 0))), (5, .int (nI 0)), (0, .ref (z 0)), (1, .int (nI f9)), (2, .int (nI t9))]) hx hb d_MO_movesFrom_97 hl (k := 5) rfl (n_incN k9 1) (by decide) rfl (fun ls hl => ?_)
          refine lv_goto (tgt := 5) hx hb d_MO_movesFrom_100 (by decide) ?_
          exact ih_lp (k9 + 1) ((n9 + 1) + 0) (by omega) (by omega) (mvF_S hn (by rw [if_neg (fun q => q.elim (fun q => by rw [hj9] at q; exact Bool.noConfusion q) (fun q => by have := hb161.mpr q; omega))]) (by rw [if_pos (hb184.mp (by omega))])) _ _ _ hP hS (lv_sub hl [3, 4, 5, 1, 0] rfl)
        refine lv_iconst (v := nI 0) hx hb d_MO_movesFrom_67 (by decide +kernel) ?_
        refine lv_goto (tgt := 72) hx hb d_MO_movesFrom_68 (by decide) ?_
        refine lv_iadd hx hb d_MO_movesFrom_72 ?_
        refine lv_topr (show _ = nI (n9 + 0) from nn_add _ _) ?_
        refine lv_istore_n (lv' := [(3, .int (nI (n9 + 0))), (5, .int (nI 0)), (0, .ref (z 0)), (1, .int (nI f9)), (2, .int (nI t9)), (4, .int (nI k9))]) hx hb d_MO_movesFrom_73 rfl hl (by decide) rfl (fun ls hl => ?_)
        refine lv_iload_n hx hb d_MO_movesFrom_74 rfl (lv_at hl 0 rfl) ?_
        refine lv_aload_n hx hb d_MO_movesFrom_75 rfl (lv_at hl 2 rfl) ?_
        refine lv_iload_n hx hb d_MO_movesFrom_76 rfl (lv_at hl 3 rfl) ?_
        refine lv_aload_n hx hb d_MO_movesFrom_77 rfl (lv_at hl 2 rfl) ?_
        refine lv_iload_n hx hb d_MO_movesFrom_78 rfl (lv_at hl 4 rfl) ?_
        refine lv_iload hx hb d_MO_movesFrom_79 (lv_at hl 5 rfl) ?_
        have hPc := hP.sub (ws' := [(z 0, .inr (7, [.int (nI (g 0)), .int (nI (g 1)), .int (nI (g 2)), .int (nI (g 3)), .int (nI (g 4)), .int (nI (g 5)), .int (nI (g 6)), .ref (z 1), .ref (z 2), .ref (z 3), .ref (z 4), .int (nI (g 7)), .ref (z 5), .ref (z 6), .ref (z 7), .ref (z 8), .ref (z 9), .ref (z 10), .int (nI (g 8)), .ref (z 11), .ref (z 12), .ref (z 13), .ref (z 14)])), (z 1, .inl (cI, 5, .inl (aN ww))), (z 8, .inl (cI, 9, .inl (aN sf))), (z 9, .inl (cI, 9, .inl (aN sl))), (z 10, .inl (cI, 45, .inl (aN ss)))]) [0, 1, 2, 3, 4] rfl
        refine ro_calli (va_runV (As := [.int (nI t9), .int (nI k9)]) (rest := [.int (nI f9), .ref (z 0), .int (nI (n9 + 0))]) ⟨hx, hb, hml, hown, hts⟩ (c_MO_endOf l dC dI z g cI ww sf sl ss nuT t9 k9 hs9t9 hW9t9 (by omega) hbbt9 (by omega)) (cwV 2 hts (gw_V m_714 m_716 s_25 m_8 m_717) rfl rfl rfl (by decide +kernel) ⟨Nat.le_of_ble_eq_true rfl, Nat.le_of_ble_eq_true rfl⟩) ⟨ro_blind, va_recv hK hPc (ci := 7) (q0 := 0) rfl rfl, fun U hU hW => ⟨rfl, by rw [hU]; exact hPc, va_K.moved hW.alike hK⟩⟩ rfl rfl hl.1 rfl (lv_room (Nat.le_of_ble_eq_true rfl)) d_MO_movesFrom_81 ⟨Nat.le_of_ble_eq_true rfl, Nat.le_of_ble_eq_true rfl⟩) hS hP (fun r H locs er hP hS => ?_)
        subst er
        have hPc := hP.sub (ws' := [(z 0, .inr (7, [.int (nI (g 0)), .int (nI (g 1)), .int (nI (g 2)), .int (nI (g 3)), .int (nI (g 4)), .int (nI (g 5)), .int (nI (g 6)), .ref (z 1), .ref (z 2), .ref (z 3), .ref (z 4), .int (nI (g 7)), .ref (z 5), .ref (z 6), .ref (z 7), .ref (z 8), .ref (z 9), .ref (z 10), .int (nI (g 8)), .ref (z 11), .ref (z 12), .ref (z 13), .ref (z 14)])), (z 1, .inl (cI, 5, .inl (aN ww))), (z 8, .inl (cI, 9, .inl (aN sf))), (z 9, .inl (cI, 9, .inl (aN sl))), (z 10, .inl (cI, 45, .inl (aN ss)))]) [0, 1, 2, 3, 4] rfl
        refine ro_calli (va_runV (As := [.int (nI f9), .int (nI (Em ww nuT (sf t9) (sl t9) k9))]) (rest := [.int (nI (n9 + 0))]) ⟨hx, hb, hml, hown, hts⟩ (c_MO_hasKnife l dC dI z g cI ww sf sl ss nuF f9 (Em ww nuT (sf t9) (sl t9) k9) (by omega) hs9f9 hW9f9 hb9f9 hp9f9) (cwV 2 hts (gw_V m_734 m_736 s_28 m_8 m_737) rfl rfl rfl (by decide +kernel) ⟨Nat.le_of_ble_eq_true rfl, Nat.le_of_ble_eq_true rfl⟩) ⟨ro_blind, va_recv hK hPc (ci := 7) (q0 := 0) rfl rfl, fun U hU hW => ⟨rfl, by rw [hU]; exact hPc, va_K.moved hW.alike hK⟩⟩ rfl rfl hl.1 rfl (lv_room (Nat.le_of_ble_eq_true rfl)) d_MO_movesFrom_84 ⟨Nat.le_of_ble_eq_true rfl, Nat.le_of_ble_eq_true rfl⟩) hS hP (fun r H locs er hP hS => ?_)
        subst er
        have hb184 := @b01_1 ((fun x => hkB (Bm ww nuF (sf f9) (sl f9)) (Em ww nuF (sf f9) (sl f9)) x (sumN (fun w => ss (5 * f9 + w)) 5)) (Em ww nuT (sf t9) (sl t9) k9) = true) _
        have hb084 := @b01_le ((fun x => hkB (Bm ww nuF (sf f9) (sl f9)) (Em ww nuF (sf f9) (sl f9)) x (sumN (fun w => ss (5 * f9 + w)) 5)) (Em ww nuT (sf t9) (sl t9) k9) = true) _
        refine ix_if_eq (tgt := 94) hx hb (nI_tI (n := b01 ((fun x => hkB (Bm ww nuF (sf f9) (sl f9)) (Em ww nuF (sf f9) (sl f9)) x (sumN (fun w => ss (5 * f9 + w)) 5)) (Em ww nuT (sf t9) (sl t9) k9) = true)) (by omega)) d_MO_movesFrom_87 (by decide) (fun c_87 => ?_) (fun c_87 => ?_)
        · refine lv_iconst (v := nI 1) hx hb d_MO_movesFrom_94 (by decide +kernel) ?_
          refine lv_iadd hx hb d_MO_movesFrom_95 ?_
          refine lv_topr (show _ = nI ((n9 + 0) + 1) from nn_add _ _) ?_
          refine lv_istore_n (lv' := [(3, .int (nI ((n9 + 0) + 1))), (5, .int (nI 0)), (0, .ref (z 0)), (1, .int (nI f9)), (2, .int (nI t9)), (4, .int (nI k9))]) hx hb d_MO_movesFrom_96 rfl hl (by decide) rfl (fun ls hl => ?_)
          refine lv_iinc (v := nI (k9 + 1)) (lv' := [(4, .int (nI (k9 + 1))), (3, .int (nI ((n9 + 0) + 1))), (5, .int (nI 0)), (0, .ref (z 0)), (1, .int (nI f9)), (2, .int (nI t9))]) hx hb d_MO_movesFrom_97 hl (k := 5) rfl (n_incN k9 1) (by decide) rfl (fun ls hl => ?_)
          refine lv_goto (tgt := 5) hx hb d_MO_movesFrom_100 (by decide) ?_
          exact ih_lp (k9 + 1) ((n9 + 0) + 1) (by omega) (by omega) (mvF_S hn (by rw [if_pos (Or.inr (hb161.mp (by omega)))]) (by rw [if_neg (fun q => by have := hb184.mpr q; omega)])) _ _ _ hP hS (lv_sub hl [3, 4, 5, 1, 0] rfl)
        refine lv_iconst (v := nI 0) hx hb d_MO_movesFrom_90 (by decide +kernel) ?_
        refine lv_goto (tgt := 95) hx hb d_MO_movesFrom_91 (by decide) ?_
        refine lv_iadd hx hb d_MO_movesFrom_95 ?_
        refine lv_topr (show _ = nI ((n9 + 0) + 0) from nn_add _ _) ?_
        refine lv_istore_n (lv' := [(3, .int (nI ((n9 + 0) + 0))), (5, .int (nI 0)), (0, .ref (z 0)), (1, .int (nI f9)), (2, .int (nI t9)), (4, .int (nI k9))]) hx hb d_MO_movesFrom_96 rfl hl (by decide) rfl (fun ls hl => ?_)
        refine lv_iinc (v := nI (k9 + 1)) (lv' := [(4, .int (nI (k9 + 1))), (3, .int (nI ((n9 + 0) + 0))), (5, .int (nI 0)), (0, .ref (z 0)), (1, .int (nI f9)), (2, .int (nI t9))]) hx hb d_MO_movesFrom_97 hl (k := 5) rfl (n_incN k9 1) (by decide) rfl (fun ls hl => ?_)
        refine lv_goto (tgt := 5) hx hb d_MO_movesFrom_100 (by decide) ?_
        exact ih_lp (k9 + 1) ((n9 + 0) + 0) (by omega) (by omega) (mvF_S hn (by rw [if_pos (Or.inr (hb161.mp (by omega)))]) (by rw [if_pos (hb184.mp (by omega))])) _ _ _ hP hS (lv_sub hl [3, 4, 5, 1, 0] rfl)
      refine lv_iconst (v := nI 1) hx hb d_MO_movesFrom_39 (by decide +kernel) ?_
      refine lv_goto (tgt := 44) hx hb d_MO_movesFrom_40 (by decide) ?_
      refine lv_istore (lv' := [(5, .int (nI 1)), (0, .ref (z 0)), (1, .int (nI f9)), (2, .int (nI t9)), (3, .int (nI n9)), (4, .int (nI k9))]) hx hb d_MO_movesFrom_44 hl (by decide) rfl (fun ls hl => ?_)
      refine lv_iload_n hx hb d_MO_movesFrom_46 rfl (lv_at hl 4 rfl) ?_
      refine lv_iload hx hb d_MO_movesFrom_47 (lv_at hl 0 rfl) ?_
      have hj9 : joiB (Bm ww nuT (sf t9) (sl t9)) (Em ww nuT (sf t9) (sl t9)) k9 = true := by exact hjo.mpr (by omega)
      refine ix_if_ne (tgt := 67) hx hb (nI_tI (n := 1) (by omega)) d_MO_movesFrom_49 (by decide) (fun c_49 => ?_) (fun c_49 => absurd c_49 (by omega))
      refine lv_iconst (v := nI 0) hx hb d_MO_movesFrom_67 (by decide +kernel) ?_
      refine lv_goto (tgt := 72) hx hb d_MO_movesFrom_68 (by decide) ?_
      refine lv_iadd hx hb d_MO_movesFrom_72 ?_
      refine lv_topr (show _ = nI (n9 + 0) from nn_add _ _) ?_
      refine lv_istore_n (lv' := [(3, .int (nI (n9 + 0))), (5, .int (nI 1)), (0, .ref (z 0)), (1, .int (nI f9)), (2, .int (nI t9)), (4, .int (nI k9))]) hx hb d_MO_movesFrom_73 rfl hl (by decide) rfl (fun ls hl => ?_)
      refine lv_iload_n hx hb d_MO_movesFrom_74 rfl (lv_at hl 0 rfl) ?_
      refine lv_aload_n hx hb d_MO_movesFrom_75 rfl (lv_at hl 2 rfl) ?_
      refine lv_iload_n hx hb d_MO_movesFrom_76 rfl (lv_at hl 3 rfl) ?_
      refine lv_aload_n hx hb d_MO_movesFrom_77 rfl (lv_at hl 2 rfl) ?_
      refine lv_iload_n hx hb d_MO_movesFrom_78 rfl (lv_at hl 4 rfl) ?_
      refine lv_iload hx hb d_MO_movesFrom_79 (lv_at hl 5 rfl) ?_
      have hPc := hP.sub (ws' := [(z 0, .inr (7, [.int (nI (g 0)), .int (nI (g 1)), .int (nI (g 2)), .int (nI (g 3)), .int (nI (g 4)), .int (nI (g 5)), .int (nI (g 6)), .ref (z 1), .ref (z 2), .ref (z 3), .ref (z 4), .int (nI (g 7)), .ref (z 5), .ref (z 6), .ref (z 7), .ref (z 8), .ref (z 9), .ref (z 10), .int (nI (g 8)), .ref (z 11), .ref (z 12), .ref (z 13), .ref (z 14)])), (z 1, .inl (cI, 5, .inl (aN ww))), (z 8, .inl (cI, 9, .inl (aN sf))), (z 9, .inl (cI, 9, .inl (aN sl))), (z 10, .inl (cI, 45, .inl (aN ss)))]) [0, 1, 2, 3, 4] rfl
      refine ro_calli (va_runV (As := [.int (nI t9), .int (nI k9)]) (rest := [.int (nI f9), .ref (z 0), .int (nI (n9 + 0))]) ⟨hx, hb, hml, hown, hts⟩ (c_MO_endOf l dC dI z g cI ww sf sl ss nuT t9 k9 hs9t9 hW9t9 (by omega) hbbt9 (by omega)) (cwV 2 hts (gw_V m_714 m_716 s_25 m_8 m_717) rfl rfl rfl (by decide +kernel) ⟨Nat.le_of_ble_eq_true rfl, Nat.le_of_ble_eq_true rfl⟩) ⟨ro_blind, va_recv hK hPc (ci := 7) (q0 := 0) rfl rfl, fun U hU hW => ⟨rfl, by rw [hU]; exact hPc, va_K.moved hW.alike hK⟩⟩ rfl rfl hl.1 rfl (lv_room (Nat.le_of_ble_eq_true rfl)) d_MO_movesFrom_81 ⟨Nat.le_of_ble_eq_true rfl, Nat.le_of_ble_eq_true rfl⟩) hS hP (fun r H locs er hP hS => ?_)
      subst er
      have hPc := hP.sub (ws' := [(z 0, .inr (7, [.int (nI (g 0)), .int (nI (g 1)), .int (nI (g 2)), .int (nI (g 3)), .int (nI (g 4)), .int (nI (g 5)), .int (nI (g 6)), .ref (z 1), .ref (z 2), .ref (z 3), .ref (z 4), .int (nI (g 7)), .ref (z 5), .ref (z 6), .ref (z 7), .ref (z 8), .ref (z 9), .ref (z 10), .int (nI (g 8)), .ref (z 11), .ref (z 12), .ref (z 13), .ref (z 14)])), (z 1, .inl (cI, 5, .inl (aN ww))), (z 8, .inl (cI, 9, .inl (aN sf))), (z 9, .inl (cI, 9, .inl (aN sl))), (z 10, .inl (cI, 45, .inl (aN ss)))]) [0, 1, 2, 3, 4] rfl
      refine ro_calli (va_runV (As := [.int (nI f9), .int (nI (Em ww nuT (sf t9) (sl t9) k9))]) (rest := [.int (nI (n9 + 0))]) ⟨hx, hb, hml, hown, hts⟩ (c_MO_hasKnife l dC dI z g cI ww sf sl ss nuF f9 (Em ww nuT (sf t9) (sl t9) k9) (by omega) hs9f9 hW9f9 hb9f9 hp9f9) (cwV 2 hts (gw_V m_734 m_736 s_28 m_8 m_737) rfl rfl rfl (by decide +kernel) ⟨Nat.le_of_ble_eq_true rfl, Nat.le_of_ble_eq_true rfl⟩) ⟨ro_blind, va_recv hK hPc (ci := 7) (q0 := 0) rfl rfl, fun U hU hW => ⟨rfl, by rw [hU]; exact hPc, va_K.moved hW.alike hK⟩⟩ rfl rfl hl.1 rfl (lv_room (Nat.le_of_ble_eq_true rfl)) d_MO_movesFrom_84 ⟨Nat.le_of_ble_eq_true rfl, Nat.le_of_ble_eq_true rfl⟩) hS hP (fun r H locs er hP hS => ?_)
      subst er
      have hb184 := @b01_1 ((fun x => hkB (Bm ww nuF (sf f9) (sl f9)) (Em ww nuF (sf f9) (sl f9)) x (sumN (fun w => ss (5 * f9 + w)) 5)) (Em ww nuT (sf t9) (sl t9) k9) = true) _
      have hb084 := @b01_le ((fun x => hkB (Bm ww nuF (sf f9) (sl f9)) (Em ww nuF (sf f9) (sl f9)) x (sumN (fun w => ss (5 * f9 + w)) 5)) (Em ww nuT (sf t9) (sl t9) k9) = true) _
      refine ix_if_eq (tgt := 94) hx hb (nI_tI (n := b01 ((fun x => hkB (Bm ww nuF (sf f9) (sl f9)) (Em ww nuF (sf f9) (sl f9)) x (sumN (fun w => ss (5 * f9 + w)) 5)) (Em ww nuT (sf t9) (sl t9) k9) = true)) (by omega)) d_MO_movesFrom_87 (by decide) (fun c_87 => ?_) (fun c_87 => ?_)
      · refine lv_iconst (v := nI 1) hx hb d_MO_movesFrom_94 (by decide +kernel) ?_
        refine lv_iadd hx hb d_MO_movesFrom_95 ?_
        refine lv_topr (show _ = nI ((n9 + 0) + 1) from nn_add _ _) ?_
        refine lv_istore_n (lv' := [(3, .int (nI ((n9 + 0) + 1))), (5, .int (nI 1)), (0, .ref (z 0)), (1, .int (nI f9)), (2, .int (nI t9)), (4, .int (nI k9))]) hx hb d_MO_movesFrom_96 rfl hl (by decide) rfl (fun ls hl => ?_)
        refine lv_iinc (v := nI (k9 + 1)) (lv' := [(4, .int (nI (k9 + 1))), (3, .int (nI ((n9 + 0) + 1))), (5, .int (nI 1)), (0, .ref (z 0)), (1, .int (nI f9)), (2, .int (nI t9))]) hx hb d_MO_movesFrom_97 hl (k := 5) rfl (n_incN k9 1) (by decide) rfl (fun ls hl => ?_)
        refine lv_goto (tgt := 5) hx hb d_MO_movesFrom_100 (by decide) ?_
        exact ih_lp (k9 + 1) ((n9 + 0) + 1) (by omega) (by omega) (mvF_S hn (by rw [if_pos (Or.inl hj9)]) (by rw [if_neg (fun q => by have := hb184.mpr q; omega)])) _ _ _ hP hS (lv_sub hl [3, 4, 5, 1, 0] rfl)
      refine lv_iconst (v := nI 0) hx hb d_MO_movesFrom_90 (by decide +kernel) ?_
      refine lv_goto (tgt := 95) hx hb d_MO_movesFrom_91 (by decide) ?_
      refine lv_iadd hx hb d_MO_movesFrom_95 ?_
      refine lv_topr (show _ = nI ((n9 + 0) + 0) from nn_add _ _) ?_
      refine lv_istore_n (lv' := [(3, .int (nI ((n9 + 0) + 0))), (5, .int (nI 1)), (0, .ref (z 0)), (1, .int (nI f9)), (2, .int (nI t9)), (4, .int (nI k9))]) hx hb d_MO_movesFrom_96 rfl hl (by decide) rfl (fun ls hl => ?_)
      refine lv_iinc (v := nI (k9 + 1)) (lv' := [(4, .int (nI (k9 + 1))), (3, .int (nI ((n9 + 0) + 0))), (5, .int (nI 1)), (0, .ref (z 0)), (1, .int (nI f9)), (2, .int (nI t9))]) hx hb d_MO_movesFrom_97 hl (k := 5) rfl (n_incN k9 1) (by decide) rfl (fun ls hl => ?_)
      refine lv_goto (tgt := 5) hx hb d_MO_movesFrom_100 (by decide) ?_
      exact ih_lp (k9 + 1) ((n9 + 0) + 0) (by omega) (by omega) (mvF_S hn (by rw [if_pos (Or.inl hj9)]) (by rw [if_pos (hb184.mp (by omega))])) _ _ _ hP hS (lv_sub hl [3, 4, 5, 1, 0] rfl)
  exact lp (sumN (fun w => ss (5 * t9 + w)) 5 + 1) 0 0 (by omega) (by omega) rfl _ _ _ hP hS (lv_sub hl [2, 3, 4, 1, 0] rfl)
