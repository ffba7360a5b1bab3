set_option maxHeartbeats 4000000 in
set_option maxRecDepth 100000 in
/-- coil(..), a good one -/
theorem c_SW_coil (l : Launch) (dC : Nat → ClassId) (dI : Nat → Nat → Nat) (sz : Nat) (x0 k0 v0 a0 j0 q qa : Nat) (cI : ClassId) (ab ap aq ac : Nat) (bn bf kn most bs cw ck cr cf cn sc : Nat) (room : Int) (a1 : Int) (a2 : Int) (a3 : Int) (a4 : Int) (a5 : Int) (ha1 : -2147483648 ≤ a1 ∧ a1 < 2147483648) (ha2 : -2147483648 ≤ a2 ∧ a2 < 2147483648) (ha3 : -2147483648 ≤ a3 ∧ a3 < 2147483648) (ha4 : -2147483648 ≤ a4 ∧ a4 < 2147483648) (ha5 : -2147483648 ≤ a5 ∧ a5 < 2147483648) (hG : ((1 ≤ a1 ∧ a1 ≤ 20000) ∧ (1 ≤ a2 ∧ a2 ≤ 50000) ∧ (0 ≤ a3 ∧ a3 ≤ 1000) ∧ (0 ≤ a4 ∧ a4 ≤ 100) ∧ (2 ≤ a5 ∧ a5 ≤ 40))) : Met l y_SW_coil w_SW_coil { frames := 1, cells := 0, slots := 0, locals := 22 } (rw_Pc (dC, dI) vwCl [(cI, .int)] sz [.ref x0, .int (zI a1), .int (zI a2), .int (zI a3), .int (zI a4), .int (zI a5)] [(x0, .inr (6, [.ref k0, .ref v0, .ref a0, .ref j0, .ref q, .ref qa, .int (nI sc)])), (k0, .inr (0, [.int (nI cw), .int (nI ck), .int (nI cr), .int (nI cf), .int (nI cn)])), (a0, .inr (2, [.ref ab, .int (nI bn), .int (nI bf), .int (nI kn), .ref ap, .ref aq, .ref ac, .int (zI room), .int (nI most), .int (nI bs)]))]) (va_Qv (fun (u : Unit) => True) (rw_B (dC, dI) vwCl [(cI, .int)] (va_A [(x0, .inr (6, [.ref k0, .ref v0, .ref a0, .ref j0, .ref q, .ref qa, .int (nI sc)])), (k0, .inr (0, [.int (nI cw), .int (nI ck), .int (nI cr), .int (nI cf), .int (nI cn)])), (a0, .inr (2, [.ref ab, .int (nI bn), .int (nI bf), .int (nI kn), .ref ap, .ref aq, .ref ac, .int (zI room), .int (nI most), .int (nI bs)]))] sz) (fun u : Unit => [(x0, .inr (6, [.ref k0, .ref v0, .ref a0, .ref j0, .ref q, .ref qa, .int (nI sc)])), (k0, .inr (0, [.int (nI a1.toNat), .int (nI a2.toNat), .int (nI a3.toNat), .int (nI a4.toNat), .int (nI a5.toNat)])), (a0, .inr (2, [.ref ab, .int (nI bn), .int (nI bf), .int (nI 0), .ref ap, .ref aq, .ref ac, .int (zI room), .int (nI most), .int (nI bs)]))])) (va_A [(x0, .inr (6, [.ref k0, .ref v0, .ref a0, .ref j0, .ref q, .ref qa, .int (nI sc)])), (k0, .inr (0, [.int (nI cw), .int (nI ck), .int (nI cr), .int (nI cf), .int (nI cn)])), (a0, .inr (2, [.ref ab, .int (nI bn), .int (nI bf), .int (nI kn), .ref ap, .ref aq, .ref ac, .int (zI room), .int (nI most), .int (nI bs)]))] sz)) 0 0 (va_A [(x0, .inr (6, [.ref k0, .ref v0, .ref a0, .ref j0, .ref q, .ref qa, .int (nI sc)])), (k0, .inr (0, [.int (nI cw), .int (nI ck), .int (nI cr), .int (nI cf), .int (nI cn)])), (a0, .inr (2, [.ref ab, .int (nI bn), .int (nI bf), .int (nI kn), .ref ap, .ref aq, .ref ac, .int (zI room), .int (nI most), .int (nI bs)]))] sz) := by
  refine Met.ofW (cc := b_SW_coil) (maxL := 6) (ret := none) (by decide) rfl ?_
  intro p e s m args below meth c s₁ B hml hv
  obtain ⟨rfl, hsz, hP, hK, hD0⟩ := hv
  have hx := B.exec
  have hb := B.bytes
  have hr := B.returns
  have hts := gw_h (atoms_spec (ws := w_SW_coil) B.pre)
  have hown : s.vm.findClass R_SW = some m.cls := findClass_of_methodNamed B.named
  have hlocks := B.notSynchronized
  subst hsz
  have hD := hD0.self (sz := s.heap.size)
  generalize hAe : va_A [(x0, .inr (6, [.ref k0, .ref v0, .ref a0, .ref j0, .ref q, .ref qa, .int (nI sc)])), (k0, .inr (0, [.int (nI cw), .int (nI ck), .int (nI cr), .int (nI cf), .int (nI cn)])), (a0, .inr (2, [.ref ab, .int (nI bn), .int (nI bf), .int (nI kn), .ref ap, .ref aq, .ref ac, .int (zI room), .int (nI most), .int (nI bs)]))] s.heap.size = A at hD ⊢
  have hA : ∀ q : Nat, s.heap.size ≤ q → A q := fun q h => by rw [← hAe]; exact Or.inr h
  have hS : va_S A s.heap s.heap [] := va_S.rf
  have hP : va_P (dC, dI) vwCl [(x0, .inr (6, [.ref k0, .ref v0, .ref a0, .ref j0, .ref q, .ref qa, .int (nI sc)])), (k0, .inr (0, [.int (nI cw), .int (nI ck), .int (nI cr), .int (nI cf), .int (nI cn)])), (a0, .inr (2, [.ref ab, .int (nI bn), .int (nI bf), .int (nI kn), .ref ap, .ref aq, .ref ac, .int (zI room), .int (nI most), .int (nI bs)]))] s.heap := hP
  have hl := lv_entry ([.ref x0, .int (zI a1), .int (zI a2), .int (zI a3), .int (zI a4), .int (zI a5)]) (n := 6) (Nat.le_of_ble_eq_true rfl)
  rw [lg_entry_eq]
  generalize (lg_sl ([.ref x0, .int (zI a1), .int (zI a2), .int (zI a3), .int (zI a4), .int (zI a5)]) ++ List.replicate (6 - (lg_sl ([.ref x0, .int (zI a1), .int (zI a2), .int (zI a3), .int (zI a4), .int (zI a5)])).length) Slot.unset).toArray = ls at hl ⊢
  have hl : lv_has ls 6 [(0, .ref x0), (1, .int (zI a1)), (2, .int (zI a2)), (3, .int (zI a3)), (4, .int (zI a4)), (5, .int (zI a5))] := hl
  refine lv_iload_n hx hb d_SW_coil_0 rfl (lv_at hl 1 rfl) ?_
  refine lv_iconst (v := nI 1) hx hb d_SW_coil_1 (by decide +kernel) ?_
  refine lv_sipush (v := nI 20000) hx hb d_SW_coil_2 (by decide +kernel) ?_
  refine lv_arg3 (show _ = zI a1 from rfl) (show _ = zI 1 from zI_n _) (show _ = zI 20000 from zI_n _) ?_
  refine ro_calli (va_runS (As := [.int (zI a1), .int (zI (1 : Int)), .int (zI (20000 : Int))]) (rest := []) ⟨hx, hb, hml, hown, hts⟩ (c_SW_within l dC dI cI a1 (1 : Int) (20000 : Int) ha1 (by omega) (by omega)) (va_cwS 3 hts (gw_S m_318 m_319 m_1 m_320) rfl rfl rfl (by decide +kernel) ⟨Nat.le_of_ble_eq_true rfl, Nat.le_of_ble_eq_true rfl⟩) ⟨ro_blind, fun U hU hW => ⟨rfl, fun k q h => by simp at h, va_K.moved hW.alike hK⟩⟩ rfl rfl hl.1 rfl (lv_room (Nat.le_of_ble_eq_true rfl)) d_SW_coil_5 ⟨Nat.le_of_ble_eq_true rfl, Nat.le_of_ble_eq_true rfl⟩) hS hP (fun r H locs er hP hS => ?_)
  subst er
  have hq5 := @b01_1 ((1 : Int) ≤ a1 ∧ a1 ≤ (20000 : Int)) _
  have hr5 := @b01_le ((1 : Int) ≤ a1 ∧ a1 ≤ (20000 : Int)) _
  refine ix_if_eq (tgt := 54) hx hb (nI_tI (n := b01 ((1 : Int) ≤ a1 ∧ a1 ≤ (20000 : Int))) (by omega)) d_SW_coil_8 (by decide) (fun c_8 => absurd c_8 (by omega)) (fun c_8 => ?_)
  refine lv_iload_n hx hb d_SW_coil_11 rfl (lv_at hl 2 rfl) ?_
  refine lv_iconst (v := nI 1) hx hb d_SW_coil_12 (by decide +kernel) ?_
  refine lv_ldc (v := nI 50000) hx hb hown (hts _ m_321) d_SW_coil_13 ?_
  refine lv_arg3 (show _ = zI a2 from rfl) (show _ = zI 1 from zI_n _) (show _ = zI 50000 from zI_n _) ?_
  refine ro_calli (va_runS (As := [.int (zI a2), .int (zI (1 : Int)), .int (zI (50000 : Int))]) (rest := []) ⟨hx, hb, hml, hown, hts⟩ (c_SW_within l dC dI cI a2 (1 : Int) (50000 : Int) ha2 (by omega) (by omega)) (va_cwS 3 hts (gw_S m_318 m_319 m_1 m_320) rfl rfl rfl (by decide +kernel) ⟨Nat.le_of_ble_eq_true rfl, Nat.le_of_ble_eq_true rfl⟩) ⟨ro_blind, fun U hU hW => ⟨rfl, fun k q h => by simp at h, va_K.moved hW.alike hK⟩⟩ rfl rfl hl.1 rfl (lv_room (Nat.le_of_ble_eq_true rfl)) d_SW_coil_15 ⟨Nat.le_of_ble_eq_true rfl, Nat.le_of_ble_eq_true rfl⟩) hS hP (fun r H locs er hP hS => ?_)
  subst er
  have hq15 := @b01_1 ((1 : Int) ≤ a2 ∧ a2 ≤ (50000 : Int)) _
  have hr15 := @b01_le ((1 : Int) ≤ a2 ∧ a2 ≤ (50000 : Int)) _
  refine ix_if_eq (tgt := 54) hx hb (nI_tI (n := b01 ((1 : Int) ≤ a2 ∧ a2 ≤ (50000 : Int))) (by omega)) d_SW_coil_18 (by decide) (fun c_18 => absurd c_18 (by omega)) (fun c_18 => ?_)
  refine lv_iload_n hx hb d_SW_coil_21 rfl (lv_at hl 3 rfl) ?_
  refine lv_iconst (v := nI 0) hx hb d_SW_coil_22 (by decide +kernel) ?_
  refine lv_sipush (v := nI 1000) hx hb d_SW_coil_23 (by decide +kernel) ?_
  refine lv_arg3 (show _ = zI a3 from rfl) (show _ = zI 0 from zI_n _) (show _ = zI 1000 from zI_n _) ?_
  refine ro_calli (va_runS (As := [.int (zI a3), .int (zI (0 : Int)), .int (zI (1000 : Int))]) (rest := []) ⟨hx, hb, hml, hown, hts⟩ (c_SW_within l dC dI cI a3 (0 : Int) (1000 : Int) ha3 (by omega) (by omega)) (va_cwS 3 hts (gw_S m_318 m_319 m_1 m_320) rfl rfl rfl (by decide +kernel) ⟨Nat.le_of_ble_eq_true rfl, Nat.le_of_ble_eq_true rfl⟩) ⟨ro_blind, fun U hU hW => ⟨rfl, fun k q h => by simp at h, va_K.moved hW.alike hK⟩⟩ rfl rfl hl.1 rfl (lv_room (Nat.le_of_ble_eq_true rfl)) d_SW_coil_26 ⟨Nat.le_of_ble_eq_true rfl, Nat.le_of_ble_eq_true rfl⟩) hS hP (fun r H locs er hP hS => ?_)
  subst er
  have hq26 := @b01_1 ((0 : Int) ≤ a3 ∧ a3 ≤ (1000 : Int)) _
  have hr26 := @b01_le ((0 : Int) ≤ a3 ∧ a3 ≤ (1000 : Int)) _
  refine ix_if_eq (tgt := 54) hx hb (nI_tI (n := b01 ((0 : Int) ≤ a3 ∧ a3 ≤ (1000 : Int))) (by omega)) d_SW_coil_29 (by decide) (fun c_29 => absurd c_29 (by omega)) (fun c_29 => ?_)
  refine lv_iload hx hb d_SW_coil_32 (lv_at hl 4 rfl) ?_
  refine lv_iconst (v := nI 0) hx hb d_SW_coil_34 (by decide +kernel) ?_
  refine lv_bipush (v := nI 100) hx hb d_SW_coil_35 (by decide +kernel) ?_
  refine lv_arg3 (show _ = zI a4 from rfl) (show _ = zI 0 from zI_n _) (show _ = zI 100 from zI_n _) ?_
  refine ro_calli (va_runS (As := [.int (zI a4), .int (zI (0 : Int)), .int (zI (100 : Int))]) (rest := []) ⟨hx, hb, hml, hown, hts⟩ (c_SW_within l dC dI cI a4 (0 : Int) (100 : Int) ha4 (by omega) (by omega)) (va_cwS 3 hts (gw_S m_318 m_319 m_1 m_320) rfl rfl rfl (by decide +kernel) ⟨Nat.le_of_ble_eq_true rfl, Nat.le_of_ble_eq_true rfl⟩) ⟨ro_blind, fun U hU hW => ⟨rfl, fun k q h => by simp at h, va_K.moved hW.alike hK⟩⟩ rfl rfl hl.1 rfl (lv_room (Nat.le_of_ble_eq_true rfl)) d_SW_coil_37 ⟨Nat.le_of_ble_eq_true rfl, Nat.le_of_ble_eq_true rfl⟩) hS hP (fun r H locs er hP hS => ?_)
  subst er
  have hq37 := @b01_1 ((0 : Int) ≤ a4 ∧ a4 ≤ (100 : Int)) _
  have hr37 := @b01_le ((0 : Int) ≤ a4 ∧ a4 ≤ (100 : Int)) _
  refine ix_if_eq (tgt := 54) hx hb (nI_tI (n := b01 ((0 : Int) ≤ a4 ∧ a4 ≤ (100 : Int))) (by omega)) d_SW_coil_40 (by decide) (fun c_40 => absurd c_40 (by omega)) (fun c_40 => ?_)
  refine lv_iload hx hb d_SW_coil_43 (lv_at hl 5 rfl) ?_
  refine lv_iconst (v := nI 2) hx hb d_SW_coil_45 (by decide +kernel) ?_
  refine lv_bipush (v := nI 40) hx hb d_SW_coil_46 (by decide +kernel) ?_
  refine lv_arg3 (show _ = zI a5 from rfl) (show _ = zI 2 from zI_n _) (show _ = zI 40 from zI_n _) ?_
  refine ro_calli (va_runS (As := [.int (zI a5), .int (zI (2 : Int)), .int (zI (40 : Int))]) (rest := []) ⟨hx, hb, hml, hown, hts⟩ (c_SW_within l dC dI cI a5 (2 : Int) (40 : Int) ha5 (by omega) (by omega)) (va_cwS 3 hts (gw_S m_318 m_319 m_1 m_320) rfl rfl rfl (by decide +kernel) ⟨Nat.le_of_ble_eq_true rfl, Nat.le_of_ble_eq_true rfl⟩) ⟨ro_blind, fun U hU hW => ⟨rfl, fun k q h => by simp at h, va_K.moved hW.alike hK⟩⟩ rfl rfl hl.1 rfl (lv_room (Nat.le_of_ble_eq_true rfl)) d_SW_coil_48 ⟨Nat.le_of_ble_eq_true rfl, Nat.le_of_ble_eq_true rfl⟩) hS hP (fun r H locs er hP hS => ?_)
  subst er
  have hq48 := @b01_1 ((2 : Int) ≤ a5 ∧ a5 ≤ (40 : Int)) _
  have hr48 := @b01_le ((2 : Int) ≤ a5 ∧ a5 ≤ (40 : Int)) _
  refine ix_if_ne (tgt := 64) hx hb (nI_tI (n := b01 ((2 : Int) ≤ a5 ∧ a5 ≤ (40 : Int))) (by omega)) d_SW_coil_51 (by decide) (fun c_51 => ?_) (fun c_51 => absurd c_51 (by omega))
  refine lv_aload_n hx hb d_SW_coil_64 rfl (lv_at hl 0 rfl) ?_
  refine va_get (D := (dC, dI)) (ci := 6) (v := .ref k0) (C := R_SW) (T := F_SW) (N := 7) hx hb hts in_SW hown hK hP 0 rfl rfl 0 (by decide) (hts _ m_222) (fun _ h9 => h9) rfl d_SW_coil_65 ?_
  refine lv_iload_n hx hb d_SW_coil_68 rfl (lv_at hl 1 rfl) ?_
  refine lv_topr (show _ = nI a1.toNat from z_toN (by omega)) ?_
  refine va_put (D := (dC, dI)) (ci := 0) (v := .int (nI a1.toNat)) (ty := .int) (C := R_CO) (T := F_CO) (N := 5) hx hb hts in_CO t_CO t_CO_ok n_CO hown hK hP hD hS 1 rfl rfl 0 (by decide) (hts _ m_35) (fun _ h9 => h9) rfl (by decide +kernel) rfl rfl (Nat.le_of_ble_eq_true rfl) d_SW_coil_69 (fun H locs hP hD hS => ?_)
  have hP : va_P (dC, dI) vwCl [(x0, .inr (6, [.ref k0, .ref v0, .ref a0, .ref j0, .ref q, .ref qa, .int (nI sc)])), (k0, .inr (0, [.int (nI a1.toNat), .int (nI ck), .int (nI cr), .int (nI cf), .int (nI cn)])), (a0, .inr (2, [.ref ab, .int (nI bn), .int (nI bf), .int (nI kn), .ref ap, .ref aq, .ref ac, .int (zI room), .int (nI most), .int (nI bs)]))] H := hP
  have hD : va_D A [(x0, .inr (6, [.ref k0, .ref v0, .ref a0, .ref j0, .ref q, .ref qa, .int (nI sc)])), (k0, .inr (0, [.int (nI a1.toNat), .int (nI ck), .int (nI cr), .int (nI cf), .int (nI cn)])), (a0, .inr (2, [.ref ab, .int (nI bn), .int (nI bf), .int (nI kn), .ref ap, .ref aq, .ref ac, .int (zI room), .int (nI most), .int (nI bs)]))] := hD
  refine lv_aload_n hx hb d_SW_coil_72 rfl (lv_at hl 0 rfl) ?_
  refine va_get (D := (dC, dI)) (ci := 6) (v := .ref k0) (C := R_SW) (T := F_SW) (N := 7) hx hb hts in_SW hown hK hP 0 rfl rfl 0 (by decide) (hts _ m_222) (fun _ h9 => h9) rfl d_SW_coil_73 ?_
  refine lv_iload_n hx hb d_SW_coil_76 rfl (lv_at hl 2 rfl) ?_
  refine lv_topr (show _ = nI a2.toNat from z_toN (by omega)) ?_
  refine va_put (D := (dC, dI)) (ci := 0) (v := .int (nI a2.toNat)) (ty := .int) (C := R_CO) (T := F_CO) (N := 5) hx hb hts in_CO t_CO t_CO_ok n_CO hown hK hP hD hS 1 rfl rfl 1 (by decide) (hts _ m_38) (fun _ h9 => h9) rfl (by decide +kernel) rfl rfl (Nat.le_of_ble_eq_true rfl) d_SW_coil_77 (fun H locs hP hD hS => ?_)
  have hP : va_P (dC, dI) vwCl [(x0, .inr (6, [.ref k0, .ref v0, .ref a0, .ref j0, .ref q, .ref qa, .int (nI sc)])), (k0, .inr (0, [.int (nI a1.toNat), .int (nI a2.toNat), .int (nI cr), .int (nI cf), .int (nI cn)])), (a0, .inr (2, [.ref ab, .int (nI bn), .int (nI bf), .int (nI kn), .ref ap, .ref aq, .ref ac, .int (zI room), .int (nI most), .int (nI bs)]))] H := hP
  have hD : va_D A [(x0, .inr (6, [.ref k0, .ref v0, .ref a0, .ref j0, .ref q, .ref qa, .int (nI sc)])), (k0, .inr (0, [.int (nI a1.toNat), .int (nI a2.toNat), .int (nI cr), .int (nI cf), .int (nI cn)])), (a0, .inr (2, [.ref ab, .int (nI bn), .int (nI bf), .int (nI kn), .ref ap, .ref aq, .ref ac, .int (zI room), .int (nI most), .int (nI bs)]))] := hD
  refine lv_aload_n hx hb d_SW_coil_80 rfl (lv_at hl 0 rfl) ?_
  refine va_get (D := (dC, dI)) (ci := 6) (v := .ref k0) (C := R_SW) (T := F_SW) (N := 7) hx hb hts in_SW hown hK hP 0 rfl rfl 0 (by decide) (hts _ m_222) (fun _ h9 => h9) rfl d_SW_coil_81 ?_
  refine lv_iload_n hx hb d_SW_coil_84 rfl (lv_at hl 3 rfl) ?_
  refine lv_topr (show _ = nI a3.toNat from z_toN (by omega)) ?_
  refine va_put (D := (dC, dI)) (ci := 0) (v := .int (nI a3.toNat)) (ty := .int) (C := R_CO) (T := F_CO) (N := 5) hx hb hts in_CO t_CO t_CO_ok n_CO hown hK hP hD hS 1 rfl rfl 2 (by decide) (hts _ m_42) (fun _ h9 => h9) rfl (by decide +kernel) rfl rfl (Nat.le_of_ble_eq_true rfl) d_SW_coil_85 (fun H locs hP hD hS => ?_)
  have hP : va_P (dC, dI) vwCl [(x0, .inr (6, [.ref k0, .ref v0, .ref a0, .ref j0, .ref q, .ref qa, .int (nI sc)])), (k0, .inr (0, [.int (nI a1.toNat), .int (nI a2.toNat), .int (nI a3.toNat), .int (nI cf), .int (nI cn)])), (a0, .inr (2, [.ref ab, .int (nI bn), .int (nI bf), .int (nI kn), .ref ap, .ref aq, .ref ac, .int (zI room), .int (nI most), .int (nI bs)]))] H := hP
  have hD : va_D A [(x0, .inr (6, [.ref k0, .ref v0, .ref a0, .ref j0, .ref q, .ref qa, .int (nI sc)])), (k0, .inr (0, [.int (nI a1.toNat), .int (nI a2.toNat), .int (nI a3.toNat), .int (nI cf), .int (nI cn)])), (a0, .inr (2, [.ref ab, .int (nI bn), .int (nI bf), .int (nI kn), .ref ap, .ref aq, .ref ac, .int (zI room), .int (nI most), .int (nI bs)]))] := hD
  refine lv_aload_n hx hb d_SW_coil_88 rfl (lv_at hl 0 rfl) ?_
  refine va_get (D := (dC, dI)) (ci := 6) (v := .ref k0) (C := R_SW) (T := F_SW) (N := 7) hx hb hts in_SW hown hK hP 0 rfl rfl 0 (by decide) (hts _ m_222) (fun _ h9 => h9) rfl d_SW_coil_89 ?_
  refine lv_iload hx hb d_SW_coil_92 (lv_at hl 4 rfl) ?_
  refine lv_topr (show _ = nI a4.toNat from z_toN (by omega)) ?_
  refine va_put (D := (dC, dI)) (ci := 0) (v := .int (nI a4.toNat)) (ty := .int) (C := R_CO) (T := F_CO) (N := 5) hx hb hts in_CO t_CO t_CO_ok n_CO hown hK hP hD hS 1 rfl rfl 3 (by decide) (hts _ m_45) (fun _ h9 => h9) rfl (by decide +kernel) rfl rfl (Nat.le_of_ble_eq_true rfl) d_SW_coil_94 (fun H locs hP hD hS => ?_)
  have hP : va_P (dC, dI) vwCl [(x0, .inr (6, [.ref k0, .ref v0, .ref a0, .ref j0, .ref q, .ref qa, .int (nI sc)])), (k0, .inr (0, [.int (nI a1.toNat), .int (nI a2.toNat), .int (nI a3.toNat), .int (nI a4.toNat), .int (nI cn)])), (a0, .inr (2, [.ref ab, .int (nI bn), .int (nI bf), .int (nI kn), .ref ap, .ref aq, .ref ac, .int (zI room), .int (nI most), .int (nI bs)]))] H := hP
  have hD : va_D A [(x0, .inr (6, [.ref k0, .ref v0, .ref a0, .ref j0, .ref q, .ref qa, .int (nI sc)])), (k0, .inr (0, [.int (nI a1.toNat), .int (nI a2.toNat), .int (nI a3.toNat), .int (nI a4.toNat), .int (nI cn)])), (a0, .inr (2, [.ref ab, .int (nI bn), .int (nI bf), .int (nI kn), .ref ap, .ref aq, .ref ac, .int (zI room), .int (nI most), .int (nI bs)]))] := hD
  refine lv_aload_n hx hb d_SW_coil_97 rfl (lv_at hl 0 rfl) ?_
  refine va_get (D := (dC, dI)) (ci := 6) (v := .ref k0) (C := R_SW) (T := F_SW) (N := 7) hx hb hts in_SW hown hK hP 0 rfl rfl 0 (by decide) (hts _ m_222) (fun _ h9 => h9) rfl d_SW_coil_98 ?_
  refine lv_iload hx hb d_SW_coil_101 (lv_at hl 5 rfl) ?_
  refine lv_topr (show _ = nI a5.toNat from z_toN (by omega)) ?_
  refine va_put (D := (dC, dI)) (ci := 0) (v := .int (nI a5.toNat)) (ty := .int) (C := R_CO) (T := F_CO) (N := 5) hx hb hts in_CO t_CO t_CO_ok n_CO hown hK hP hD hS 1 rfl rfl 4 (by decide) (hts _ m_49) (fun _ h9 => h9) rfl (by decide +kernel) rfl rfl (Nat.le_of_ble_eq_true rfl) d_SW_coil_103 (fun H locs hP hD hS => ?_)
  have hP : va_P (dC, dI) vwCl [(x0, .inr (6, [.ref k0, .ref v0, .ref a0, .ref j0, .ref q, .ref qa, .int (nI sc)])), (k0, .inr (0, [.int (nI a1.toNat), .int (nI a2.toNat), .int (nI a3.toNat), .int (nI a4.toNat), .int (nI a5.toNat)])), (a0, .inr (2, [.ref ab, .int (nI bn), .int (nI bf), .int (nI kn), .ref ap, .ref aq, .ref ac, .int (zI room), .int (nI most), .int (nI bs)]))] H := hP
  have hD : va_D A [(x0, .inr (6, [.ref k0, .ref v0, .ref a0, .ref j0, .ref q, .ref qa, .int (nI sc)])), (k0, .inr (0, [.int (nI a1.toNat), .int (nI a2.toNat), .int (nI a3.toNat), .int (nI a4.toNat), .int (nI a5.toNat)])), (a0, .inr (2, [.ref ab, .int (nI bn), .int (nI bf), .int (nI kn), .ref ap, .ref aq, .ref ac, .int (zI room), .int (nI most), .int (nI bs)]))] := hD
  refine lv_aload_n hx hb d_SW_coil_106 rfl (lv_at hl 0 rfl) ?_
  refine va_get (D := (dC, dI)) (ci := 6) (v := .ref a0) (C := R_SW) (T := F_SW) (N := 7) hx hb hts in_SW hown hK hP 0 rfl rfl 2 (by decide) (hts _ m_224) (fun _ h9 => h9) rfl d_SW_coil_107 ?_
  refine lv_iconst (v := nI 0) hx hb d_SW_coil_110 (by decide +kernel) ?_
  refine va_put (D := (dC, dI)) (ci := 2) (v := .int (nI 0)) (ty := .boolean) (C := R_PS) (T := F_PS) (N := 10) hx hb hts in_PS t_PS t_PS_ok n_PS hown hK hP hD hS 2 rfl rfl 3 (by decide) (hts _ m_101) (fun _ h9 => h9) rfl (by decide +kernel) (by decide +kernel) (by decide +kernel) (Nat.le_of_ble_eq_true rfl) d_SW_coil_111 (fun H locs hP hD hS => ?_)
  have hP : va_P (dC, dI) vwCl [(x0, .inr (6, [.ref k0, .ref v0, .ref a0, .ref j0, .ref q, .ref qa, .int (nI sc)])), (k0, .inr (0, [.int (nI a1.toNat), .int (nI a2.toNat), .int (nI a3.toNat), .int (nI a4.toNat), .int (nI a5.toNat)])), (a0, .inr (2, [.ref ab, .int (nI bn), .int (nI bf), .int (nI 0), .ref ap, .ref aq, .ref ac, .int (zI room), .int (nI most), .int (nI bs)]))] H := hP
  have hD : va_D A [(x0, .inr (6, [.ref k0, .ref v0, .ref a0, .ref j0, .ref q, .ref qa, .int (nI sc)])), (k0, .inr (0, [.int (nI a1.toNat), .int (nI a2.toNat), .int (nI a3.toNat), .int (nI a4.toNat), .int (nI a5.toNat)])), (a0, .inr (2, [.ref ab, .int (nI bn), .int (nI bf), .int (nI 0), .ref ap, .ref aq, .ref ac, .int (zI room), .int (nI most), .int (nI bs)]))] := hD
  exact W.vret hx hb hr (fun t ht hW => ⟨⟨(), rfl, trivial, by rw [ht]; exact hP, va_K.moved hW.alike hK, hD⟩, hS.F ht⟩) hS.2.2 d_SW_coil_114
set_option maxHeartbeats 4000000 in
set_option maxRecDepth 100000 in
/-- coil(..), thrown -/
theorem t_SW_coil (l : Launch) (hst : l.stackTraces = false) (dC : Nat → ClassId) (dI : Nat → Nat → Nat) (e1 e2 : Nat) (x0 : Nat) (cI : ClassId) (a1 : Int) (a2 : Int) (a3 : Int) (a4 : Int) (a5 : Int) (ha1 : -2147483648 ≤ a1 ∧ a1 < 2147483648) (ha2 : -2147483648 ≤ a2 ∧ a2 < 2147483648) (ha3 : -2147483648 ≤ a3 ∧ a3 < 2147483648) (ha4 : -2147483648 ≤ a4 ∧ a4 < 2147483648) (ha5 : -2147483648 ≤ a5 ∧ a5 < 2147483648) (hG : ¬ ((1 ≤ a1 ∧ a1 ≤ 20000) ∧ (1 ≤ a2 ∧ a2 ≤ 50000) ∧ (0 ≤ a3 ∧ a3 ≤ 1000) ∧ (0 ≤ a4 ∧ a4 ≤ 100) ∧ (2 ≤ a5 ∧ a5 ≤ 40))) : TMet l y_SW_coil w_SW_coil { frames := 6, cells := 1, slots := 6, locals := 82 } (ey e1 e2 (ro_Pc (dC, dI) vwCl [(cI, .int)] [.ref x0, .int (zI a1), .int (zI a2), .int (zI a3), .int (zI a4), .int (zI a5)] [])) "java/lang/IllegalArgumentException" B0 1 6 ro_no := by
  refine TMet.ofW (cc := b_SW_coil) (maxL := 6) (ret := none) (by decide) rfl ?_
  intro p e s m args below meth c s₁ B hml hemp hv
  obtain ⟨⟨rfl, hP, hK⟩, hEY⟩ := hv
  have hx := B.exec
  have hb := B.bytes
  have hts := gw_h (atoms_spec (ws := w_SW_coil) B.pre)
  have hown : s.vm.findClass R_SW = some m.cls := findClass_of_methodNamed B.named
  have hlocks := B.notSynchronized
  have hS : va_S ro_no s.heap s.heap [] := va_S.rf
  have hP : va_P (dC, dI) vwCl [] s.heap := hP
  have hl := lv_entry ([.ref x0, .int (zI a1), .int (zI a2), .int (zI a3), .int (zI a4), .int (zI a5)]) (n := 6) (Nat.le_of_ble_eq_true rfl)
  rw [lg_entry_eq]
  generalize (lg_sl ([.ref x0, .int (zI a1), .int (zI a2), .int (zI a3), .int (zI a4), .int (zI a5)]) ++ List.replicate (6 - (lg_sl ([.ref x0, .int (zI a1), .int (zI a2), .int (zI a3), .int (zI a4), .int (zI a5)])).length) Slot.unset).toArray = ls at hl ⊢
  have hl : lv_has ls 6 [(0, .ref x0), (1, .int (zI a1)), (2, .int (zI a2)), (3, .int (zI a3)), (4, .int (zI a4)), (5, .int (zI a5))] := hl
  refine lv_iload_n hx hb d_SW_coil_0 rfl (lv_at hl 1 rfl) ?_
  refine lv_iconst (v := nI 1) hx hb d_SW_coil_1 (by decide +kernel) ?_
  refine lv_sipush (v := nI 20000) hx hb d_SW_coil_2 (by decide +kernel) ?_
  refine lv_arg3 (show _ = zI a1 from rfl) (show _ = zI 1 from zI_n _) (show _ = zI 20000 from zI_n _) ?_
  refine ro_calli (va_runS (As := [.int (zI a1), .int (zI (1 : Int)), .int (zI (20000 : Int))]) (rest := []) ⟨hx, hb, hml, hown, hts⟩ (c_SW_within l dC dI cI a1 (1 : Int) (20000 : Int) ha1 (by omega) (by omega)) (va_cwS 3 hts (gw_S m_318 m_319 m_1 m_320) rfl rfl rfl (by decide +kernel) ⟨Nat.le_of_ble_eq_true rfl, Nat.le_of_ble_eq_true rfl⟩) ⟨ro_blind, fun U hU hW => ⟨rfl, fun k q h => by simp at h, va_K.moved hW.alike hK⟩⟩ rfl rfl hl.1 rfl (lv_room (Nat.le_of_ble_eq_true rfl)) d_SW_coil_5 ⟨Nat.le_of_ble_eq_true rfl, Nat.le_of_ble_eq_true rfl⟩) hS hP (fun r H locs er hP hS => ?_)
  subst er
  have hq5 := @b01_1 ((1 : Int) ≤ a1 ∧ a1 ≤ (20000 : Int)) _
  have hr5 := @b01_le ((1 : Int) ≤ a1 ∧ a1 ≤ (20000 : Int)) _
  refine ix_if_eq (tgt := 54) hx hb (nI_tI (n := b01 ((1 : Int) ≤ a1 ∧ a1 ≤ (20000 : Int))) (by omega)) d_SW_coil_8 (by decide) (fun c_8 => ?_) (fun c_8 => ?_)
  · obtain ⟨xq, hZ⟩ := hEY.2.1 (62, "no such coil") (by decide)
    exact th_new (E := "java/lang/IllegalArgumentException") (own := "SlitWidths") (tx := "no such coil") (xq := xq) (a1 := e1) (a2 := e2) hx hb hst hown hts hEY.1 hZ (hts _ m_322) (hts _ m_323) (hts _ m_12) at_64 (by decide) hS (hl.1.trans hml.symm) hemp hlocks (Nat.le_of_ble_eq_true rfl) (Nat.le_of_ble_eq_true rfl) (Nat.le_of_ble_eq_true rfl) (Nat.le_of_ble_eq_true rfl) d_SW_coil_54 d_SW_coil_57 d_SW_coil_58 d_SW_coil_60 d_SW_coil_63
  refine lv_iload_n hx hb d_SW_coil_11 rfl (lv_at hl 2 rfl) ?_
  refine lv_iconst (v := nI 1) hx hb d_SW_coil_12 (by decide +kernel) ?_
  refine lv_ldc (v := nI 50000) hx hb hown (hts _ m_321) d_SW_coil_13 ?_
  refine lv_arg3 (show _ = zI a2 from rfl) (show _ = zI 1 from zI_n _) (show _ = zI 50000 from zI_n _) ?_
  refine ro_calli (va_runS (As := [.int (zI a2), .int (zI (1 : Int)), .int (zI (50000 : Int))]) (rest := []) ⟨hx, hb, hml, hown, hts⟩ (c_SW_within l dC dI cI a2 (1 : Int) (50000 : Int) ha2 (by omega) (by omega)) (va_cwS 3 hts (gw_S m_318 m_319 m_1 m_320) rfl rfl rfl (by decide +kernel) ⟨Nat.le_of_ble_eq_true rfl, Nat.le_of_ble_eq_true rfl⟩) ⟨ro_blind, fun U hU hW => ⟨rfl, fun k q h => by simp at h, va_K.moved hW.alike hK⟩⟩ rfl rfl hl.1 rfl (lv_room (Nat.le_of_ble_eq_true rfl)) d_SW_coil_15 ⟨Nat.le_of_ble_eq_true rfl, Nat.le_of_ble_eq_true rfl⟩) hS hP (fun r H locs er hP hS => ?_)
  subst er
  have hq15 := @b01_1 ((1 : Int) ≤ a2 ∧ a2 ≤ (50000 : Int)) _
  have hr15 := @b01_le ((1 : Int) ≤ a2 ∧ a2 ≤ (50000 : Int)) _
  refine ix_if_eq (tgt := 54) hx hb (nI_tI (n := b01 ((1 : Int) ≤ a2 ∧ a2 ≤ (50000 : Int))) (by omega)) d_SW_coil_18 (by decide) (fun c_18 => ?_) (fun c_18 => ?_)
  · obtain ⟨xq, hZ⟩ := hEY.2.1 (62, "no such coil") (by decide)
    exact th_new (E := "java/lang/IllegalArgumentException") (own := "SlitWidths") (tx := "no such coil") (xq := xq) (a1 := e1) (a2 := e2) hx hb hst hown hts hEY.1 hZ (hts _ m_322) (hts _ m_323) (hts _ m_12) at_64 (by decide) hS (hl.1.trans hml.symm) hemp hlocks (Nat.le_of_ble_eq_true rfl) (Nat.le_of_ble_eq_true rfl) (Nat.le_of_ble_eq_true rfl) (Nat.le_of_ble_eq_true rfl) d_SW_coil_54 d_SW_coil_57 d_SW_coil_58 d_SW_coil_60 d_SW_coil_63
  refine lv_iload_n hx hb d_SW_coil_21 rfl (lv_at hl 3 rfl) ?_
  refine lv_iconst (v := nI 0) hx hb d_SW_coil_22 (by decide +kernel) ?_
  refine lv_sipush (v := nI 1000) hx hb d_SW_coil_23 (by decide +kernel) ?_
  refine lv_arg3 (show _ = zI a3 from rfl) (show _ = zI 0 from zI_n _) (show _ = zI 1000 from zI_n _) ?_
  refine ro_calli (va_runS (As := [.int (zI a3), .int (zI (0 : Int)), .int (zI (1000 : Int))]) (rest := []) ⟨hx, hb, hml, hown, hts⟩ (c_SW_within l dC dI cI a3 (0 : Int) (1000 : Int) ha3 (by omega) (by omega)) (va_cwS 3 hts (gw_S m_318 m_319 m_1 m_320) rfl rfl rfl (by decide +kernel) ⟨Nat.le_of_ble_eq_true rfl, Nat.le_of_ble_eq_true rfl⟩) ⟨ro_blind, fun U hU hW => ⟨rfl, fun k q h => by simp at h, va_K.moved hW.alike hK⟩⟩ rfl rfl hl.1 rfl (lv_room (Nat.le_of_ble_eq_true rfl)) d_SW_coil_26 ⟨Nat.le_of_ble_eq_true rfl, Nat.le_of_ble_eq_true rfl⟩) hS hP (fun r H locs er hP hS => ?_)
  subst er
  have hq26 := @b01_1 ((0 : Int) ≤ a3 ∧ a3 ≤ (1000 : Int)) _
  have hr26 := @b01_le ((0 : Int) ≤ a3 ∧ a3 ≤ (1000 : Int)) _
  refine ix_if_eq (tgt := 54) hx hb (nI_tI (n := b01 ((0 : Int) ≤ a3 ∧ a3 ≤ (1000 : Int))) (by omega)) d_SW_coil_29 (by decide) (fun c_29 => ?_) (fun c_29 => ?_)
  · obtain ⟨xq, hZ⟩ := hEY.2.1 (62, "no such coil") (by decide)
    exact th_new (E := "java/lang/IllegalArgumentException") (own := "SlitWidths") (tx := "no such coil") (xq := xq) (a1 := e1) (a2 := e2) hx hb hst hown hts hEY.1 hZ (hts _ m_322) (hts _ m_323) (hts _ m_12) at_64 (by decide) hS (hl.1.trans hml.symm) hemp hlocks (Nat.le_of_ble_eq_true rfl) (Nat.le_of_ble_eq_true rfl) (Nat.le_of_ble_eq_true rfl) (Nat.le_of_ble_eq_true rfl) d_SW_coil_54 d_SW_coil_57 d_SW_coil_58 d_SW_coil_60 d_SW_coil_63
  refine lv_iload hx hb d_SW_coil_32 (lv_at hl 4 rfl) ?_
  refine lv_iconst (v := nI 0) hx hb d_SW_coil_34 (by decide +kernel) ?_
  refine lv_bipush (v := nI 100) hx hb d_SW_coil_35 (by decide +kernel) ?_
  refine lv_arg3 (show _ = zI a4 from rfl) (show _ = zI 0 from zI_n _) (show _ = zI 100 from zI_n _) ?_
  refine ro_calli (va_runS (As := [.int (zI a4), .int (zI (0 : Int)), .int (zI (100 : Int))]) (rest := []) ⟨hx, hb, hml, hown, hts⟩ (c_SW_within l dC dI cI a4 (0 : Int) (100 : Int) ha4 (by omega) (by omega)) (va_cwS 3 hts (gw_S m_318 m_319 m_1 m_320) rfl rfl rfl (by decide +kernel) ⟨Nat.le_of_ble_eq_true rfl, Nat.le_of_ble_eq_true rfl⟩) ⟨ro_blind, fun U hU hW => ⟨rfl, fun k q h => by simp at h, va_K.moved hW.alike hK⟩⟩ rfl rfl hl.1 rfl (lv_room (Nat.le_of_ble_eq_true rfl)) d_SW_coil_37 ⟨Nat.le_of_ble_eq_true rfl, Nat.le_of_ble_eq_true rfl⟩) hS hP (fun r H locs er hP hS => ?_)
  subst er
  have hq37 := @b01_1 ((0 : Int) ≤ a4 ∧ a4 ≤ (100 : Int)) _
  have hr37 := @b01_le ((0 : Int) ≤ a4 ∧ a4 ≤ (100 : Int)) _
  refine ix_if_eq (tgt := 54) hx hb (nI_tI (n := b01 ((0 : Int) ≤ a4 ∧ a4 ≤ (100 : Int))) (by omega)) d_SW_coil_40 (by decide) (fun c_40 => ?_) (fun c_40 => ?_)
  · obtain ⟨xq, hZ⟩ := hEY.2.1 (62, "no such coil") (by decide)
    exact th_new (E := "java/lang/IllegalArgumentException") (own := "SlitWidths") (tx := "no such coil") (xq := xq) (a1 := e1) (a2 := e2) hx hb hst hown hts hEY.1 hZ (hts _ m_322) (hts _ m_323) (hts _ m_12) at_64 (by decide) hS (hl.1.trans hml.symm) hemp hlocks (Nat.le_of_ble_eq_true rfl) (Nat.le_of_ble_eq_true rfl) (Nat.le_of_ble_eq_true rfl) (Nat.le_of_ble_eq_true rfl) d_SW_coil_54 d_SW_coil_57 d_SW_coil_58 d_SW_coil_60 d_SW_coil_63
  refine lv_iload hx hb d_SW_coil_43 (lv_at hl 5 rfl) ?_
  refine lv_iconst (v := nI 2) hx hb d_SW_coil_45 (by decide +kernel) ?_
  refine lv_bipush (v := nI 40) hx hb d_SW_coil_46 (by decide +kernel) ?_
  refine lv_arg3 (show _ = zI a5 from rfl) (show _ = zI 2 from zI_n _) (show _ = zI 40 from zI_n _) ?_
  refine ro_calli (va_runS (As := [.int (zI a5), .int (zI (2 : Int)), .int (zI (40 : Int))]) (rest := []) ⟨hx, hb, hml, hown, hts⟩ (c_SW_within l dC dI cI a5 (2 : Int) (40 : Int) ha5 (by omega) (by omega)) (va_cwS 3 hts (gw_S m_318 m_319 m_1 m_320) rfl rfl rfl (by decide +kernel) ⟨Nat.le_of_ble_eq_true rfl, Nat.le_of_ble_eq_true rfl⟩) ⟨ro_blind, fun U hU hW => ⟨rfl, fun k q h => by simp at h, va_K.moved hW.alike hK⟩⟩ rfl rfl hl.1 rfl (lv_room (Nat.le_of_ble_eq_true rfl)) d_SW_coil_48 ⟨Nat.le_of_ble_eq_true rfl, Nat.le_of_ble_eq_true rfl⟩) hS hP (fun r H locs er hP hS => ?_)
  subst er
  have hq48 := @b01_1 ((2 : Int) ≤ a5 ∧ a5 ≤ (40 : Int)) _
  have hr48 := @b01_le ((2 : Int) ≤ a5 ∧ a5 ≤ (40 : Int)) _
  refine ix_if_ne (tgt := 64) hx hb (nI_tI (n := b01 ((2 : Int) ≤ a5 ∧ a5 ≤ (40 : Int))) (by omega)) d_SW_coil_51 (by decide) (fun c_51 => absurd c_51 (by omega)) (fun c_51 => ?_)
  obtain ⟨xq, hZ⟩ := hEY.2.1 (62, "no such coil") (by decide)
  exact th_new (E := "java/lang/IllegalArgumentException") (own := "SlitWidths") (tx := "no such coil") (xq := xq) (a1 := e1) (a2 := e2) hx hb hst hown hts hEY.1 hZ (hts _ m_322) (hts _ m_323) (hts _ m_12) at_64 (by decide) hS (hl.1.trans hml.symm) hemp hlocks (Nat.le_of_ble_eq_true rfl) (Nat.le_of_ble_eq_true rfl) (Nat.le_of_ble_eq_true rfl) (Nat.le_of_ble_eq_true rfl) d_SW_coil_54 d_SW_coil_57 d_SW_coil_58 d_SW_coil_60 d_SW_coil_63
set_option maxHeartbeats 4000000 in
set_option maxRecDepth 100000 in
/-- want(..), a good one -/
theorem c_SW_want (l : Launch) (dC : Nat → ClassId) (dI : Nat → Nat → Nat) (sz : Nat) (x0 k0 v0 a0 j0 q qa : Nat) (cI : ClassId) (ab ap aq ac vw vs : Nat) (wd st : Nat → Nat) (bn bf kn most bs cnt sc : Nat) (room : Int) (a1 : Int) (a2 : Int) (ha1 : -2147483648 ≤ a1 ∧ a1 < 2147483648) (ha2 : -2147483648 ≤ a2 ∧ a2 < 2147483648) (hc : cnt < 5) (hG : ((1 ≤ a1 ∧ a1 ≤ 20000) ∧ (0 ≤ a2 ∧ a2 ≤ 6))) : Met l y_SW_want w_SW_want { frames := 1, cells := 0, slots := 0, locals := 22 } (rw_Pc (dC, dI) vwCl [(cI, .int)] sz [.ref x0, .int (zI a1), .int (zI a2)] [(x0, .inr (6, [.ref k0, .ref v0, .ref a0, .ref j0, .ref q, .ref qa, .int (nI sc)])), (v0, .inr (5, [.ref vw, .ref vs, .int (nI cnt)])), (vw, .inl (cI, 5, .inl (aN wd))), (vs, .inl (cI, 5, .inl (aN st))), (a0, .inr (2, [.ref ab, .int (nI bn), .int (nI bf), .int (nI kn), .ref ap, .ref aq, .ref ac, .int (zI room), .int (nI most), .int (nI bs)]))]) (va_Qi (fun (r : Int32) (u : Unit) => r = nI cnt) (rw_B (dC, dI) vwCl [(cI, .int)] (va_A [(x0, .inr (6, [.ref k0, .ref v0, .ref a0, .ref j0, .ref q, .ref qa, .int (nI sc)])), (v0, .inr (5, [.ref vw, .ref vs, .int (nI cnt)])), (vw, .inl (cI, 5, .inl (aN wd))), (vs, .inl (cI, 5, .inl (aN st))), (a0, .inr (2, [.ref ab, .int (nI bn), .int (nI bf), .int (nI kn), .ref ap, .ref aq, .ref ac, .int (zI room), .int (nI most), .int (nI bs)]))] sz) (fun u : Unit => [(x0, .inr (6, [.ref k0, .ref v0, .ref a0, .ref j0, .ref q, .ref qa, .int (nI sc)])), (v0, .inr (5, [.ref vw, .ref vs, .int (nI (cnt + 1))])), (vw, .inl (cI, 5, .inl (aN (up wd cnt a1.toNat)))), (vs, .inl (cI, 5, .inl (aN (up st cnt a2.toNat)))), (a0, .inr (2, [.ref ab, .int (nI bn), .int (nI bf), .int (nI 0), .ref ap, .ref aq, .ref ac, .int (zI room), .int (nI most), .int (nI bs)]))])) (va_A [(x0, .inr (6, [.ref k0, .ref v0, .ref a0, .ref j0, .ref q, .ref qa, .int (nI sc)])), (v0, .inr (5, [.ref vw, .ref vs, .int (nI cnt)])), (vw, .inl (cI, 5, .inl (aN wd))), (vs, .inl (cI, 5, .inl (aN st))), (a0, .inr (2, [.ref ab, .int (nI bn), .int (nI bf), .int (nI kn), .ref ap, .ref aq, .ref ac, .int (zI room), .int (nI most), .int (nI bs)]))] sz)) 0 0 (va_A [(x0, .inr (6, [.ref k0, .ref v0, .ref a0, .ref j0, .ref q, .ref qa, .int (nI sc)])), (v0, .inr (5, [.ref vw, .ref vs, .int (nI cnt)])), (vw, .inl (cI, 5, .inl (aN wd))), (vs, .inl (cI, 5, .inl (aN st))), (a0, .inr (2, [.ref ab, .int (nI bn), .int (nI bf), .int (nI kn), .ref ap, .ref aq, .ref ac, .int (zI room), .int (nI most), .int (nI bs)]))] sz) := by
  refine Met.ofW (cc := b_SW_want) (maxL := 4) (ret := (some .int)) (by decide) rfl ?_
  intro p e s m args below meth c s₁ B hml hv
  obtain ⟨rfl, hsz, hP, hK, hD0⟩ := hv
  have hx := B.exec
  have hb := B.bytes
  have hr := B.returns
  have hts := gw_h (atoms_spec (ws := w_SW_want) B.pre)
  have hown : s.vm.findClass R_SW = some m.cls := findClass_of_methodNamed B.named
  have hlocks := B.notSynchronized
  subst hsz
  have hD := hD0.self (sz := s.heap.size)
  generalize hAe : va_A [(x0, .inr (6, [.ref k0, .ref v0, .ref a0, .ref j0, .ref q, .ref qa, .int (nI sc)])), (v0, .inr (5, [.ref vw, .ref vs, .int (nI cnt)])), (vw, .inl (cI, 5, .inl (aN wd))), (vs, .inl (cI, 5, .inl (aN st))), (a0, .inr (2, [.ref ab, .int (nI bn), .int (nI bf), .int (nI kn), .ref ap, .ref aq, .ref ac, .int (zI room), .int (nI most), .int (nI bs)]))] s.heap.size = A at hD ⊢
  have hA : ∀ q : Nat, s.heap.size ≤ q → A q := fun q h => by rw [← hAe]; exact Or.inr h
  have hS : va_S A s.heap s.heap [] := va_S.rf
  have hP : va_P (dC, dI) vwCl [(x0, .inr (6, [.ref k0, .ref v0, .ref a0, .ref j0, .ref q, .ref qa, .int (nI sc)])), (v0, .inr (5, [.ref vw, .ref vs, .int (nI cnt)])), (vw, .inl (cI, 5, .inl (aN wd))), (vs, .inl (cI, 5, .inl (aN st))), (a0, .inr (2, [.ref ab, .int (nI bn), .int (nI bf), .int (nI kn), .ref ap, .ref aq, .ref ac, .int (zI room), .int (nI most), .int (nI bs)]))] s.heap := hP
  have hl := lv_entry ([.ref x0, .int (zI a1), .int (zI a2)]) (n := 4) (Nat.le_of_ble_eq_true rfl)
  rw [lg_entry_eq]
  generalize (lg_sl ([.ref x0, .int (zI a1), .int (zI a2)]) ++ List.replicate (4 - (lg_sl ([.ref x0, .int (zI a1), .int (zI a2)])).length) Slot.unset).toArray = ls at hl ⊢
  have hl : lv_has ls 4 [(0, .ref x0), (1, .int (zI a1)), (2, .int (zI a2))] := hl
  refine lv_aload_n hx hb d_SW_want_0 rfl (lv_at hl 0 rfl) ?_
  refine va_get (D := (dC, dI)) (ci := 6) (v := .ref v0) (C := R_SW) (T := F_SW) (N := 7) hx hb hts in_SW hown hK hP 0 rfl rfl 1 (by decide) (hts _ m_223) (fun _ h9 => h9) rfl d_SW_want_1 ?_
  refine va_get (D := (dC, dI)) (ci := 5) (v := .int (nI cnt)) (C := R_WI) (T := F_WI) (N := 3) hx hb hts in_WI hown hK hP 1 rfl rfl 2 (by decide) (hts _ m_76) (fun _ h9 => h9) rfl d_SW_want_4 ?_
  refine lv_iconst (v := nI 5) hx hb d_SW_want_7 (by decide +kernel) ?_
  refine ix_icmp_lt (tgt := 21) hx hb (nI_tI (n := cnt) (by omega)) (nI_tI (n := 5) (by omega)) d_SW_want_8 (by decide) (fun c_8 => ?_) (fun c_8 => absurd c_8 (by omega))
  refine lv_iload_n hx hb d_SW_want_21 rfl (lv_at hl 1 rfl) ?_
  refine lv_iconst (v := nI 1) hx hb d_SW_want_22 (by decide +kernel) ?_
  refine lv_sipush (v := nI 20000) hx hb d_SW_want_23 (by decide +kernel) ?_
  refine lv_arg3 (show _ = zI a1 from rfl) (show _ = zI 1 from zI_n _) (show _ = zI 20000 from zI_n _) ?_
  refine ro_calli (va_runS (As := [.int (zI a1), .int (zI (1 : Int)), .int (zI (20000 : Int))]) (rest := []) ⟨hx, hb, hml, hown, hts⟩ (c_SW_within l dC dI cI a1 (1 : Int) (20000 : Int) ha1 (by omega) (by omega)) (va_cwS 3 hts (gw_S m_318 m_319 m_1 m_320) rfl rfl rfl (by decide +kernel) ⟨Nat.le_of_ble_eq_true rfl, Nat.le_of_ble_eq_true rfl⟩) ⟨ro_blind, fun U hU hW => ⟨rfl, fun k q h => by simp at h, va_K.moved hW.alike hK⟩⟩ rfl rfl hl.1 rfl (lv_room (Nat.le_of_ble_eq_true rfl)) d_SW_want_26 ⟨Nat.le_of_ble_eq_true rfl, Nat.le_of_ble_eq_true rfl⟩) hS hP (fun r H locs er hP hS => ?_)
  subst er
  have hq26 := @b01_1 ((1 : Int) ≤ a1 ∧ a1 ≤ (20000 : Int)) _
  have hr26 := @b01_le ((1 : Int) ≤ a1 ∧ a1 ≤ (20000 : Int)) _
  refine ix_if_eq (tgt := 42) hx hb (nI_tI (n := b01 ((1 : Int) ≤ a1 ∧ a1 ≤ (20000 : Int))) (by omega)) d_SW_want_29 (by decide) (fun c_29 => absurd c_29 (by omega)) (fun c_29 => ?_)
  refine lv_iload_n hx hb d_SW_want_32 rfl (lv_at hl 2 rfl) ?_
  refine lv_iconst (v := nI 0) hx hb d_SW_want_33 (by decide +kernel) ?_
  refine lv_bipush (v := nI 6) hx hb d_SW_want_34 (by decide +kernel) ?_
  refine lv_arg3 (show _ = zI a2 from rfl) (show _ = zI 0 from zI_n _) (show _ = zI 6 from zI_n _) ?_
  refine ro_calli (va_runS (As := [.int (zI a2), .int (zI (0 : Int)), .int (zI (6 : Int))]) (rest := []) ⟨hx, hb, hml, hown, hts⟩ (c_SW_within l dC dI cI a2 (0 : Int) (6 : Int) ha2 (by omega) (by omega)) (va_cwS 3 hts (gw_S m_318 m_319 m_1 m_320) rfl rfl rfl (by decide +kernel) ⟨Nat.le_of_ble_eq_true rfl, Nat.le_of_ble_eq_true rfl⟩) ⟨ro_blind, fun U hU hW => ⟨rfl, fun k q h => by simp at h, va_K.moved hW.alike hK⟩⟩ rfl rfl hl.1 rfl (lv_room (Nat.le_of_ble_eq_true rfl)) d_SW_want_36 ⟨Nat.le_of_ble_eq_true rfl, Nat.le_of_ble_eq_true rfl⟩) hS hP (fun r H locs er hP hS => ?_)
  subst er
  have hq36 := @b01_1 ((0 : Int) ≤ a2 ∧ a2 ≤ (6 : Int)) _
  have hr36 := @b01_le ((0 : Int) ≤ a2 ∧ a2 ≤ (6 : Int)) _
  refine ix_if_ne (tgt := 52) hx hb (nI_tI (n := b01 ((0 : Int) ≤ a2 ∧ a2 ≤ (6 : Int))) (by omega)) d_SW_want_39 (by decide) (fun c_39 => ?_) (fun c_39 => absurd c_39 (by omega))
  refine lv_aload_n hx hb d_SW_want_52 rfl (lv_at hl 0 rfl) ?_
  refine va_get (D := (dC, dI)) (ci := 6) (v := .ref v0) (C := R_SW) (T := F_SW) (N := 7) hx hb hts in_SW hown hK hP 0 rfl rfl 1 (by decide) (hts _ m_223) (fun _ h9 => h9) rfl d_SW_want_53 ?_
  refine va_get (D := (dC, dI)) (ci := 5) (v := .int (nI cnt)) (C := R_WI) (T := F_WI) (N := 3) hx hb hts in_WI hown hK hP 1 rfl rfl 2 (by decide) (hts _ m_76) (fun _ h9 => h9) rfl d_SW_want_56 ?_
  refine lv_istore_n (lv' := [(3, .int (nI cnt)), (0, .ref x0), (1, .int (zI a1)), (2, .int (zI a2))]) hx hb d_SW_want_59 rfl hl (by decide) rfl (fun ls hl => ?_)
  refine lv_aload_n hx hb d_SW_want_60 rfl (lv_at hl 1 rfl) ?_
  refine va_get (D := (dC, dI)) (ci := 6) (v := .ref v0) (C := R_SW) (T := F_SW) (N := 7) hx hb hts in_SW hown hK hP 0 rfl rfl 1 (by decide) (hts _ m_223) (fun _ h9 => h9) rfl d_SW_want_61 ?_
  refine va_get (D := (dC, dI)) (ci := 5) (v := .ref vw) (C := R_WI) (T := F_WI) (N := 3) hx hb hts in_WI hown hK hP 1 rfl rfl 0 (by decide) (hts _ m_70) (fun _ h9 => h9) rfl d_SW_want_64 ?_
  refine lv_iload_n hx hb d_SW_want_67 rfl (lv_at hl 0 rfl) ?_
  refine lv_iload_n hx hb d_SW_want_68 rfl (lv_at hl 2 rfl) ?_
  refine lv_topr (show _ = nI a1.toNat from z_toN (by omega)) ?_
  refine ix_iast (i := cnt) hx hb hK hP hD hS 2 0 rfl rfl (by omega) (by decide) d_SW_want_69 (fun H locs hP hD hS => ?_)
  have hP : va_P (dC, dI) vwCl [(x0, .inr (6, [.ref k0, .ref v0, .ref a0, .ref j0, .ref q, .ref qa, .int (nI sc)])), (v0, .inr (5, [.ref vw, .ref vs, .int (nI cnt)])), (vw, .inl (cI, 5, .inl (aN (up wd cnt a1.toNat)))), (vs, .inl (cI, 5, .inl (aN st))), (a0, .inr (2, [.ref ab, .int (nI bn), .int (nI bf), .int (nI kn), .ref ap, .ref aq, .ref ac, .int (zI room), .int (nI most), .int (nI bs)]))] H := hP
  have hD : va_D A [(x0, .inr (6, [.ref k0, .ref v0, .ref a0, .ref j0, .ref q, .ref qa, .int (nI sc)])), (v0, .inr (5, [.ref vw, .ref vs, .int (nI cnt)])), (vw, .inl (cI, 5, .inl (aN (up wd cnt a1.toNat)))), (vs, .inl (cI, 5, .inl (aN st))), (a0, .inr (2, [.ref ab, .int (nI bn), .int (nI bf), .int (nI kn), .ref ap, .ref aq, .ref ac, .int (zI room), .int (nI most), .int (nI bs)]))] := hD
  refine lv_aload_n hx hb d_SW_want_70 rfl (lv_at hl 1 rfl) ?_
  refine va_get (D := (dC, dI)) (ci := 6) (v := .ref v0) (C := R_SW) (T := F_SW) (N := 7) hx hb hts in_SW hown hK hP 0 rfl rfl 1 (by decide) (hts _ m_223) (fun _ h9 => h9) rfl d_SW_want_71 ?_
  refine va_get (D := (dC, dI)) (ci := 5) (v := .ref vs) (C := R_WI) (T := F_WI) (N := 3) hx hb hts in_WI hown hK hP 1 rfl rfl 1 (by decide) (hts _ m_73) (fun _ h9 => h9) rfl d_SW_want_74 ?_
  refine lv_iload_n hx hb d_SW_want_77 rfl (lv_at hl 0 rfl) ?_
  refine lv_iload_n hx hb d_SW_want_78 rfl (lv_at hl 3 rfl) ?_
  refine lv_topr (show _ = nI a2.toNat from z_toN (by omega)) ?_
  refine ix_iast (i := cnt) hx hb hK hP hD hS 3 0 rfl rfl (by omega) (by decide) d_SW_want_79 (fun H locs hP hD hS => ?_)
  have hP : va_P (dC, dI) vwCl [(x0, .inr (6, [.ref k0, .ref v0, .ref a0, .ref j0, .ref q, .ref qa, .int (nI sc)])), (v0, .inr (5, [.ref vw, .ref vs, .int (nI cnt)])), (vw, .inl (cI, 5, .inl (aN (up wd cnt a1.toNat)))), (vs, .inl (cI, 5, .inl (aN (up st cnt a2.toNat)))), (a0, .inr (2, [.ref ab, .int (nI bn), .int (nI bf), .int (nI kn), .ref ap, .ref aq, .ref ac, .int (zI room), .int (nI most), .int (nI bs)]))] H := hP
  have hD : va_D A [(x0, .inr (6, [.ref k0, .ref v0, .ref a0, .ref j0, .ref q, .ref qa, .int (nI sc)])), (v0, .inr (5, [.ref vw, .ref vs, .int (nI cnt)])), (vw, .inl (cI, 5, .inl (aN (up wd cnt a1.toNat)))), (vs, .inl (cI, 5, .inl (aN (up st cnt a2.toNat)))), (a0, .inr (2, [.ref ab, .int (nI bn), .int (nI bf), .int (nI kn), .ref ap, .ref aq, .ref ac, .int (zI room), .int (nI most), .int (nI bs)]))] := hD
  refine lv_aload_n hx hb d_SW_want_80 rfl (lv_at hl 1 rfl) ?_
  refine va_get (D := (dC, dI)) (ci := 6) (v := .ref v0) (C := R_SW) (T := F_SW) (N := 7) hx hb hts in_SW hown hK hP 0 rfl rfl 1 (by decide) (hts _ m_223) (fun _ h9 => h9) rfl d_SW_want_81 ?_
  refine lv_iload_n hx hb d_SW_want_84 rfl (lv_at hl 0 rfl) ?_
  refine lv_iconst (v := nI 1) hx hb d_SW_want_85 (by decide +kernel) ?_
  refine lv_iadd hx hb d_SW_want_86 ?_
  refine lv_topr (show _ = nI (cnt + 1) from nn_add _ _) ?_
  refine va_put (D := (dC, dI)) (ci := 5) (v := .int (nI (cnt + 1))) (ty := .int) (C := R_WI) (T := F_WI) (N := 3) hx hb hts in_WI t_WI t_WI_ok n_WI hown hK hP hD hS 1 rfl rfl 2 (by decide) (hts _ m_76) (fun _ h9 => h9) rfl (by decide +kernel) rfl rfl (Nat.le_of_ble_eq_true rfl) d_SW_want_87 (fun H locs hP hD hS => ?_)
  have hP : va_P (dC, dI) vwCl [(x0, .inr (6, [.ref k0, .ref v0, .ref a0, .ref j0, .ref q, .ref qa, .int (nI sc)])), (v0, .inr (5, [.ref vw, .ref vs, .int (nI (cnt + 1))])), (vw, .inl (cI, 5, .inl (aN (up wd cnt a1.toNat)))), (vs, .inl (cI, 5, .inl (aN (up st cnt a2.toNat)))), (a0, .inr (2, [.ref ab, .int (nI bn), .int (nI bf), .int (nI kn), .ref ap, .ref aq, .ref ac, .int (zI room), .int (nI most), .int (nI bs)]))] H := hP
  have hD : va_D A [(x0, .inr (6, [.ref k0, .ref v0, .ref a0, .ref j0, .ref q, .ref qa, .int (nI sc)])), (v0, .inr (5, [.ref vw, .ref vs, .int (nI (cnt + 1))])), (vw, .inl (cI, 5, .inl (aN (up wd cnt a1.toNat)))), (vs, .inl (cI, 5, .inl (aN (up st cnt a2.toNat)))), (a0, .inr (2, [.ref ab, .int (nI bn), .int (nI bf), .int (nI kn), .ref ap, .ref aq, .ref ac, .int (zI room), .int (nI most), .int (nI bs)]))] := hD
  refine lv_aload_n hx hb d_SW_want_90 rfl (lv_at hl 1 rfl) ?_
  refine va_get (D := (dC, dI)) (ci := 6) (v := .ref a0) (C := R_SW) (T := F_SW) (N := 7) hx hb hts in_SW hown hK hP 0 rfl rfl 2 (by decide) (hts _ m_224) (fun _ h9 => h9) rfl d_SW_want_91 ?_
  refine lv_iconst (v := nI 0) hx hb d_SW_want_94 (by decide +kernel) ?_
  refine va_put (D := (dC, dI)) (ci := 2) (v := .int (nI 0)) (ty := .boolean) (C := R_PS) (T := F_PS) (N := 10) hx hb hts in_PS t_PS t_PS_ok n_PS hown hK hP hD hS 4 rfl rfl 3 (by decide) (hts _ m_101) (fun _ h9 => h9) rfl (by decide +kernel) (by decide +kernel) (by decide +kernel) (Nat.le_of_ble_eq_true rfl) d_SW_want_95 (fun H locs hP hD hS => ?_)
  have hP : va_P (dC, dI) vwCl [(x0, .inr (6, [.ref k0, .ref v0, .ref a0, .ref j0, .ref q, .ref qa, .int (nI sc)])), (v0, .inr (5, [.ref vw, .ref vs, .int (nI (cnt + 1))])), (vw, .inl (cI, 5, .inl (aN (up wd cnt a1.toNat)))), (vs, .inl (cI, 5, .inl (aN (up st cnt a2.toNat)))), (a0, .inr (2, [.ref ab, .int (nI bn), .int (nI bf), .int (nI 0), .ref ap, .ref aq, .ref ac, .int (zI room), .int (nI most), .int (nI bs)]))] H := hP
  have hD : va_D A [(x0, .inr (6, [.ref k0, .ref v0, .ref a0, .ref j0, .ref q, .ref qa, .int (nI sc)])), (v0, .inr (5, [.ref vw, .ref vs, .int (nI (cnt + 1))])), (vw, .inl (cI, 5, .inl (aN (up wd cnt a1.toNat)))), (vs, .inl (cI, 5, .inl (aN (up st cnt a2.toNat)))), (a0, .inr (2, [.ref ab, .int (nI bn), .int (nI bf), .int (nI 0), .ref ap, .ref aq, .ref ac, .int (zI room), .int (nI most), .int (nI bs)]))] := hD
  refine lv_iload_n hx hb d_SW_want_98 rfl (lv_at hl 0 rfl) ?_
  exact W.iret (v := nI cnt) hx hb hr (fun t ht hW => ⟨⟨nI cnt, (), rfl, rfl, by rw [ht]; exact hP, va_K.moved hW.alike hK, hD⟩, hS.F ht⟩) hS.2.2 d_SW_want_99
set_option maxHeartbeats 4000000 in
set_option maxRecDepth 100000 in
/-- want(..), no more -/
theorem t_SW_want1 (l : Launch) (hst : l.stackTraces = false) (dC : Nat → ClassId) (dI : Nat → Nat → Nat) (e1 e2 : Nat) (x0 k0 v0 a0 j0 q qa : Nat) (cI : ClassId) (sc vw vs cnt : Nat) (a1 : Int) (a2 : Int) (ha1 : -2147483648 ≤ a1 ∧ a1 < 2147483648) (ha2 : -2147483648 ≤ a2 ∧ a2 < 2147483648) (hc : cnt = 5) : TMet l y_SW_want w_SW_want { frames := 6, cells := 1, slots := 6, locals := 82 } (ey e1 e2 (ro_Pc (dC, dI) vwCl [(cI, .int)] [.ref x0, .int (zI a1), .int (zI a2)] [(x0, .inr (6, [.ref k0, .ref v0, .ref a0, .ref j0, .ref q, .ref qa, .int (nI sc)])), (v0, .inr (5, [.ref vw, .ref vs, .int (nI cnt)]))])) "java/lang/IllegalStateException" B0 1 6 ro_no := by
  refine TMet.ofW (cc := b_SW_want) (maxL := 4) (ret := (some .int)) (by decide) rfl ?_
  intro p e s m args below meth c s₁ B hml hemp hv
  obtain ⟨⟨rfl, hP, hK⟩, hEY⟩ := hv
  have hx := B.exec
  have hb := B.bytes
  have hts := gw_h (atoms_spec (ws := w_SW_want) B.pre)
  have hown : s.vm.findClass R_SW = some m.cls := findClass_of_methodNamed B.named
  have hlocks := B.notSynchronized
  have hS : va_S ro_no s.heap s.heap [] := va_S.rf
  have hP : va_P (dC, dI) vwCl [(x0, .inr (6, [.ref k0, .ref v0, .ref a0, .ref j0, .ref q, .ref qa, .int (nI sc)])), (v0, .inr (5, [.ref vw, .ref vs, .int (nI cnt)]))] s.heap := hP
  have hl := lv_entry ([.ref x0, .int (zI a1), .int (zI a2)]) (n := 4) (Nat.le_of_ble_eq_true rfl)
  rw [lg_entry_eq]
  generalize (lg_sl ([.ref x0, .int (zI a1), .int (zI a2)]) ++ List.replicate (4 - (lg_sl ([.ref x0, .int (zI a1), .int (zI a2)])).length) Slot.unset).toArray = ls at hl ⊢
  have hl : lv_has ls 4 [(0, .ref x0), (1, .int (zI a1)), (2, .int (zI a2))] := hl
  refine lv_aload_n hx hb d_SW_want_0 rfl (lv_at hl 0 rfl) ?_
  refine va_get (D := (dC, dI)) (ci := 6) (v := .ref v0) (C := R_SW) (T := F_SW) (N := 7) hx hb hts in_SW hown hK hP 0 rfl rfl 1 (by decide) (hts _ m_223) (fun _ h9 => h9) rfl d_SW_want_1 ?_
  refine va_get (D := (dC, dI)) (ci := 5) (v := .int (nI cnt)) (C := R_WI) (T := F_WI) (N := 3) hx hb hts in_WI hown hK hP 1 rfl rfl 2 (by decide) (hts _ m_76) (fun _ h9 => h9) rfl d_SW_want_4 ?_
  refine lv_iconst (v := nI 5) hx hb d_SW_want_7 (by decide +kernel) ?_
  refine ix_icmp_lt (tgt := 21) hx hb (nI_tI (n := cnt) (by omega)) (nI_tI (n := 5) (by omega)) d_SW_want_8 (by decide) (fun c_8 => absurd c_8 (by omega)) (fun c_8 => ?_)
  obtain ⟨xq, hZ⟩ := hEY.2.1 (91, "no more wanted widths") (by decide)
  exact th_new (E := "java/lang/IllegalStateException") (own := "SlitWidths") (tx := "no more wanted widths") (xq := xq) (a1 := e1) (a2 := e2) hx hb hst hown hts hEY.1 hZ (hts _ m_399) (hts _ m_400) (hts _ m_13) at_93 (by decide) hS (hl.1.trans hml.symm) hemp hlocks (Nat.le_of_ble_eq_true rfl) (Nat.le_of_ble_eq_true rfl) (Nat.le_of_ble_eq_true rfl) (Nat.le_of_ble_eq_true rfl) d_SW_want_11 d_SW_want_14 d_SW_want_15 d_SW_want_17 d_SW_want_20
set_option maxHeartbeats 4000000 in
set_option maxRecDepth 100000 in
/-- want(..), no such -/
theorem t_SW_want2 (l : Launch) (hst : l.stackTraces = false) (dC : Nat → ClassId) (dI : Nat → Nat → Nat) (e1 e2 : Nat) (x0 k0 v0 a0 j0 q qa : Nat) (cI : ClassId) (sc vw vs cnt : Nat) (a1 : Int) (a2 : Int) (ha1 : -2147483648 ≤ a1 ∧ a1 < 2147483648) (ha2 : -2147483648 ≤ a2 ∧ a2 < 2147483648) (hc : cnt < 5) (hG : ¬ ((1 ≤ a1 ∧ a1 ≤ 20000) ∧ (0 ≤ a2 ∧ a2 ≤ 6))) : TMet l y_SW_want w_SW_want { frames := 6, cells := 1, slots := 6, locals := 82 } (ey e1 e2 (ro_Pc (dC, dI) vwCl [(cI, .int)] [.ref x0, .int (zI a1), .int (zI a2)] [(x0, .inr (6, [.ref k0, .ref v0, .ref a0, .ref j0, .ref q, .ref qa, .int (nI sc)])), (v0, .inr (5, [.ref vw, .ref vs, .int (nI cnt)]))])) "java/lang/IllegalArgumentException" B0 1 6 ro_no := by
  refine TMet.ofW (cc := b_SW_want) (maxL := 4) (ret := (some .int)) (by decide) rfl ?_
  intro p e s m args below meth c s₁ B hml hemp hv
  obtain ⟨⟨rfl, hP, hK⟩, hEY⟩ := hv
  have hx := B.exec
  have hb := B.bytes
  have hts := gw_h (atoms_spec (ws := w_SW_want) B.pre)
  have hown : s.vm.findClass R_SW = some m.cls := findClass_of_methodNamed B.named
  have hlocks := B.notSynchronized
  have hS : va_S ro_no s.heap s.heap [] := va_S.rf
  have hP : va_P (dC, dI) vwCl [(x0, .inr (6, [.ref k0, .ref v0, .ref a0, .ref j0, .ref q, .ref qa, .int (nI sc)])), (v0, .inr (5, [.ref vw, .ref vs, .int (nI cnt)]))] s.heap := hP
  have hl := lv_entry ([.ref x0, .int (zI a1), .int (zI a2)]) (n := 4) (Nat.le_of_ble_eq_true rfl)
  rw [lg_entry_eq]
  generalize (lg_sl ([.ref x0, .int (zI a1), .int (zI a2)]) ++ List.replicate (4 - (lg_sl ([.ref x0, .int (zI a1), .int (zI a2)])).length) Slot.unset).toArray = ls at hl ⊢
  have hl : lv_has ls 4 [(0, .ref x0), (1, .int (zI a1)), (2, .int (zI a2))] := hl
  refine lv_aload_n hx hb d_SW_want_0 rfl (lv_at hl 0 rfl) ?_
  refine va_get (D := (dC, dI)) (ci := 6) (v := .ref v0) (C := R_SW) (T := F_SW) (N := 7) hx hb hts in_SW hown hK hP 0 rfl rfl 1 (by decide) (hts _ m_223) (fun _ h9 => h9) rfl d_SW_want_1 ?_
  refine va_get (D := (dC, dI)) (ci := 5) (v := .int (nI cnt)) (C := R_WI) (T := F_WI) (N := 3) hx hb hts in_WI hown hK hP 1 rfl rfl 2 (by decide) (hts _ m_76) (fun _ h9 => h9) rfl d_SW_want_4 ?_
  refine lv_iconst (v := nI 5) hx hb d_SW_want_7 (by decide +kernel) ?_
  refine ix_icmp_lt (tgt := 21) hx hb (nI_tI (n := cnt) (by omega)) (nI_tI (n := 5) (by omega)) d_SW_want_8 (by decide) (fun c_8 => ?_) (fun c_8 => absurd c_8 (by omega))
  refine lv_iload_n hx hb d_SW_want_21 rfl (lv_at hl 1 rfl) ?_
  refine lv_iconst (v := nI 1) hx hb d_SW_want_22 (by decide +kernel) ?_
  refine lv_sipush (v := nI 20000) hx hb d_SW_want_23 (by decide +kernel) ?_
  refine lv_arg3 (show _ = zI a1 from rfl) (show _ = zI 1 from zI_n _) (show _ = zI 20000 from zI_n _) ?_
  refine ro_calli (va_runS (As := [.int (zI a1), .int (zI (1 : Int)), .int (zI (20000 : Int))]) (rest := []) ⟨hx, hb, hml, hown, hts⟩ (c_SW_within l dC dI cI a1 (1 : Int) (20000 : Int) ha1 (by omega) (by omega)) (va_cwS 3 hts (gw_S m_318 m_319 m_1 m_320) rfl rfl rfl (by decide +kernel) ⟨Nat.le_of_ble_eq_true rfl, Nat.le_of_ble_eq_true rfl⟩) ⟨ro_blind, fun U hU hW => ⟨rfl, fun k q h => by simp at h, va_K.moved hW.alike hK⟩⟩ rfl rfl hl.1 rfl (lv_room (Nat.le_of_ble_eq_true rfl)) d_SW_want_26 ⟨Nat.le_of_ble_eq_true rfl, Nat.le_of_ble_eq_true rfl⟩) hS hP (fun r H locs er hP hS => ?_)
  subst er
  have hq26 := @b01_1 ((1 : Int) ≤ a1 ∧ a1 ≤ (20000 : Int)) _
  have hr26 := @b01_le ((1 : Int) ≤ a1 ∧ a1 ≤ (20000 : Int)) _
  refine ix_if_eq (tgt := 42) hx hb (nI_tI (n := b01 ((1 : Int) ≤ a1 ∧ a1 ≤ (20000 : Int))) (by omega)) d_SW_want_29 (by decide) (fun c_29 => ?_) (fun c_29 => ?_)
  · obtain ⟨xq, hZ⟩ := hEY.2.1 (94, "no such wanted width") (by decide)
    exact th_new (E := "java/lang/IllegalArgumentException") (own := "SlitWidths") (tx := "no such wanted width") (xq := xq) (a1 := e1) (a2 := e2) hx hb hst hown hts hEY.1 hZ (hts _ m_322) (hts _ m_323) (hts _ m_12) at_64 (by decide) hS (hl.1.trans hml.symm) hemp hlocks (Nat.le_of_ble_eq_true rfl) (Nat.le_of_ble_eq_true rfl) (Nat.le_of_ble_eq_true rfl) (Nat.le_of_ble_eq_true rfl) d_SW_want_42 d_SW_want_45 d_SW_want_46 d_SW_want_48 d_SW_want_51
  refine lv_iload_n hx hb d_SW_want_32 rfl (lv_at hl 2 rfl) ?_
  refine lv_iconst (v := nI 0) hx hb d_SW_want_33 (by decide +kernel) ?_
  refine lv_bipush (v := nI 6) hx hb d_SW_want_34 (by decide +kernel) ?_
  refine lv_arg3 (show _ = zI a2 from rfl) (show _ = zI 0 from zI_n _) (show _ = zI 6 from zI_n _) ?_
  refine ro_calli (va_runS (As := [.int (zI a2), .int (zI (0 : Int)), .int (zI (6 : Int))]) (rest := []) ⟨hx, hb, hml, hown, hts⟩ (c_SW_within l dC dI cI a2 (0 : Int) (6 : Int) ha2 (by omega) (by omega)) (va_cwS 3 hts (gw_S m_318 m_319 m_1 m_320) rfl rfl rfl (by decide +kernel) ⟨Nat.le_of_ble_eq_true rfl, Nat.le_of_ble_eq_true rfl⟩) ⟨ro_blind, fun U hU hW => ⟨rfl, fun k q h => by simp at h, va_K.moved hW.alike hK⟩⟩ rfl rfl hl.1 rfl (lv_room (Nat.le_of_ble_eq_true rfl)) d_SW_want_36 ⟨Nat.le_of_ble_eq_true rfl, Nat.le_of_ble_eq_true rfl⟩) hS hP (fun r H locs er hP hS => ?_)
  subst er
  have hq36 := @b01_1 ((0 : Int) ≤ a2 ∧ a2 ≤ (6 : Int)) _
  have hr36 := @b01_le ((0 : Int) ≤ a2 ∧ a2 ≤ (6 : Int)) _
  refine ix_if_ne (tgt := 52) hx hb (nI_tI (n := b01 ((0 : Int) ≤ a2 ∧ a2 ≤ (6 : Int))) (by omega)) d_SW_want_39 (by decide) (fun c_39 => absurd c_39 (by omega)) (fun c_39 => ?_)
  obtain ⟨xq, hZ⟩ := hEY.2.1 (94, "no such wanted width") (by decide)
  exact th_new (E := "java/lang/IllegalArgumentException") (own := "SlitWidths") (tx := "no such wanted width") (xq := xq) (a1 := e1) (a2 := e2) hx hb hst hown hts hEY.1 hZ (hts _ m_322) (hts _ m_323) (hts _ m_12) at_64 (by decide) hS (hl.1.trans hml.symm) hemp hlocks (Nat.le_of_ble_eq_true rfl) (Nat.le_of_ble_eq_true rfl) (Nat.le_of_ble_eq_true rfl) (Nat.le_of_ble_eq_true rfl) d_SW_want_42 d_SW_want_45 d_SW_want_46 d_SW_want_48 d_SW_want_51
set_option maxHeartbeats 4000000 in
set_option maxRecDepth 100000 in
/-- strips(..), a good one -/
theorem c_SW_strips (l : Launch) (dC : Nat → ClassId) (dI : Nat → Nat → Nat) (sz : Nat) (x0 k0 v0 a0 j0 q qa : Nat) (cI : ClassId) (ab ap aq ac vw vs : Nat) (st : Nat → Nat) (bn bf kn most bs cnt sc : Nat) (room : Int) (a1 : Int) (a2 : Int) (ha1 : -2147483648 ≤ a1 ∧ a1 < 2147483648) (ha2 : -2147483648 ≤ a2 ∧ a2 < 2147483648) (hc : cnt ≤ 5) (hG : (0 ≤ a1 ∧ a1 < cnt) ∧ (0 ≤ a2 ∧ a2 ≤ 6)) : Met l y_SW_strips w_SW_strips { frames := 1, cells := 0, slots := 0, locals := 22 } (rw_Pc (dC, dI) vwCl [(cI, .int)] sz [.ref x0, .int (zI a1), .int (zI a2)] [(x0, .inr (6, [.ref k0, .ref v0, .ref a0, .ref j0, .ref q, .ref qa, .int (nI sc)])), (v0, .inr (5, [.ref vw, .ref vs, .int (nI cnt)])), (vs, .inl (cI, 5, .inl (aN st))), (a0, .inr (2, [.ref ab, .int (nI bn), .int (nI bf), .int (nI kn), .ref ap, .ref aq, .ref ac, .int (zI room), .int (nI most), .int (nI bs)]))]) (va_Qv (fun (u : Unit) => True) (rw_B (dC, dI) vwCl [(cI, .int)] (va_A [(x0, .inr (6, [.ref k0, .ref v0, .ref a0, .ref j0, .ref q, .ref qa, .int (nI sc)])), (v0, .inr (5, [.ref vw, .ref vs, .int (nI cnt)])), (vs, .inl (cI, 5, .inl (aN st))), (a0, .inr (2, [.ref ab, .int (nI bn), .int (nI bf), .int (nI kn), .ref ap, .ref aq, .ref ac, .int (zI room), .int (nI most), .int (nI bs)]))] sz) (fun u : Unit => [(x0, .inr (6, [.ref k0, .ref v0, .ref a0, .ref j0, .ref q, .ref qa, .int (nI sc)])), (v0, .inr (5, [.ref vw, .ref vs, .int (nI cnt)])), (vs, .inl (cI, 5, .inl (aN (up st a1.toNat a2.toNat)))), (a0, .inr (2, [.ref ab, .int (nI bn), .int (nI bf), .int (nI 0), .ref ap, .ref aq, .ref ac, .int (zI room), .int (nI most), .int (nI bs)]))])) (va_A [(x0, .inr (6, [.ref k0, .ref v0, .ref a0, .ref j0, .ref q, .ref qa, .int (nI sc)])), (v0, .inr (5, [.ref vw, .ref vs, .int (nI cnt)])), (vs, .inl (cI, 5, .inl (aN st))), (a0, .inr (2, [.ref ab, .int (nI bn), .int (nI bf), .int (nI kn), .ref ap, .ref aq, .ref ac, .int (zI room), .int (nI most), .int (nI bs)]))] sz)) 0 0 (va_A [(x0, .inr (6, [.ref k0, .ref v0, .ref a0, .ref j0, .ref q, .ref qa, .int (nI sc)])), (v0, .inr (5, [.ref vw, .ref vs, .int (nI cnt)])), (vs, .inl (cI, 5, .inl (aN st))), (a0, .inr (2, [.ref ab, .int (nI bn), .int (nI bf), .int (nI kn), .ref ap, .ref aq, .ref ac, .int (zI room), .int (nI most), .int (nI bs)]))] sz) := by
  refine Met.ofW (cc := b_SW_strips) (maxL := 3) (ret := none) (by decide) rfl ?_
  intro p e s m args below meth c s₁ B hml hv
  obtain ⟨rfl, hsz, hP, hK, hD0⟩ := hv
  have hx := B.exec
  have hb := B.bytes
  have hr := B.returns
  have hts := gw_h (atoms_spec (ws := w_SW_strips) B.pre)
  have hown : s.vm.findClass R_SW = some m.cls := findClass_of_methodNamed B.named
  have hlocks := B.notSynchronized
  subst hsz
  have hD := hD0.self (sz := s.heap.size)
  generalize hAe : va_A [(x0, .inr (6, [.ref k0, .ref v0, .ref a0, .ref j0, .ref q, .ref qa, .int (nI sc)])), (v0, .inr (5, [.ref vw, .ref vs, .int (nI cnt)])), (vs, .inl (cI, 5, .inl (aN st))), (a0, .inr (2, [.ref ab, .int (nI bn), .int (nI bf), .int (nI kn), .ref ap, .ref aq, .ref ac, .int (zI room), .int (nI most), .int (nI bs)]))] s.heap.size = A at hD ⊢
  have hA : ∀ q : Nat, s.heap.size ≤ q → A q := fun q h => by rw [← hAe]; exact Or.inr h
  have hS : va_S A s.heap s.heap [] := va_S.rf
  have hP : va_P (dC, dI) vwCl [(x0, .inr (6, [.ref k0, .ref v0, .ref a0, .ref j0, .ref q, .ref qa, .int (nI sc)])), (v0, .inr (5, [.ref vw, .ref vs, .int (nI cnt)])), (vs, .inl (cI, 5, .inl (aN st))), (a0, .inr (2, [.ref ab, .int (nI bn), .int (nI bf), .int (nI kn), .ref ap, .ref aq, .ref ac, .int (zI room), .int (nI most), .int (nI bs)]))] s.heap := hP
  have hl := lv_entry ([.ref x0, .int (zI a1), .int (zI a2)]) (n := 3) (Nat.le_of_ble_eq_true rfl)
  rw [lg_entry_eq]
  generalize (lg_sl ([.ref x0, .int (zI a1), .int (zI a2)]) ++ List.replicate (3 - (lg_sl ([.ref x0, .int (zI a1), .int (zI a2)])).length) Slot.unset).toArray = ls at hl ⊢
  have hl : lv_has ls 3 [(0, .ref x0), (1, .int (zI a1)), (2, .int (zI a2))] := hl
  refine lv_aload_n hx hb d_SW_strips_0 rfl (lv_at hl 0 rfl) ?_
  refine lv_iload_n hx hb d_SW_strips_1 rfl (lv_at hl 1 rfl) ?_
  have hPc := hP.sub (ws' := [(x0, .inr (6, [.ref k0, .ref v0, .ref a0, .ref j0, .ref q, .ref qa, .int (nI sc)])), (v0, .inr (5, [.ref vw, .ref vs, .int (nI cnt)]))]) [0, 1] rfl
  refine ro_callv (va_runV (As := [.int (zI a1)]) (rest := []) ⟨hx, hb, hml, hown, hts⟩ (c_SW_checkWanted l dC dI x0 k0 v0 a0 j0 q qa cI sc vw vs cnt a1 ha1 (by omega) (by omega)) (cwV 1 hts (gw_V m_424 m_426 s_10 m_1 m_427) rfl rfl rfl (by decide +kernel) ⟨Nat.le_of_ble_eq_true rfl, Nat.le_of_ble_eq_true rfl⟩) ⟨ro_blind, va_recv hK hPc (ci := 6) (q0 := 0) rfl rfl, fun U hU hW => ⟨rfl, by rw [hU]; exact hPc, va_K.moved hW.alike hK⟩⟩ rfl rfl hl.1 rfl (lv_room (Nat.le_of_ble_eq_true rfl)) d_SW_strips_2 ⟨Nat.le_of_ble_eq_true rfl, Nat.le_of_ble_eq_true rfl⟩) hS hP (fun H locs hP hS => ?_)
  refine lv_iload_n hx hb d_SW_strips_5 rfl (lv_at hl 2 rfl) ?_
  refine lv_iconst (v := nI 0) hx hb d_SW_strips_6 (by decide +kernel) ?_
  refine lv_bipush (v := nI 6) hx hb d_SW_strips_7 (by decide +kernel) ?_
  refine lv_arg3 (show _ = zI a2 from rfl) (show _ = zI 0 from zI_n _) (show _ = zI 6 from zI_n _) ?_
  refine ro_calli (va_runS (As := [.int (zI a2), .int (zI (0 : Int)), .int (zI (6 : Int))]) (rest := []) ⟨hx, hb, hml, hown, hts⟩ (c_SW_within l dC dI cI a2 (0 : Int) (6 : Int) ha2 (by omega) (by omega)) (va_cwS 3 hts (gw_S m_318 m_319 m_1 m_320) rfl rfl rfl (by decide +kernel) ⟨Nat.le_of_ble_eq_true rfl, Nat.le_of_ble_eq_true rfl⟩) ⟨ro_blind, fun U hU hW => ⟨rfl, fun k q h => by simp at h, va_K.moved hW.alike hK⟩⟩ rfl rfl hl.1 rfl (lv_room (Nat.le_of_ble_eq_true rfl)) d_SW_strips_9 ⟨Nat.le_of_ble_eq_true rfl, Nat.le_of_ble_eq_true rfl⟩) hS hP (fun r H locs er hP hS => ?_)
  subst er
  have hq9 := @b01_1 ((0 : Int) ≤ a2 ∧ a2 ≤ (6 : Int)) _
  have hr9 := @b01_le ((0 : Int) ≤ a2 ∧ a2 ≤ (6 : Int)) _
  refine ix_if_ne (tgt := 25) hx hb (nI_tI (n := b01 ((0 : Int) ≤ a2 ∧ a2 ≤ (6 : Int))) (by omega)) d_SW_strips_12 (by decide) (fun c_12 => ?_) (fun c_12 => absurd c_12 (by omega))
  refine lv_aload_n hx hb d_SW_strips_25 rfl (lv_at hl 0 rfl) ?_
  refine va_get (D := (dC, dI)) (ci := 6) (v := .ref v0) (C := R_SW) (T := F_SW) (N := 7) hx hb hts in_SW hown hK hP 0 rfl rfl 1 (by decide) (hts _ m_223) (fun _ h9 => h9) rfl d_SW_strips_26 ?_
  refine va_get (D := (dC, dI)) (ci := 5) (v := .ref vs) (C := R_WI) (T := F_WI) (N := 3) hx hb hts in_WI hown hK hP 1 rfl rfl 1 (by decide) (hts _ m_73) (fun _ h9 => h9) rfl d_SW_strips_29 ?_
  refine lv_iload_n hx hb d_SW_strips_32 rfl (lv_at hl 1 rfl) ?_
  refine lv_topr (show _ = nI a1.toNat from z_toN (by omega)) ?_
  refine lv_iload_n hx hb d_SW_strips_33 rfl (lv_at hl 2 rfl) ?_
  refine lv_topr (show _ = nI a2.toNat from z_toN (by omega)) ?_
  refine ix_iast (i := a1.toNat) hx hb hK hP hD hS 2 0 rfl rfl (by omega) (by decide) d_SW_strips_34 (fun H locs hP hD hS => ?_)
  have hP : va_P (dC, dI) vwCl [(x0, .inr (6, [.ref k0, .ref v0, .ref a0, .ref j0, .ref q, .ref qa, .int (nI sc)])), (v0, .inr (5, [.ref vw, .ref vs, .int (nI cnt)])), (vs, .inl (cI, 5, .inl (aN (up st a1.toNat a2.toNat)))), (a0, .inr (2, [.ref ab, .int (nI bn), .int (nI bf), .int (nI kn), .ref ap, .ref aq, .ref ac, .int (zI room), .int (nI most), .int (nI bs)]))] H := hP
  have hD : va_D A [(x0, .inr (6, [.ref k0, .ref v0, .ref a0, .ref j0, .ref q, .ref qa, .int (nI sc)])), (v0, .inr (5, [.ref vw, .ref vs, .int (nI cnt)])), (vs, .inl (cI, 5, .inl (aN (up st a1.toNat a2.toNat)))), (a0, .inr (2, [.ref ab, .int (nI bn), .int (nI bf), .int (nI kn), .ref ap, .ref aq, .ref ac, .int (zI room), .int (nI most), .int (nI bs)]))] := hD
  refine lv_aload_n hx hb d_SW_strips_35 rfl (lv_at hl 0 rfl) ?_
  refine va_get (D := (dC, dI)) (ci := 6) (v := .ref a0) (C := R_SW) (T := F_SW) (N := 7) hx hb hts in_SW hown hK hP 0 rfl rfl 2 (by decide) (hts _ m_224) (fun _ h9 => h9) rfl d_SW_strips_36 ?_
  refine lv_iconst (v := nI 0) hx hb d_SW_strips_39 (by decide +kernel) ?_
  refine va_put (D := (dC, dI)) (ci := 2) (v := .int (nI 0)) (ty := .boolean) (C := R_PS) (T := F_PS) (N := 10) hx hb hts in_PS t_PS t_PS_ok n_PS hown hK hP hD hS 3 rfl rfl 3 (by decide) (hts _ m_101) (fun _ h9 => h9) rfl (by decide +kernel) (by decide +kernel) (by decide +kernel) (Nat.le_of_ble_eq_true rfl) d_SW_strips_40 (fun H locs hP hD hS => ?_)
  have hP : va_P (dC, dI) vwCl [(x0, .inr (6, [.ref k0, .ref v0, .ref a0, .ref j0, .ref q, .ref qa, .int (nI sc)])), (v0, .inr (5, [.ref vw, .ref vs, .int (nI cnt)])), (vs, .inl (cI, 5, .inl (aN (up st a1.toNat a2.toNat)))), (a0, .inr (2, [.ref ab, .int (nI bn), .int (nI bf), .int (nI 0), .ref ap, .ref aq, .ref ac, .int (zI room), .int (nI most), .int (nI bs)]))] H := hP
  have hD : va_D A [(x0, .inr (6, [.ref k0, .ref v0, .ref a0, .ref j0, .ref q, .ref qa, .int (nI sc)])), (v0, .inr (5, [.ref vw, .ref vs, .int (nI cnt)])), (vs, .inl (cI, 5, .inl (aN (up st a1.toNat a2.toNat)))), (a0, .inr (2, [.ref ab, .int (nI bn), .int (nI bf), .int (nI 0), .ref ap, .ref aq, .ref ac, .int (zI room), .int (nI most), .int (nI bs)]))] := hD
  exact W.vret hx hb hr (fun t ht hW => ⟨⟨(), rfl, trivial, by rw [ht]; exact hP, va_K.moved hW.alike hK, hD⟩, hS.F ht⟩) hS.2.2 d_SW_strips_43
set_option maxHeartbeats 4000000 in
set_option maxRecDepth 100000 in
/-- strips(..), no such wanted width -/
theorem t_SW_strips1 (l : Launch) (hst : l.stackTraces = false) (dC : Nat → ClassId) (dI : Nat → Nat → Nat) (e1 e2 : Nat) (x0 k0 v0 a0 j0 q qa : Nat) (cI : ClassId) (sc vw vs cnt : Nat) (a1 : Int) (a2 : Int) (ha1 : -2147483648 ≤ a1 ∧ a1 < 2147483648) (ha2 : -2147483648 ≤ a2 ∧ a2 < 2147483648) (hc : cnt ≤ 5) (hG : ¬ (0 ≤ a1 ∧ a1 < cnt)) : TMet l y_SW_strips w_SW_strips { frames := 7, cells := 1, slots := 6, locals := 103 } (ey e1 e2 (ro_Pc (dC, dI) vwCl [(cI, .int)] [.ref x0, .int (zI a1), .int (zI a2)] [(x0, .inr (6, [.ref k0, .ref v0, .ref a0, .ref j0, .ref q, .ref qa, .int (nI sc)])), (v0, .inr (5, [.ref vw, .ref vs, .int (nI cnt)]))])) "java/lang/IndexOutOfBoundsException" B0 1 6 ro_no := by
  refine TMet.ofW (cc := b_SW_strips) (maxL := 3) (ret := none) (by decide) rfl ?_
  intro p e s m args below meth c s₁ B hml hemp hv
  obtain ⟨⟨rfl, hP, hK⟩, hEY⟩ := hv
  have hx := B.exec
  have hb := B.bytes
  have hts := gw_h (atoms_spec (ws := w_SW_strips) B.pre)
  have hown : s.vm.findClass R_SW = some m.cls := findClass_of_methodNamed B.named
  have hlocks := B.notSynchronized
  have hS : va_S ro_no s.heap s.heap [] := va_S.rf
  have hP : va_P (dC, dI) vwCl [(x0, .inr (6, [.ref k0, .ref v0, .ref a0, .ref j0, .ref q, .ref qa, .int (nI sc)])), (v0, .inr (5, [.ref vw, .ref vs, .int (nI cnt)]))] s.heap := hP
  have hl := lv_entry ([.ref x0, .int (zI a1), .int (zI a2)]) (n := 3) (Nat.le_of_ble_eq_true rfl)
  rw [lg_entry_eq]
  generalize (lg_sl ([.ref x0, .int (zI a1), .int (zI a2)]) ++ List.replicate (3 - (lg_sl ([.ref x0, .int (zI a1), .int (zI a2)])).length) Slot.unset).toArray = ls at hl ⊢
  have hl : lv_has ls 3 [(0, .ref x0), (1, .int (zI a1)), (2, .int (zI a2))] := hl
  refine lv_aload_n hx hb d_SW_strips_0 rfl (lv_at hl 0 rfl) ?_
  refine lv_iload_n hx hb d_SW_strips_1 rfl (lv_at hl 1 rfl) ?_
  have hPc := hP.sub (ws' := [(x0, .inr (6, [.ref k0, .ref v0, .ref a0, .ref j0, .ref q, .ref qa, .int (nI sc)])), (v0, .inr (5, [.ref vw, .ref vs, .int (nI cnt)]))]) [0, 1] rfl
  have hEH := hEY.ro hS
  refine th_runV (As := [.int (zI a1)]) (rest := []) ⟨hx, hb, hml, hown, hts⟩ (t_SW_checkWanted l hst dC dI e1 e2 x0 k0 v0 a0 j0 q qa cI sc vw vs cnt a1 ha1 (by omega) (by omega)) (cwV 1 hts (gw_V m_424 m_426 s_10 m_1 m_427) rfl rfl rfl (by decide +kernel) ⟨Nat.le_of_ble_eq_true rfl, Nat.le_of_ble_eq_true rfl⟩) ⟨ey_blind ro_blind, va_recv hK hPc (ci := 6) (q0 := 0) rfl rfl, fun U hU hW => ⟨⟨rfl, by rw [hU]; exact hPc, va_K.moved hW.alike hK⟩, by rw [hU]; exact EY.warm hW hEH⟩⟩ rfl hl.1 rfl (Nat.le_of_ble_eq_true rfl) d_SW_strips_2 ⟨Nat.le_of_ble_eq_true rfl, Nat.le_of_ble_eq_true rfl⟩ (fun q9 ce st9 t9 H1 L9 h09 h19 hW9 hB9 hce hcv hcl hL9 => ?_)
  exact TW.out hemp hlocks hce hcv hcl (fun t2 ht2 _ => B0.ro hS h09 h19 hB9 ht2) (fun z hz => (List.mem_append.mp hz).elim (hS.2.2 z) (hL9 z))
set_option maxHeartbeats 4000000 in
set_option maxRecDepth 100000 in
/-- strips(..), no such number -/
theorem t_SW_strips2 (l : Launch) (hst : l.stackTraces = false) (dC : Nat → ClassId) (dI : Nat → Nat → Nat) (e1 e2 : Nat) (x0 k0 v0 a0 j0 q qa : Nat) (cI : ClassId) (sc vw vs cnt : Nat) (a1 : Int) (a2 : Int) (ha1 : -2147483648 ≤ a1 ∧ a1 < 2147483648) (ha2 : -2147483648 ≤ a2 ∧ a2 < 2147483648) (hc : cnt ≤ 5) (hG : (0 ≤ a1 ∧ a1 < cnt) ∧ ¬ (0 ≤ a2 ∧ a2 ≤ 6)) : TMet l y_SW_strips w_SW_strips { frames := 7, cells := 1, slots := 6, locals := 103 } (ey e1 e2 (ro_Pc (dC, dI) vwCl [(cI, .int)] [.ref x0, .int (zI a1), .int (zI a2)] [(x0, .inr (6, [.ref k0, .ref v0, .ref a0, .ref j0, .ref q, .ref qa, .int (nI sc)])), (v0, .inr (5, [.ref vw, .ref vs, .int (nI cnt)]))])) "java/lang/IllegalArgumentException" B0 1 6 ro_no := by
  refine TMet.ofW (cc := b_SW_strips) (maxL := 3) (ret := none) (by decide) rfl ?_
  intro p e s m args below meth c s₁ B hml hemp hv
  obtain ⟨⟨rfl, hP, hK⟩, hEY⟩ := hv
  have hx := B.exec
  have hb := B.bytes
  have hts := gw_h (atoms_spec (ws := w_SW_strips) B.pre)
  have hown : s.vm.findClass R_SW = some m.cls := findClass_of_methodNamed B.named
  have hlocks := B.notSynchronized
  have hS : va_S ro_no s.heap s.heap [] := va_S.rf
  have hP : va_P (dC, dI) vwCl [(x0, .inr (6, [.ref k0, .ref v0, .ref a0, .ref j0, .ref q, .ref qa, .int (nI sc)])), (v0, .inr (5, [.ref vw, .ref vs, .int (nI cnt)]))] s.heap := hP
  have hl := lv_entry ([.ref x0, .int (zI a1), .int (zI a2)]) (n := 3) (Nat.le_of_ble_eq_true rfl)
  rw [lg_entry_eq]
  generalize (lg_sl ([.ref x0, .int (zI a1), .int (zI a2)]) ++ List.replicate (3 - (lg_sl ([.ref x0, .int (zI a1), .int (zI a2)])).length) Slot.unset).toArray = ls at hl ⊢
  have hl : lv_has ls 3 [(0, .ref x0), (1, .int (zI a1)), (2, .int (zI a2))] := hl
  refine lv_aload_n hx hb d_SW_strips_0 rfl (lv_at hl 0 rfl) ?_
  refine lv_iload_n hx hb d_SW_strips_1 rfl (lv_at hl 1 rfl) ?_
  have hPc := hP.sub (ws' := [(x0, .inr (6, [.ref k0, .ref v0, .ref a0, .ref j0, .ref q, .ref qa, .int (nI sc)])), (v0, .inr (5, [.ref vw, .ref vs, .int (nI cnt)]))]) [0, 1] rfl
  refine ro_callv (va_runV (As := [.int (zI a1)]) (rest := []) ⟨hx, hb, hml, hown, hts⟩ (c_SW_checkWanted l dC dI x0 k0 v0 a0 j0 q qa cI sc vw vs cnt a1 ha1 (by omega) (by omega)) (cwV 1 hts (gw_V m_424 m_426 s_10 m_1 m_427) rfl rfl rfl (by decide +kernel) ⟨Nat.le_of_ble_eq_true rfl, Nat.le_of_ble_eq_true rfl⟩) ⟨ro_blind, va_recv hK hPc (ci := 6) (q0 := 0) rfl rfl, fun U hU hW => ⟨rfl, by rw [hU]; exact hPc, va_K.moved hW.alike hK⟩⟩ rfl rfl hl.1 rfl (lv_room (Nat.le_of_ble_eq_true rfl)) d_SW_strips_2 ⟨Nat.le_of_ble_eq_true rfl, Nat.le_of_ble_eq_true rfl⟩) hS hP (fun H locs hP hS => ?_)
  refine lv_iload_n hx hb d_SW_strips_5 rfl (lv_at hl 2 rfl) ?_
  refine lv_iconst (v := nI 0) hx hb d_SW_strips_6 (by decide +kernel) ?_
  refine lv_bipush (v := nI 6) hx hb d_SW_strips_7 (by decide +kernel) ?_
  refine lv_arg3 (show _ = zI a2 from rfl) (show _ = zI 0 from zI_n _) (show _ = zI 6 from zI_n _) ?_
  refine ro_calli (va_runS (As := [.int (zI a2), .int (zI (0 : Int)), .int (zI (6 : Int))]) (rest := []) ⟨hx, hb, hml, hown, hts⟩ (c_SW_within l dC dI cI a2 (0 : Int) (6 : Int) ha2 (by omega) (by omega)) (va_cwS 3 hts (gw_S m_318 m_319 m_1 m_320) rfl rfl rfl (by decide +kernel) ⟨Nat.le_of_ble_eq_true rfl, Nat.le_of_ble_eq_true rfl⟩) ⟨ro_blind, fun U hU hW => ⟨rfl, fun k q h => by simp at h, va_K.moved hW.alike hK⟩⟩ rfl rfl hl.1 rfl (lv_room (Nat.le_of_ble_eq_true rfl)) d_SW_strips_9 ⟨Nat.le_of_ble_eq_true rfl, Nat.le_of_ble_eq_true rfl⟩) hS hP (fun r H locs er hP hS => ?_)
  subst er
  have hq9 := @b01_1 ((0 : Int) ≤ a2 ∧ a2 ≤ (6 : Int)) _
  have hr9 := @b01_le ((0 : Int) ≤ a2 ∧ a2 ≤ (6 : Int)) _
  refine ix_if_ne (tgt := 25) hx hb (nI_tI (n := b01 ((0 : Int) ≤ a2 ∧ a2 ≤ (6 : Int))) (by omega)) d_SW_strips_12 (by decide) (fun c_12 => absurd c_12 (by omega)) (fun c_12 => ?_)
  obtain ⟨xq, hZ⟩ := hEY.2.1 (107, "no such number of strips") (by decide)
  exact th_new (E := "java/lang/IllegalArgumentException") (own := "SlitWidths") (tx := "no such number of strips") (xq := xq) (a1 := e1) (a2 := e2) hx hb hst hown hts hEY.1 hZ (hts _ m_322) (hts _ m_323) (hts _ m_12) at_64 (by decide) hS (hl.1.trans hml.symm) hemp hlocks (Nat.le_of_ble_eq_true rfl) (Nat.le_of_ble_eq_true rfl) (Nat.le_of_ble_eq_true rfl) (Nat.le_of_ble_eq_true rfl) d_SW_strips_15 d_SW_strips_18 d_SW_strips_19 d_SW_strips_21 d_SW_strips_24
set_option maxHeartbeats 4000000 in
set_option maxRecDepth 100000 in
/-- fill() -/
theorem c_SW_fill (l : Launch) (dC : Nat → ClassId) (dI : Nat → Nat → Nat) (sz : Nat) (x0 k0 v0 a0 j0 q qa ab ap aq ac : Nat) (cI : ClassId) (vw vs : Nat) (bc pi pf ct wd st : Nat → Nat) (bn bf kn most bs cw ck cr cf cn cnt sc : Nat) (room : Int) (hk : kn = 0 ∨ (kn = 1 ∧ GoodP cw cr cf cn cnt wd st bn bf bc)) (hc5 : cnt ≤ 5) (hst9 : ∀ i, i < cnt → st i ≤ 6) (hwd : ∀ i, i < cnt → wd i ≤ 20000) (hcf : cf ≤ 100) (hcw : cw ≤ 20000) (hcr : cr ≤ 1000) (hcn1 : 2 ≤ cn) (hcn2 : cn ≤ 40) : Met l y_SW_fill w_SW_fill { frames := 9, cells := 0, slots := 0, locals := 280 } (rw_Pc (dC, dI) vwCl [(cI, .int)] sz [.ref x0] [(x0, .inr (6, [.ref k0, .ref v0, .ref a0, .ref j0, .ref q, .ref qa, .int (nI sc)])), (a0, .inr (2, [.ref ab, .int (nI bn), .int (nI bf), .int (nI kn), .ref ap, .ref aq, .ref ac, .int (zI room), .int (nI most), .int (nI bs)])), (ab, .inl (cI, 5, .inl (aN bc))), (ap, .inl (cI, 5, .inl (aN pi))), (aq, .inl (cI, 6, .inl (aN pf))), (ac, .inl (cI, 5, .inl (aN ct))), (k0, .inr (0, [.int (nI cw), .int (nI ck), .int (nI cr), .int (nI cf), .int (nI cn)])), (v0, .inr (5, [.ref vw, .ref vs, .int (nI cnt)])), (vw, .inl (cI, 5, .inl (aN wd))), (vs, .inl (cI, 5, .inl (aN st)))]) (va_Qi (fun (r : Int32) (u : Nat × Nat × Nat × Int × Nat × Nat × (Nat → Nat) × (Nat → Nat) × (Nat → Nat) × (Nat → Nat)) => r = nI u.2.1 ∧ u.2.2.1 = 1 ∧ GoodP cw cr cf cn cnt wd st u.1 u.2.1 u.2.2.2.2.2.2.1) (rw_B (dC, dI) vwCl [(cI, .int)] (va_A [(x0, .inr (6, [.ref k0, .ref v0, .ref a0, .ref j0, .ref q, .ref qa, .int (nI sc)])), (a0, .inr (2, [.ref ab, .int (nI bn), .int (nI bf), .int (nI kn), .ref ap, .ref aq, .ref ac, .int (zI room), .int (nI most), .int (nI bs)])), (ab, .inl (cI, 5, .inl (aN bc))), (ap, .inl (cI, 5, .inl (aN pi))), (aq, .inl (cI, 6, .inl (aN pf))), (ac, .inl (cI, 5, .inl (aN ct))), (k0, .inr (0, [.int (nI cw), .int (nI ck), .int (nI cr), .int (nI cf), .int (nI cn)])), (v0, .inr (5, [.ref vw, .ref vs, .int (nI cnt)])), (vw, .inl (cI, 5, .inl (aN wd))), (vs, .inl (cI, 5, .inl (aN st)))] sz) (fun u : Nat × Nat × Nat × Int × Nat × Nat × (Nat → Nat) × (Nat → Nat) × (Nat → Nat) × (Nat → Nat) => [(x0, .inr (6, [.ref k0, .ref v0, .ref a0, .ref j0, .ref q, .ref qa, .int (nI sc)])), (a0, .inr (2, [.ref ab, .int (nI u.1), .int (nI u.2.1), .int (nI u.2.2.1), .ref ap, .ref aq, .ref ac, .int (zI u.2.2.2.1), .int (nI u.2.2.2.2.1), .int (nI u.2.2.2.2.2.1)])), (ab, .inl (cI, 5, .inl (aN u.2.2.2.2.2.2.1))), (ap, .inl (cI, 5, .inl (aN u.2.2.2.2.2.2.2.1))), (aq, .inl (cI, 6, .inl (aN u.2.2.2.2.2.2.2.2.1))), (ac, .inl (cI, 5, .inl (aN u.2.2.2.2.2.2.2.2.2))), (k0, .inr (0, [.int (nI cw), .int (nI ck), .int (nI cr), .int (nI cf), .int (nI cn)])), (v0, .inr (5, [.ref vw, .ref vs, .int (nI cnt)])), (vw, .inl (cI, 5, .inl (aN wd))), (vs, .inl (cI, 5, .inl (aN st)))])) (va_A [(x0, .inr (6, [.ref k0, .ref v0, .ref a0, .ref j0, .ref q, .ref qa, .int (nI sc)])), (a0, .inr (2, [.ref ab, .int (nI bn), .int (nI bf), .int (nI kn), .ref ap, .ref aq, .ref ac, .int (zI room), .int (nI most), .int (nI bs)])), (ab, .inl (cI, 5, .inl (aN bc))), (ap, .inl (cI, 5, .inl (aN pi))), (aq, .inl (cI, 6, .inl (aN pf))), (ac, .inl (cI, 5, .inl (aN ct))), (k0, .inr (0, [.int (nI cw), .int (nI ck), .int (nI cr), .int (nI cf), .int (nI cn)])), (v0, .inr (5, [.ref vw, .ref vs, .int (nI cnt)])), (vw, .inl (cI, 5, .inl (aN wd))), (vs, .inl (cI, 5, .inl (aN st)))] sz)) 0 0 (va_A [(x0, .inr (6, [.ref k0, .ref v0, .ref a0, .ref j0, .ref q, .ref qa, .int (nI sc)])), (a0, .inr (2, [.ref ab, .int (nI bn), .int (nI bf), .int (nI kn), .ref ap, .ref aq, .ref ac, .int (zI room), .int (nI most), .int (nI bs)])), (ab, .inl (cI, 5, .inl (aN bc))), (ap, .inl (cI, 5, .inl (aN pi))), (aq, .inl (cI, 6, .inl (aN pf))), (ac, .inl (cI, 5, .inl (aN ct))), (k0, .inr (0, [.int (nI cw), .int (nI ck), .int (nI cr), .int (nI cf), .int (nI cn)])), (v0, .inr (5, [.ref vw, .ref vs, .int (nI cnt)])), (vw, .inl (cI, 5, .inl (aN wd))), (vs, .inl (cI, 5, .inl (aN st)))] sz) := by
  refine Met.ofW (cc := b_SW_fill) (maxL := 1) (ret := (some .int)) (by decide) rfl ?_
  intro p e s m args below meth c s₁ B hml hv
  obtain ⟨rfl, hsz, hP, hK, hD0⟩ := hv
  have hx := B.exec
  have hb := B.bytes
  have hr := B.returns
  have hts := gw_h (atoms_spec (ws := w_SW_fill) B.pre)
  have hown : s.vm.findClass R_SW = some m.cls := findClass_of_methodNamed B.named
  have hlocks := B.notSynchronized
  subst hsz
  have hD := hD0.self (sz := s.heap.size)
  generalize hAe : va_A [(x0, .inr (6, [.ref k0, .ref v0, .ref a0, .ref j0, .ref q, .ref qa, .int (nI sc)])), (a0, .inr (2, [.ref ab, .int (nI bn), .int (nI bf), .int (nI kn), .ref ap, .ref aq, .ref ac, .int (zI room), .int (nI most), .int (nI bs)])), (ab, .inl (cI, 5, .inl (aN bc))), (ap, .inl (cI, 5, .inl (aN pi))), (aq, .inl (cI, 6, .inl (aN pf))), (ac, .inl (cI, 5, .inl (aN ct))), (k0, .inr (0, [.int (nI cw), .int (nI ck), .int (nI cr), .int (nI cf), .int (nI cn)])), (v0, .inr (5, [.ref vw, .ref vs, .int (nI cnt)])), (vw, .inl (cI, 5, .inl (aN wd))), (vs, .inl (cI, 5, .inl (aN st)))] s.heap.size = A at hD ⊢
  have hA : ∀ q : Nat, s.heap.size ≤ q → A q := fun q h => by rw [← hAe]; exact Or.inr h
  have hS : va_S A s.heap s.heap [] := va_S.rf
  have hP : va_P (dC, dI) vwCl [(x0, .inr (6, [.ref k0, .ref v0, .ref a0, .ref j0, .ref q, .ref qa, .int (nI sc)])), (a0, .inr (2, [.ref ab, .int (nI bn), .int (nI bf), .int (nI kn), .ref ap, .ref aq, .ref ac, .int (zI room), .int (nI most), .int (nI bs)])), (ab, .inl (cI, 5, .inl (aN bc))), (ap, .inl (cI, 5, .inl (aN pi))), (aq, .inl (cI, 6, .inl (aN pf))), (ac, .inl (cI, 5, .inl (aN ct))), (k0, .inr (0, [.int (nI cw), .int (nI ck), .int (nI cr), .int (nI cf), .int (nI cn)])), (v0, .inr (5, [.ref vw, .ref vs, .int (nI cnt)])), (vw, .inl (cI, 5, .inl (aN wd))), (vs, .inl (cI, 5, .inl (aN st)))] s.heap := hP
  have hl := lv_entry ([.ref x0]) (n := 1) (Nat.le_of_ble_eq_true rfl)
  rw [lg_entry_eq]
  generalize (lg_sl ([.ref x0]) ++ List.replicate (1 - (lg_sl ([.ref x0])).length) Slot.unset).toArray = ls at hl ⊢
  have hl : lv_has ls 1 [(0, .ref x0)] := hl
  refine lv_aload_n hx hb d_SW_fill_0 rfl (lv_at hl 0 rfl) ?_
  refine va_get (D := (dC, dI)) (ci := 6) (v := .ref a0) (C := R_SW) (T := F_SW) (N := 7) hx hb hts in_SW hown hK hP 0 rfl rfl 2 (by decide) (hts _ m_224) (fun _ h9 => h9) rfl d_SW_fill_1 ?_
  refine lv_aload_n hx hb d_SW_fill_4 rfl (lv_at hl 0 rfl) ?_
  refine va_get (D := (dC, dI)) (ci := 6) (v := .ref k0) (C := R_SW) (T := F_SW) (N := 7) hx hb hts in_SW hown hK hP 0 rfl rfl 0 (by decide) (hts _ m_222) (fun _ h9 => h9) rfl d_SW_fill_5 ?_
  refine lv_aload_n hx hb d_SW_fill_8 rfl (lv_at hl 0 rfl) ?_
  refine va_get (D := (dC, dI)) (ci := 6) (v := .ref v0) (C := R_SW) (T := F_SW) (N := 7) hx hb hts in_SW hown hK hP 0 rfl rfl 1 (by decide) (hts _ m_223) (fun _ h9 => h9) rfl d_SW_fill_9 ?_
  have hPc := hP.sub (ws' := [(a0, .inr (2, [.ref ab, .int (nI bn), .int (nI bf), .int (nI kn), .ref ap, .ref aq, .ref ac, .int (zI room), .int (nI most), .int (nI bs)])), (ab, .inl (cI, 5, .inl (aN bc))), (ap, .inl (cI, 5, .inl (aN pi))), (aq, .inl (cI, 6, .inl (aN pf))), (ac, .inl (cI, 5, .inl (aN ct))), (k0, .inr (0, [.int (nI cw), .int (nI ck), .int (nI cr), .int (nI cf), .int (nI cn)])), (v0, .inr (5, [.ref vw, .ref vs, .int (nI cnt)])), (vw, .inl (cI, 5, .inl (aN wd))), (vs, .inl (cI, 5, .inl (aN st)))]) [1, 2, 3, 4, 5, 6, 7, 8, 9] rfl
  have hDc := hD.sub (ws' := [(a0, .inr (2, [.ref ab, .int (nI bn), .int (nI bf), .int (nI kn), .ref ap, .ref aq, .ref ac, .int (zI room), .int (nI most), .int (nI bs)])), (ab, .inl (cI, 5, .inl (aN bc))), (ap, .inl (cI, 5, .inl (aN pi))), (aq, .inl (cI, 6, .inl (aN pf))), (ac, .inl (cI, 5, .inl (aN ct))), (k0, .inr (0, [.int (nI cw), .int (nI ck), .int (nI cr), .int (nI cf), .int (nI cn)])), (v0, .inr (5, [.ref vw, .ref vs, .int (nI cnt)])), (vw, .inl (cI, 5, .inl (aN wd))), (vs, .inl (cI, 5, .inl (aN st)))]) [1, 2, 3, 4, 5, 6, 7, 8, 9] (by decide) rfl
  have hFc := va_free (wc := [(a0, .inr (2, [.ref ab, .int (nI bn), .int (nI bf), .int (nI kn), .ref ap, .ref aq, .ref ac, .int (zI room), .int (nI most), .int (nI bs)])), (ab, .inl (cI, 5, .inl (aN bc))), (ap, .inl (cI, 5, .inl (aN pi))), (aq, .inl (cI, 6, .inl (aN pf))), (ac, .inl (cI, 5, .inl (aN ct))), (k0, .inr (0, [.int (nI cw), .int (nI ck), .int (nI cr), .int (nI cf), .int (nI cn)])), (v0, .inr (5, [.ref vw, .ref vs, .int (nI cnt)])), (vw, .inl (cI, 5, .inl (aN wd))), (vs, .inl (cI, 5, .inl (aN st)))]) hD hS hA [1, 2, 3, 4, 5, 6, 7, 8, 9] rfl
  refine va_callv (va_runV (As := [.ref k0, .ref v0]) (rest := []) ⟨hx, hb, hml, hown, hts⟩ (c_PS_find l dC dI s.heap.size a0 ab ap aq ac k0 cI v0 vw vs bc pi pf ct wd st bn bf kn most bs cw ck cr cf cn cnt room hk hc5 hst9 hwd hcf hcw hcr hcn1 hcn2) (cwV 2 hts (gw_V m_248 m_249 m_250 m_4 m_251) rfl rfl rfl (by decide +kernel) ⟨Nat.le_of_ble_eq_true rfl, Nat.le_of_ble_eq_true rfl⟩) ⟨rw_blind, va_recv hK hPc (ci := 2) (q0 := 0) rfl rfl, fun U hU hW => ⟨rfl, by rw [hU], by rw [hU]; exact hPc, va_K.moved hW.alike hK, hDc.weaken (fun _ _ _ _ => trivial)⟩⟩ rfl rfl hl.1 rfl (lv_room (Nat.le_of_ble_eq_true rfl)) d_SW_fill_12 ⟨Nat.le_of_ble_eq_true rfl, Nat.le_of_ble_eq_true rfl⟩) hS (fun q _ h => hFc q h) hFc (fun u t H1 locs ht hvm hw hB hz1 hk1 hS => ?_)
  obtain ⟨bn1, bf1, kn1, rm1, mo1, bs1, bc1, pi1, pf1, ct1⟩ := u
  obtain ⟨hP1, hK1, hD1⟩ := hB
  rw [ht] at hP1
  try dsimp only at hw
  obtain ⟨hP, hD⟩ := va_join (wr := [(x0, .inr (6, [.ref k0, .ref v0, .ref a0, .ref j0, .ref q, .ref qa, .int (nI sc)]))]) (w1 := [(a0, .inr (2, [.ref ab, .int (nI bn1), .int (nI bf1), .int (nI kn1), .ref ap, .ref aq, .ref ac, .int (zI rm1), .int (nI mo1), .int (nI bs1)])), (ab, .inl (cI, 5, .inl (aN bc1))), (ap, .inl (cI, 5, .inl (aN pi1))), (aq, .inl (cI, 6, .inl (aN pf1))), (ac, .inl (cI, 5, .inl (aN ct1))), (k0, .inr (0, [.int (nI cw), .int (nI ck), .int (nI cr), .int (nI cf), .int (nI cn)])), (v0, .inr (5, [.ref vw, .ref vs, .int (nI cnt)])), (vw, .inl (cI, 5, .inl (aN wd))), (vs, .inl (cI, 5, .inl (aN st)))]) hP hD [1, 2, 3, 4, 5, 6, 7, 8, 9] [0] rfl rfl (by decide) (by decide) hk1 hFc hP1 hD1
  generalize H1 = H at hP hS ⊢
  have hP : va_P (dC, dI) vwCl [(x0, .inr (6, [.ref k0, .ref v0, .ref a0, .ref j0, .ref q, .ref qa, .int (nI sc)])), (a0, .inr (2, [.ref ab, .int (nI bn1), .int (nI bf1), .int (nI kn1), .ref ap, .ref aq, .ref ac, .int (zI rm1), .int (nI mo1), .int (nI bs1)])), (ab, .inl (cI, 5, .inl (aN bc1))), (ap, .inl (cI, 5, .inl (aN pi1))), (aq, .inl (cI, 6, .inl (aN pf1))), (ac, .inl (cI, 5, .inl (aN ct1))), (k0, .inr (0, [.int (nI cw), .int (nI ck), .int (nI cr), .int (nI cf), .int (nI cn)])), (v0, .inr (5, [.ref vw, .ref vs, .int (nI cnt)])), (vw, .inl (cI, 5, .inl (aN wd))), (vs, .inl (cI, 5, .inl (aN st)))] H := hP.sub [0, 1, 2, 3, 4, 5, 6, 7, 8, 9] rfl
  have hD : va_D A [(x0, .inr (6, [.ref k0, .ref v0, .ref a0, .ref j0, .ref q, .ref qa, .int (nI sc)])), (a0, .inr (2, [.ref ab, .int (nI bn1), .int (nI bf1), .int (nI kn1), .ref ap, .ref aq, .ref ac, .int (zI rm1), .int (nI mo1), .int (nI bs1)])), (ab, .inl (cI, 5, .inl (aN bc1))), (ap, .inl (cI, 5, .inl (aN pi1))), (aq, .inl (cI, 6, .inl (aN pf1))), (ac, .inl (cI, 5, .inl (aN ct1))), (k0, .inr (0, [.int (nI cw), .int (nI ck), .int (nI cr), .int (nI cf), .int (nI cn)])), (v0, .inr (5, [.ref vw, .ref vs, .int (nI cnt)])), (vw, .inl (cI, 5, .inl (aN wd))), (vs, .inl (cI, 5, .inl (aN st)))] := hD.sub [0, 1, 2, 3, 4, 5, 6, 7, 8, 9] (by decide) rfl
  obtain ⟨hk1, hGo⟩ := hw
  refine lv_aload_n hx hb d_SW_fill_15 rfl (lv_at hl 0 rfl) ?_
  refine va_get (D := (dC, dI)) (ci := 6) (v := .ref a0) (C := R_SW) (T := F_SW) (N := 7) hx hb hts in_SW hown hK hP 0 rfl rfl 2 (by decide) (hts _ m_224) (fun _ h9 => h9) rfl d_SW_fill_16 ?_
  refine va_get (D := (dC, dI)) (ci := 2) (v := .int (nI bf1)) (C := R_PS) (T := F_PS) (N := 10) hx hb hts in_PS hown hK hP 1 rfl rfl 2 (by decide) (hts _ m_99) (fun _ h9 => h9) rfl d_SW_fill_19 ?_
  exact W.iret (v := nI bf1) hx hb hr (fun t ht hW => ⟨⟨nI bf1, (bn1, bf1, kn1, rm1, mo1, bs1, bc1, pi1, pf1, ct1), rfl, ⟨rfl, hk1, hGo⟩, by rw [ht]; exact hP, va_K.moved hW.alike hK, hD⟩, hS.F ht⟩) hS.2.2 d_SW_fill_22
set_option maxHeartbeats 4000000 in
set_option maxRecDepth 100000 in
/-- best(..), a good one -/
theorem c_SW_best (l : Launch) (dC : Nat → ClassId) (dI : Nat → Nat → Nat) (sz : Nat) (x0 k0 v0 a0 j0 q qa ab ap aq ac : Nat) (cI : ClassId) (vw vs : Nat) (bc pi pf ct wd st : Nat → Nat) (bn bf kn most bs cw ck cr cf cn cnt sc : Nat) (room : Int) (hk : kn = 0 ∨ (kn = 1 ∧ GoodP cw cr cf cn cnt wd st bn bf bc)) (hc5 : cnt ≤ 5) (hst9 : ∀ i, i < cnt → st i ≤ 6) (hwd : ∀ i, i < cnt → wd i ≤ 20000) (hcf : cf ≤ 100) (hcw : cw ≤ 20000) (hcr : cr ≤ 1000) (hcn1 : 2 ≤ cn) (hcn2 : cn ≤ 40) (a1 : Int) (ha1 : -2147483648 ≤ a1 ∧ a1 < 2147483648) (hG : 0 ≤ a1 ∧ a1 < cnt) : Met l y_SW_best w_SW_best { frames := 9, cells := 0, slots := 0, locals := 280 } (rw_Pc (dC, dI) vwCl [(cI, .int)] sz [.ref x0, .int (zI a1)] [(x0, .inr (6, [.ref k0, .ref v0, .ref a0, .ref j0, .ref q, .ref qa, .int (nI sc)])), (a0, .inr (2, [.ref ab, .int (nI bn), .int (nI bf), .int (nI kn), .ref ap, .ref aq, .ref ac, .int (zI room), .int (nI most), .int (nI bs)])), (ab, .inl (cI, 5, .inl (aN bc))), (ap, .inl (cI, 5, .inl (aN pi))), (aq, .inl (cI, 6, .inl (aN pf))), (ac, .inl (cI, 5, .inl (aN ct))), (k0, .inr (0, [.int (nI cw), .int (nI ck), .int (nI cr), .int (nI cf), .int (nI cn)])), (v0, .inr (5, [.ref vw, .ref vs, .int (nI cnt)])), (vw, .inl (cI, 5, .inl (aN wd))), (vs, .inl (cI, 5, .inl (aN st)))]) (va_Qi (fun (r : Int32) (u : Nat × Nat × Nat × Int × Nat × Nat × (Nat → Nat) × (Nat → Nat) × (Nat → Nat) × (Nat → Nat)) => r = nI (u.2.2.2.2.2.2.1 a1.toNat) ∧ u.2.2.1 = 1 ∧ GoodP cw cr cf cn cnt wd st u.1 u.2.1 u.2.2.2.2.2.2.1) (rw_B (dC, dI) vwCl [(cI, .int)] (va_A [(x0, .inr (6, [.ref k0, .ref v0, .ref a0, .ref j0, .ref q, .ref qa, .int (nI sc)])), (a0, .inr (2, [.ref ab, .int (nI bn), .int (nI bf), .int (nI kn), .ref ap, .ref aq, .ref ac, .int (zI room), .int (nI most), .int (nI bs)])), (ab, .inl (cI, 5, .inl (aN bc))), (ap, .inl (cI, 5, .inl (aN pi))), (aq, .inl (cI, 6, .inl (aN pf))), (ac, .inl (cI, 5, .inl (aN ct))), (k0, .inr (0, [.int (nI cw), .int (nI ck), .int (nI cr), .int (nI cf), .int (nI cn)])), (v0, .inr (5, [.ref vw, .ref vs, .int (nI cnt)])), (vw, .inl (cI, 5, .inl (aN wd))), (vs, .inl (cI, 5, .inl (aN st)))] sz) (fun u : Nat × Nat × Nat × Int × Nat × Nat × (Nat → Nat) × (Nat → Nat) × (Nat → Nat) × (Nat → Nat) => [(x0, .inr (6, [.ref k0, .ref v0, .ref a0, .ref j0, .ref q, .ref qa, .int (nI sc)])), (a0, .inr (2, [.ref ab, .int (nI u.1), .int (nI u.2.1), .int (nI u.2.2.1), .ref ap, .ref aq, .ref ac, .int (zI u.2.2.2.1), .int (nI u.2.2.2.2.1), .int (nI u.2.2.2.2.2.1)])), (ab, .inl (cI, 5, .inl (aN u.2.2.2.2.2.2.1))), (ap, .inl (cI, 5, .inl (aN u.2.2.2.2.2.2.2.1))), (aq, .inl (cI, 6, .inl (aN u.2.2.2.2.2.2.2.2.1))), (ac, .inl (cI, 5, .inl (aN u.2.2.2.2.2.2.2.2.2))), (k0, .inr (0, [.int (nI cw), .int (nI ck), .int (nI cr), .int (nI cf), .int (nI cn)])), (v0, .inr (5, [.ref vw, .ref vs, .int (nI cnt)])), (vw, .inl (cI, 5, .inl (aN wd))), (vs, .inl (cI, 5, .inl (aN st)))])) (va_A [(x0, .inr (6, [.ref k0, .ref v0, .ref a0, .ref j0, .ref q, .ref qa, .int (nI sc)])), (a0, .inr (2, [.ref ab, .int (nI bn), .int (nI bf), .int (nI kn), .ref ap, .ref aq, .ref ac, .int (zI room), .int (nI most), .int (nI bs)])), (ab, .inl (cI, 5, .inl (aN bc))), (ap, .inl (cI, 5, .inl (aN pi))), (aq, .inl (cI, 6, .inl (aN pf))), (ac, .inl (cI, 5, .inl (aN ct))), (k0, .inr (0, [.int (nI cw), .int (nI ck), .int (nI cr), .int (nI cf), .int (nI cn)])), (v0, .inr (5, [.ref vw, .ref vs, .int (nI cnt)])), (vw, .inl (cI, 5, .inl (aN wd))), (vs, .inl (cI, 5, .inl (aN st)))] sz)) 0 0 (va_A [(x0, .inr (6, [.ref k0, .ref v0, .ref a0, .ref j0, .ref q, .ref qa, .int (nI sc)])), (a0, .inr (2, [.ref ab, .int (nI bn), .int (nI bf), .int (nI kn), .ref ap, .ref aq, .ref ac, .int (zI room), .int (nI most), .int (nI bs)])), (ab, .inl (cI, 5, .inl (aN bc))), (ap, .inl (cI, 5, .inl (aN pi))), (aq, .inl (cI, 6, .inl (aN pf))), (ac, .inl (cI, 5, .inl (aN ct))), (k0, .inr (0, [.int (nI cw), .int (nI ck), .int (nI cr), .int (nI cf), .int (nI cn)])), (v0, .inr (5, [.ref vw, .ref vs, .int (nI cnt)])), (vw, .inl (cI, 5, .inl (aN wd))), (vs, .inl (cI, 5, .inl (aN st)))] sz) := by
  refine Met.ofW (cc := b_SW_best) (maxL := 2) (ret := (some .int)) (by decide) rfl ?_
  intro p e s m args below meth c s₁ B hml hv
  obtain ⟨rfl, hsz, hP, hK, hD0⟩ := hv
  have hx := B.exec
  have hb := B.bytes
  have hr := B.returns
  have hts := gw_h (atoms_spec (ws := w_SW_best) B.pre)
  have hown : s.vm.findClass R_SW = some m.cls := findClass_of_methodNamed B.named
  have hlocks := B.notSynchronized
  subst hsz
  have hD := hD0.self (sz := s.heap.size)
  generalize hAe : va_A [(x0, .inr (6, [.ref k0, .ref v0, .ref a0, .ref j0, .ref q, .ref qa, .int (nI sc)])), (a0, .inr (2, [.ref ab, .int (nI bn), .int (nI bf), .int (nI kn), .ref ap, .ref aq, .ref ac, .int (zI room), .int (nI most), .int (nI bs)])), (ab, .inl (cI, 5, .inl (aN bc))), (ap, .inl (cI, 5, .inl (aN pi))), (aq, .inl (cI, 6, .inl (aN pf))), (ac, .inl (cI, 5, .inl (aN ct))), (k0, .inr (0, [.int (nI cw), .int (nI ck), .int (nI cr), .int (nI cf), .int (nI cn)])), (v0, .inr (5, [.ref vw, .ref vs, .int (nI cnt)])), (vw, .inl (cI, 5, .inl (aN wd))), (vs, .inl (cI, 5, .inl (aN st)))] s.heap.size = A at hD ⊢
  have hA : ∀ q : Nat, s.heap.size ≤ q → A q := fun q h => by rw [← hAe]; exact Or.inr h
  have hS : va_S A s.heap s.heap [] := va_S.rf
  have hP : va_P (dC, dI) vwCl [(x0, .inr (6, [.ref k0, .ref v0, .ref a0, .ref j0, .ref q, .ref qa, .int (nI sc)])), (a0, .inr (2, [.ref ab, .int (nI bn), .int (nI bf), .int (nI kn), .ref ap, .ref aq, .ref ac, .int (zI room), .int (nI most), .int (nI bs)])), (ab, .inl (cI, 5, .inl (aN bc))), (ap, .inl (cI, 5, .inl (aN pi))), (aq, .inl (cI, 6, .inl (aN pf))), (ac, .inl (cI, 5, .inl (aN ct))), (k0, .inr (0, [.int (nI cw), .int (nI ck), .int (nI cr), .int (nI cf), .int (nI cn)])), (v0, .inr (5, [.ref vw, .ref vs, .int (nI cnt)])), (vw, .inl (cI, 5, .inl (aN wd))), (vs, .inl (cI, 5, .inl (aN st)))] s.heap := hP
  have hl := lv_entry ([.ref x0, .int (zI a1)]) (n := 2) (Nat.le_of_ble_eq_true rfl)
  rw [lg_entry_eq]
  generalize (lg_sl ([.ref x0, .int (zI a1)]) ++ List.replicate (2 - (lg_sl ([.ref x0, .int (zI a1)])).length) Slot.unset).toArray = ls at hl ⊢
  have hl : lv_has ls 2 [(0, .ref x0), (1, .int (zI a1))] := hl
  refine lv_aload_n hx hb d_SW_best_0 rfl (lv_at hl 0 rfl) ?_
  refine lv_iload_n hx hb d_SW_best_1 rfl (lv_at hl 1 rfl) ?_
  have hPc := hP.sub (ws' := [(x0, .inr (6, [.ref k0, .ref v0, .ref a0, .ref j0, .ref q, .ref qa, .int (nI sc)])), (v0, .inr (5, [.ref vw, .ref vs, .int (nI cnt)]))]) [0, 7] rfl
  refine ro_callv (va_runV (As := [.int (zI a1)]) (rest := []) ⟨hx, hb, hml, hown, hts⟩ (c_SW_checkWanted l dC dI x0 k0 v0 a0 j0 q qa cI sc vw vs cnt a1 ha1 (by omega) (by omega)) (cwV 1 hts (gw_V m_424 m_426 s_10 m_1 m_427) rfl rfl rfl (by decide +kernel) ⟨Nat.le_of_ble_eq_true rfl, Nat.le_of_ble_eq_true rfl⟩) ⟨ro_blind, va_recv hK hPc (ci := 6) (q0 := 0) rfl rfl, fun U hU hW => ⟨rfl, by rw [hU]; exact hPc, va_K.moved hW.alike hK⟩⟩ rfl rfl hl.1 rfl (lv_room (Nat.le_of_ble_eq_true rfl)) d_SW_best_2 ⟨Nat.le_of_ble_eq_true rfl, Nat.le_of_ble_eq_true rfl⟩) hS hP (fun H locs hP hS => ?_)
  refine lv_aload_n hx hb d_SW_best_5 rfl (lv_at hl 0 rfl) ?_
  refine va_get (D := (dC, dI)) (ci := 6) (v := .ref a0) (C := R_SW) (T := F_SW) (N := 7) hx hb hts in_SW hown hK hP 0 rfl rfl 2 (by decide) (hts _ m_224) (fun _ h9 => h9) rfl d_SW_best_6 ?_
  refine lv_aload_n hx hb d_SW_best_9 rfl (lv_at hl 0 rfl) ?_
  refine va_get (D := (dC, dI)) (ci := 6) (v := .ref k0) (C := R_SW) (T := F_SW) (N := 7) hx hb hts in_SW hown hK hP 0 rfl rfl 0 (by decide) (hts _ m_222) (fun _ h9 => h9) rfl d_SW_best_10 ?_
  refine lv_aload_n hx hb d_SW_best_13 rfl (lv_at hl 0 rfl) ?_
  refine va_get (D := (dC, dI)) (ci := 6) (v := .ref v0) (C := R_SW) (T := F_SW) (N := 7) hx hb hts in_SW hown hK hP 0 rfl rfl 1 (by decide) (hts _ m_223) (fun _ h9 => h9) rfl d_SW_best_14 ?_
  have hPc := hP.sub (ws' := [(a0, .inr (2, [.ref ab, .int (nI bn), .int (nI bf), .int (nI kn), .ref ap, .ref aq, .ref ac, .int (zI room), .int (nI most), .int (nI bs)])), (ab, .inl (cI, 5, .inl (aN bc))), (ap, .inl (cI, 5, .inl (aN pi))), (aq, .inl (cI, 6, .inl (aN pf))), (ac, .inl (cI, 5, .inl (aN ct))), (k0, .inr (0, [.int (nI cw), .int (nI ck), .int (nI cr), .int (nI cf), .int (nI cn)])), (v0, .inr (5, [.ref vw, .ref vs, .int (nI cnt)])), (vw, .inl (cI, 5, .inl (aN wd))), (vs, .inl (cI, 5, .inl (aN st)))]) [1, 2, 3, 4, 5, 6, 7, 8, 9] rfl
  have hDc := hD.sub (ws' := [(a0, .inr (2, [.ref ab, .int (nI bn), .int (nI bf), .int (nI kn), .ref ap, .ref aq, .ref ac, .int (zI room), .int (nI most), .int (nI bs)])), (ab, .inl (cI, 5, .inl (aN bc))), (ap, .inl (cI, 5, .inl (aN pi))), (aq, .inl (cI, 6, .inl (aN pf))), (ac, .inl (cI, 5, .inl (aN ct))), (k0, .inr (0, [.int (nI cw), .int (nI ck), .int (nI cr), .int (nI cf), .int (nI cn)])), (v0, .inr (5, [.ref vw, .ref vs, .int (nI cnt)])), (vw, .inl (cI, 5, .inl (aN wd))), (vs, .inl (cI, 5, .inl (aN st)))]) [1, 2, 3, 4, 5, 6, 7, 8, 9] (by decide) rfl
  have hFc := va_free (wc := [(a0, .inr (2, [.ref ab, .int (nI bn), .int (nI bf), .int (nI kn), .ref ap, .ref aq, .ref ac, .int (zI room), .int (nI most), .int (nI bs)])), (ab, .inl (cI, 5, .inl (aN bc))), (ap, .inl (cI, 5, .inl (aN pi))), (aq, .inl (cI, 6, .inl (aN pf))), (ac, .inl (cI, 5, .inl (aN ct))), (k0, .inr (0, [.int (nI cw), .int (nI ck), .int (nI cr), .int (nI cf), .int (nI cn)])), (v0, .inr (5, [.ref vw, .ref vs, .int (nI cnt)])), (vw, .inl (cI, 5, .inl (aN wd))), (vs, .inl (cI, 5, .inl (aN st)))]) hD hS hA [1, 2, 3, 4, 5, 6, 7, 8, 9] rfl
  refine va_callv (va_runV (As := [.ref k0, .ref v0]) (rest := []) ⟨hx, hb, hml, hown, hts⟩ (c_PS_find l dC dI H.size a0 ab ap aq ac k0 cI v0 vw vs bc pi pf ct wd st bn bf kn most bs cw ck cr cf cn cnt room hk hc5 hst9 hwd hcf hcw hcr hcn1 hcn2) (cwV 2 hts (gw_V m_248 m_249 m_250 m_4 m_251) rfl rfl rfl (by decide +kernel) ⟨Nat.le_of_ble_eq_true rfl, Nat.le_of_ble_eq_true rfl⟩) ⟨rw_blind, va_recv hK hPc (ci := 2) (q0 := 0) rfl rfl, fun U hU hW => ⟨rfl, by rw [hU], by rw [hU]; exact hPc, va_K.moved hW.alike hK, hDc.weaken (fun _ _ _ _ => trivial)⟩⟩ rfl rfl hl.1 rfl (lv_room (Nat.le_of_ble_eq_true rfl)) d_SW_best_17 ⟨Nat.le_of_ble_eq_true rfl, Nat.le_of_ble_eq_true rfl⟩) hS (fun q _ h => hFc q h) hFc (fun u t H1 locs ht hvm hw hB hz1 hk1 hS => ?_)
  obtain ⟨bn1, bf1, kn1, rm1, mo1, bs1, bc1, pi1, pf1, ct1⟩ := u
  obtain ⟨hP1, hK1, hD1⟩ := hB
  rw [ht] at hP1
  try dsimp only at hw
  obtain ⟨hP, hD⟩ := va_join (wr := [(x0, .inr (6, [.ref k0, .ref v0, .ref a0, .ref j0, .ref q, .ref qa, .int (nI sc)]))]) (w1 := [(a0, .inr (2, [.ref ab, .int (nI bn1), .int (nI bf1), .int (nI kn1), .ref ap, .ref aq, .ref ac, .int (zI rm1), .int (nI mo1), .int (nI bs1)])), (ab, .inl (cI, 5, .inl (aN bc1))), (ap, .inl (cI, 5, .inl (aN pi1))), (aq, .inl (cI, 6, .inl (aN pf1))), (ac, .inl (cI, 5, .inl (aN ct1))), (k0, .inr (0, [.int (nI cw), .int (nI ck), .int (nI cr), .int (nI cf), .int (nI cn)])), (v0, .inr (5, [.ref vw, .ref vs, .int (nI cnt)])), (vw, .inl (cI, 5, .inl (aN wd))), (vs, .inl (cI, 5, .inl (aN st)))]) hP hD [1, 2, 3, 4, 5, 6, 7, 8, 9] [0] rfl rfl (by decide) (by decide) hk1 hFc hP1 hD1
  generalize H1 = H at hP hS ⊢
  have hP : va_P (dC, dI) vwCl [(x0, .inr (6, [.ref k0, .ref v0, .ref a0, .ref j0, .ref q, .ref qa, .int (nI sc)])), (a0, .inr (2, [.ref ab, .int (nI bn1), .int (nI bf1), .int (nI kn1), .ref ap, .ref aq, .ref ac, .int (zI rm1), .int (nI mo1), .int (nI bs1)])), (ab, .inl (cI, 5, .inl (aN bc1))), (ap, .inl (cI, 5, .inl (aN pi1))), (aq, .inl (cI, 6, .inl (aN pf1))), (ac, .inl (cI, 5, .inl (aN ct1))), (k0, .inr (0, [.int (nI cw), .int (nI ck), .int (nI cr), .int (nI cf), .int (nI cn)])), (v0, .inr (5, [.ref vw, .ref vs, .int (nI cnt)])), (vw, .inl (cI, 5, .inl (aN wd))), (vs, .inl (cI, 5, .inl (aN st)))] H := hP.sub [0, 1, 2, 3, 4, 5, 6, 7, 8, 9] rfl
  have hD : va_D A [(x0, .inr (6, [.ref k0, .ref v0, .ref a0, .ref j0, .ref q, .ref qa, .int (nI sc)])), (a0, .inr (2, [.ref ab, .int (nI bn1), .int (nI bf1), .int (nI kn1), .ref ap, .ref aq, .ref ac, .int (zI rm1), .int (nI mo1), .int (nI bs1)])), (ab, .inl (cI, 5, .inl (aN bc1))), (ap, .inl (cI, 5, .inl (aN pi1))), (aq, .inl (cI, 6, .inl (aN pf1))), (ac, .inl (cI, 5, .inl (aN ct1))), (k0, .inr (0, [.int (nI cw), .int (nI ck), .int (nI cr), .int (nI cf), .int (nI cn)])), (v0, .inr (5, [.ref vw, .ref vs, .int (nI cnt)])), (vw, .inl (cI, 5, .inl (aN wd))), (vs, .inl (cI, 5, .inl (aN st)))] := hD.sub [0, 1, 2, 3, 4, 5, 6, 7, 8, 9] (by decide) rfl
  obtain ⟨hk1, hGo⟩ := hw
  refine lv_aload_n hx hb d_SW_best_20 rfl (lv_at hl 0 rfl) ?_
  refine va_get (D := (dC, dI)) (ci := 6) (v := .ref a0) (C := R_SW) (T := F_SW) (N := 7) hx hb hts in_SW hown hK hP 0 rfl rfl 2 (by decide) (hts _ m_224) (fun _ h9 => h9) rfl d_SW_best_21 ?_
  refine va_get (D := (dC, dI)) (ci := 2) (v := .ref ab) (C := R_PS) (T := F_PS) (N := 10) hx hb hts in_PS hown hK hP 1 rfl rfl 0 (by decide) (hts _ m_94) (fun _ h9 => h9) rfl d_SW_best_24 ?_
  refine lv_iload_n hx hb d_SW_best_27 rfl (lv_at hl 1 rfl) ?_
  refine lv_topr (show _ = nI a1.toNat from z_toN (by omega)) ?_
  refine ix_ialdN (i := a1.toNat) hx hb hK hP 2 0 rfl rfl (by omega) (by decide) d_SW_best_28 ?_
  exact W.iret (v := nI (bc1 a1.toNat)) hx hb hr (fun t ht hW => ⟨⟨nI (bc1 a1.toNat), (bn1, bf1, kn1, rm1, mo1, bs1, bc1, pi1, pf1, ct1), rfl, ⟨rfl, hk1, hGo⟩, by rw [ht]; exact hP, va_K.moved hW.alike hK, hD⟩, hS.F ht⟩) hS.2.2 d_SW_best_29
set_option maxHeartbeats 4000000 in
set_option maxRecDepth 100000 in
/-- best(..), no such wanted width -/
theorem t_SW_best (l : Launch) (hst : l.stackTraces = false) (dC : Nat → ClassId) (dI : Nat → Nat → Nat) (e1 e2 : Nat) (x0 k0 v0 a0 j0 q qa : Nat) (cI : ClassId) (sc vw vs cnt : Nat) (a1 : Int) (ha1 : -2147483648 ≤ a1 ∧ a1 < 2147483648) (hc : cnt ≤ 5) (hG : ¬ (0 ≤ a1 ∧ a1 < cnt)) : TMet l y_SW_best w_SW_best { frames := 7, cells := 1, slots := 6, locals := 103 } (ey e1 e2 (ro_Pc (dC, dI) vwCl [(cI, .int)] [.ref x0, .int (zI a1)] [(x0, .inr (6, [.ref k0, .ref v0, .ref a0, .ref j0, .ref q, .ref qa, .int (nI sc)])), (v0, .inr (5, [.ref vw, .ref vs, .int (nI cnt)]))])) "java/lang/IndexOutOfBoundsException" B0 1 6 ro_no := by
  refine TMet.ofW (cc := b_SW_best) (maxL := 2) (ret := (some .int)) (by decide) rfl ?_
  intro p e s m args below meth c s₁ B hml hemp hv
  obtain ⟨⟨rfl, hP, hK⟩, hEY⟩ := hv
  have hx := B.exec
  have hb := B.bytes
  have hts := gw_h (atoms_spec (ws := w_SW_best) B.pre)
  have hown : s.vm.findClass R_SW = some m.cls := findClass_of_methodNamed B.named
  have hlocks := B.notSynchronized
  have hS : va_S ro_no s.heap s.heap [] := va_S.rf
  have hP : va_P (dC, dI) vwCl [(x0, .inr (6, [.ref k0, .ref v0, .ref a0, .ref j0, .ref q, .ref qa, .int (nI sc)])), (v0, .inr (5, [.ref vw, .ref vs, .int (nI cnt)]))] s.heap := hP
  have hl := lv_entry ([.ref x0, .int (zI a1)]) (n := 2) (Nat.le_of_ble_eq_true rfl)
  rw [lg_entry_eq]
  generalize (lg_sl ([.ref x0, .int (zI a1)]) ++ List.replicate (2 - (lg_sl ([.ref x0, .int (zI a1)])).length) Slot.unset).toArray = ls at hl ⊢
  have hl : lv_has ls 2 [(0, .ref x0), (1, .int (zI a1))] := hl
  refine lv_aload_n hx hb d_SW_best_0 rfl (lv_at hl 0 rfl) ?_
  refine lv_iload_n hx hb d_SW_best_1 rfl (lv_at hl 1 rfl) ?_
  have hPc := hP.sub (ws' := [(x0, .inr (6, [.ref k0, .ref v0, .ref a0, .ref j0, .ref q, .ref qa, .int (nI sc)])), (v0, .inr (5, [.ref vw, .ref vs, .int (nI cnt)]))]) [0, 1] rfl
  have hEH := hEY.ro hS
  refine th_runV (As := [.int (zI a1)]) (rest := []) ⟨hx, hb, hml, hown, hts⟩ (t_SW_checkWanted l hst dC dI e1 e2 x0 k0 v0 a0 j0 q qa cI sc vw vs cnt a1 ha1 (by omega) (by omega)) (cwV 1 hts (gw_V m_424 m_426 s_10 m_1 m_427) rfl rfl rfl (by decide +kernel) ⟨Nat.le_of_ble_eq_true rfl, Nat.le_of_ble_eq_true rfl⟩) ⟨ey_blind ro_blind, va_recv hK hPc (ci := 6) (q0 := 0) rfl rfl, fun U hU hW => ⟨⟨rfl, by rw [hU]; exact hPc, va_K.moved hW.alike hK⟩, by rw [hU]; exact EY.warm hW hEH⟩⟩ rfl hl.1 rfl (Nat.le_of_ble_eq_true rfl) d_SW_best_2 ⟨Nat.le_of_ble_eq_true rfl, Nat.le_of_ble_eq_true rfl⟩ (fun q9 ce st9 t9 H1 L9 h09 h19 hW9 hB9 hce hcv hcl hL9 => ?_)
  exact TW.out hemp hlocks hce hcv hcl (fun t2 ht2 _ => B0.ro hS h09 h19 hB9 ht2) (fun z hz => (List.mem_append.mp hz).elim (hS.2.2 z) (hL9 z))
set_option maxHeartbeats 4000000 in
set_option maxRecDepth 100000 in
/-- defect(..), a good one -/
theorem c_SW_defect (l : Launch) (dC : Nat → ClassId) (dI : Nat → Nat → Nat) (sz : Nat) (x0 k0 v0 a0 j0 q qa : Nat) (cI : ClassId) (jf jt : Nat) (fr to : Nat → Nat) (dc sc : Nat) (a1 : Int) (a2 : Int) (ha1 : -2147483648 ≤ a1 ∧ a1 < 2147483648) (ha2 : -2147483648 ≤ a2 ∧ a2 < 2147483648) (hc : dc < 10) (hG : ((0 ≤ a1 ∧ a1 ≤ 20000) ∧ (0 ≤ a2 ∧ a2 ≤ 20000) ∧ a1 < a2)) : Met l y_SW_defect w_SW_defect { frames := 1, cells := 0, slots := 0, locals := 22 } (rw_Pc (dC, dI) vwCl [(cI, .int)] sz [.ref x0, .int (zI a1), .int (zI a2)] [(x0, .inr (6, [.ref k0, .ref v0, .ref a0, .ref j0, .ref q, .ref qa, .int (nI sc)])), (j0, .inr (1, [.ref jf, .ref jt, .int (nI dc)])), (jf, .inl (cI, 10, .inl (aN fr))), (jt, .inl (cI, 10, .inl (aN to)))]) (va_Qi (fun (r : Int32) (u : Unit) => r = nI (dc + 1)) (rw_B (dC, dI) vwCl [(cI, .int)] (va_A [(x0, .inr (6, [.ref k0, .ref v0, .ref a0, .ref j0, .ref q, .ref qa, .int (nI sc)])), (j0, .inr (1, [.ref jf, .ref jt, .int (nI dc)])), (jf, .inl (cI, 10, .inl (aN fr))), (jt, .inl (cI, 10, .inl (aN to)))] sz) (fun u : Unit => [(x0, .inr (6, [.ref k0, .ref v0, .ref a0, .ref j0, .ref q, .ref qa, .int (nI sc)])), (j0, .inr (1, [.ref jf, .ref jt, .int (nI (dc + 1))])), (jf, .inl (cI, 10, .inl (aN (up fr dc a1.toNat)))), (jt, .inl (cI, 10, .inl (aN (up to dc a2.toNat))))])) (va_A [(x0, .inr (6, [.ref k0, .ref v0, .ref a0, .ref j0, .ref q, .ref qa, .int (nI sc)])), (j0, .inr (1, [.ref jf, .ref jt, .int (nI dc)])), (jf, .inl (cI, 10, .inl (aN fr))), (jt, .inl (cI, 10, .inl (aN to)))] sz)) 0 0 (va_A [(x0, .inr (6, [.ref k0, .ref v0, .ref a0, .ref j0, .ref q, .ref qa, .int (nI sc)])), (j0, .inr (1, [.ref jf, .ref jt, .int (nI dc)])), (jf, .inl (cI, 10, .inl (aN fr))), (jt, .inl (cI, 10, .inl (aN to)))] sz) := by
  refine Met.ofW (cc := b_SW_defect) (maxL := 3) (ret := (some .int)) (by decide) rfl ?_
  intro p e s m args below meth c s₁ B hml hv
  obtain ⟨rfl, hsz, hP, hK, hD0⟩ := hv
  have hx := B.exec
  have hb := B.bytes
  have hr := B.returns
  have hts := gw_h (atoms_spec (ws := w_SW_defect) B.pre)
  have hown : s.vm.findClass R_SW = some m.cls := findClass_of_methodNamed B.named
  have hlocks := B.notSynchronized
  subst hsz
  have hD := hD0.self (sz := s.heap.size)
  generalize hAe : va_A [(x0, .inr (6, [.ref k0, .ref v0, .ref a0, .ref j0, .ref q, .ref qa, .int (nI sc)])), (j0, .inr (1, [.ref jf, .ref jt, .int (nI dc)])), (jf, .inl (cI, 10, .inl (aN fr))), (jt, .inl (cI, 10, .inl (aN to)))] s.heap.size = A at hD ⊢
  have hA : ∀ q : Nat, s.heap.size ≤ q → A q := fun q h => by rw [← hAe]; exact Or.inr h
  have hS : va_S A s.heap s.heap [] := va_S.rf
  have hP : va_P (dC, dI) vwCl [(x0, .inr (6, [.ref k0, .ref v0, .ref a0, .ref j0, .ref q, .ref qa, .int (nI sc)])), (j0, .inr (1, [.ref jf, .ref jt, .int (nI dc)])), (jf, .inl (cI, 10, .inl (aN fr))), (jt, .inl (cI, 10, .inl (aN to)))] s.heap := hP
  have hl := lv_entry ([.ref x0, .int (zI a1), .int (zI a2)]) (n := 3) (Nat.le_of_ble_eq_true rfl)
  rw [lg_entry_eq]
  generalize (lg_sl ([.ref x0, .int (zI a1), .int (zI a2)]) ++ List.replicate (3 - (lg_sl ([.ref x0, .int (zI a1), .int (zI a2)])).length) Slot.unset).toArray = ls at hl ⊢
  have hl : lv_has ls 3 [(0, .ref x0), (1, .int (zI a1)), (2, .int (zI a2))] := hl
  refine lv_aload_n hx hb d_SW_defect_0 rfl (lv_at hl 0 rfl) ?_
  refine va_get (D := (dC, dI)) (ci := 6) (v := .ref j0) (C := R_SW) (T := F_SW) (N := 7) hx hb hts in_SW hown hK hP 0 rfl rfl 3 (by decide) (hts _ m_225) (fun _ h9 => h9) rfl d_SW_defect_1 ?_
  refine va_get (D := (dC, dI)) (ci := 1) (v := .int (nI dc)) (C := R_DE) (T := F_DE) (N := 3) hx hb hts in_DE hown hK hP 1 rfl rfl 2 (by decide) (hts _ m_143) (fun _ h9 => h9) rfl d_SW_defect_4 ?_
  refine lv_bipush (v := nI 10) hx hb d_SW_defect_7 (by decide +kernel) ?_
  refine ix_icmp_lt (tgt := 22) hx hb (nI_tI (n := dc) (by omega)) (nI_tI (n := 10) (by omega)) d_SW_defect_9 (by decide) (fun c_9 => ?_) (fun c_9 => absurd c_9 (by omega))
  refine lv_iload_n hx hb d_SW_defect_22 rfl (lv_at hl 1 rfl) ?_
  refine lv_iconst (v := nI 0) hx hb d_SW_defect_23 (by decide +kernel) ?_
  refine lv_sipush (v := nI 20000) hx hb d_SW_defect_24 (by decide +kernel) ?_
  refine lv_arg3 (show _ = zI a1 from rfl) (show _ = zI 0 from zI_n _) (show _ = zI 20000 from zI_n _) ?_
  refine ro_calli (va_runS (As := [.int (zI a1), .int (zI (0 : Int)), .int (zI (20000 : Int))]) (rest := []) ⟨hx, hb, hml, hown, hts⟩ (c_SW_within l dC dI cI a1 (0 : Int) (20000 : Int) ha1 (by omega) (by omega)) (va_cwS 3 hts (gw_S m_318 m_319 m_1 m_320) rfl rfl rfl (by decide +kernel) ⟨Nat.le_of_ble_eq_true rfl, Nat.le_of_ble_eq_true rfl⟩) ⟨ro_blind, fun U hU hW => ⟨rfl, fun k q h => by simp at h, va_K.moved hW.alike hK⟩⟩ rfl rfl hl.1 rfl (lv_room (Nat.le_of_ble_eq_true rfl)) d_SW_defect_27 ⟨Nat.le_of_ble_eq_true rfl, Nat.le_of_ble_eq_true rfl⟩) hS hP (fun r H locs er hP hS => ?_)
  subst er
  have hq27 := @b01_1 ((0 : Int) ≤ a1 ∧ a1 ≤ (20000 : Int)) _
  have hr27 := @b01_le ((0 : Int) ≤ a1 ∧ a1 ≤ (20000 : Int)) _
  refine ix_if_eq (tgt := 49) hx hb (nI_tI (n := b01 ((0 : Int) ≤ a1 ∧ a1 ≤ (20000 : Int))) (by omega)) d_SW_defect_30 (by decide) (fun c_30 => absurd c_30 (by omega)) (fun c_30 => ?_)
  refine lv_iload_n hx hb d_SW_defect_33 rfl (lv_at hl 2 rfl) ?_
  refine lv_iconst (v := nI 0) hx hb d_SW_defect_34 (by decide +kernel) ?_
  refine lv_sipush (v := nI 20000) hx hb d_SW_defect_35 (by decide +kernel) ?_
  refine lv_arg3 (show _ = zI a2 from rfl) (show _ = zI 0 from zI_n _) (show _ = zI 20000 from zI_n _) ?_
  refine ro_calli (va_runS (As := [.int (zI a2), .int (zI (0 : Int)), .int (zI (20000 : Int))]) (rest := []) ⟨hx, hb, hml, hown, hts⟩ (c_SW_within l dC dI cI a2 (0 : Int) (20000 : Int) ha2 (by omega) (by omega)) (va_cwS 3 hts (gw_S m_318 m_319 m_1 m_320) rfl rfl rfl (by decide +kernel) ⟨Nat.le_of_ble_eq_true rfl, Nat.le_of_ble_eq_true rfl⟩) ⟨ro_blind, fun U hU hW => ⟨rfl, fun k q h => by simp at h, va_K.moved hW.alike hK⟩⟩ rfl rfl hl.1 rfl (lv_room (Nat.le_of_ble_eq_true rfl)) d_SW_defect_38 ⟨Nat.le_of_ble_eq_true rfl, Nat.le_of_ble_eq_true rfl⟩) hS hP (fun r H locs er hP hS => ?_)
  subst er
  have hq38 := @b01_1 ((0 : Int) ≤ a2 ∧ a2 ≤ (20000 : Int)) _
  have hr38 := @b01_le ((0 : Int) ≤ a2 ∧ a2 ≤ (20000 : Int)) _
  refine ix_if_eq (tgt := 49) hx hb (nI_tI (n := b01 ((0 : Int) ≤ a2 ∧ a2 ≤ (20000 : Int))) (by omega)) d_SW_defect_41 (by decide) (fun c_41 => absurd c_41 (by omega)) (fun c_41 => ?_)
  refine lv_iload_n hx hb d_SW_defect_44 rfl (lv_at hl 2 rfl) ?_
  refine lv_iload_n hx hb d_SW_defect_45 rfl (lv_at hl 1 rfl) ?_
  refine ix_icmp_gt (tgt := 59) hx hb (zI_toInt (z := a2) (by omega) (by omega)) (zI_toInt (z := a1) (by omega) (by omega)) d_SW_defect_46 (by decide) (fun c_46 => ?_) (fun c_46 => absurd c_46 (by omega))
  refine lv_aload_n hx hb d_SW_defect_59 rfl (lv_at hl 0 rfl) ?_
  refine va_get (D := (dC, dI)) (ci := 6) (v := .ref j0) (C := R_SW) (T := F_SW) (N := 7) hx hb hts in_SW hown hK hP 0 rfl rfl 3 (by decide) (hts _ m_225) (fun _ h9 => h9) rfl d_SW_defect_60 ?_
  refine va_get (D := (dC, dI)) (ci := 1) (v := .ref jf) (C := R_DE) (T := F_DE) (N := 3) hx hb hts in_DE hown hK hP 1 rfl rfl 0 (by decide) (hts _ m_137) (fun _ h9 => h9) rfl d_SW_defect_63 ?_
  refine lv_aload_n hx hb d_SW_defect_66 rfl (lv_at hl 0 rfl) ?_
  refine va_get (D := (dC, dI)) (ci := 6) (v := .ref j0) (C := R_SW) (T := F_SW) (N := 7) hx hb hts in_SW hown hK hP 0 rfl rfl 3 (by decide) (hts _ m_225) (fun _ h9 => h9) rfl d_SW_defect_67 ?_
  refine va_get (D := (dC, dI)) (ci := 1) (v := .int (nI dc)) (C := R_DE) (T := F_DE) (N := 3) hx hb hts in_DE hown hK hP 1 rfl rfl 2 (by decide) (hts _ m_143) (fun _ h9 => h9) rfl d_SW_defect_70 ?_
  refine lv_iload_n hx hb d_SW_defect_73 rfl (lv_at hl 1 rfl) ?_
  refine lv_topr (show _ = nI a1.toNat from z_toN (by omega)) ?_
  refine ix_iast (i := dc) hx hb hK hP hD hS 2 0 rfl rfl (by omega) (by decide) d_SW_defect_74 (fun H locs hP hD hS => ?_)
  have hP : va_P (dC, dI) vwCl [(x0, .inr (6, [.ref k0, .ref v0, .ref a0, .ref j0, .ref q, .ref qa, .int (nI sc)])), (j0, .inr (1, [.ref jf, .ref jt, .int (nI dc)])), (jf, .inl (cI, 10, .inl (aN (up fr dc a1.toNat)))), (jt, .inl (cI, 10, .inl (aN to)))] H := hP
  have hD : va_D A [(x0, .inr (6, [.ref k0, .ref v0, .ref a0, .ref j0, .ref q, .ref qa, .int (nI sc)])), (j0, .inr (1, [.ref jf, .ref jt, .int (nI dc)])), (jf, .inl (cI, 10, .inl (aN (up fr dc a1.toNat)))), (jt, .inl (cI, 10, .inl (aN to)))] := hD
  refine lv_aload_n hx hb d_SW_defect_75 rfl (lv_at hl 0 rfl) ?_
  refine va_get (D := (dC, dI)) (ci := 6) (v := .ref j0) (C := R_SW) (T := F_SW) (N := 7) hx hb hts in_SW hown hK hP 0 rfl rfl 3 (by decide) (hts _ m_225) (fun _ h9 => h9) rfl d_SW_defect_76 ?_
  refine va_get (D := (dC, dI)) (ci := 1) (v := .ref jt) (C := R_DE) (T := F_DE) (N := 3) hx hb hts in_DE hown hK hP 1 rfl rfl 1 (by decide) (hts _ m_140) (fun _ h9 => h9) rfl d_SW_defect_79 ?_
  refine lv_aload_n hx hb d_SW_defect_82 rfl (lv_at hl 0 rfl) ?_
  refine va_get (D := (dC, dI)) (ci := 6) (v := .ref j0) (C := R_SW) (T := F_SW) (N := 7) hx hb hts in_SW hown hK hP 0 rfl rfl 3 (by decide) (hts _ m_225) (fun _ h9 => h9) rfl d_SW_defect_83 ?_
  refine va_get (D := (dC, dI)) (ci := 1) (v := .int (nI dc)) (C := R_DE) (T := F_DE) (N := 3) hx hb hts in_DE hown hK hP 1 rfl rfl 2 (by decide) (hts _ m_143) (fun _ h9 => h9) rfl d_SW_defect_86 ?_
  refine lv_iload_n hx hb d_SW_defect_89 rfl (lv_at hl 2 rfl) ?_
  refine lv_topr (show _ = nI a2.toNat from z_toN (by omega)) ?_
  refine ix_iast (i := dc) hx hb hK hP hD hS 3 0 rfl rfl (by omega) (by decide) d_SW_defect_90 (fun H locs hP hD hS => ?_)
  have hP : va_P (dC, dI) vwCl [(x0, .inr (6, [.ref k0, .ref v0, .ref a0, .ref j0, .ref q, .ref qa, .int (nI sc)])), (j0, .inr (1, [.ref jf, .ref jt, .int (nI dc)])), (jf, .inl (cI, 10, .inl (aN (up fr dc a1.toNat)))), (jt, .inl (cI, 10, .inl (aN (up to dc a2.toNat))))] H := hP
  have hD : va_D A [(x0, .inr (6, [.ref k0, .ref v0, .ref a0, .ref j0, .ref q, .ref qa, .int (nI sc)])), (j0, .inr (1, [.ref jf, .ref jt, .int (nI dc)])), (jf, .inl (cI, 10, .inl (aN (up fr dc a1.toNat)))), (jt, .inl (cI, 10, .inl (aN (up to dc a2.toNat))))] := hD
  refine lv_aload_n hx hb d_SW_defect_91 rfl (lv_at hl 0 rfl) ?_
  refine va_get (D := (dC, dI)) (ci := 6) (v := .ref j0) (C := R_SW) (T := F_SW) (N := 7) hx hb hts in_SW hown hK hP 0 rfl rfl 3 (by decide) (hts _ m_225) (fun _ h9 => h9) rfl d_SW_defect_92 ?_
  refine lv_dup hx hb d_SW_defect_95 rfl ?_
  refine va_get (D := (dC, dI)) (ci := 1) (v := .int (nI dc)) (C := R_DE) (T := F_DE) (N := 3) hx hb hts in_DE hown hK hP 1 rfl rfl 2 (by decide) (hts _ m_143) (fun _ h9 => h9) rfl d_SW_defect_96 ?_
  refine lv_iconst (v := nI 1) hx hb d_SW_defect_99 (by decide +kernel) ?_
  refine lv_iadd hx hb d_SW_defect_100 ?_
  refine lv_topr (show _ = nI (dc + 1) from nn_add _ _) ?_
  refine va_put (D := (dC, dI)) (ci := 1) (v := .int (nI (dc + 1))) (ty := .int) (C := R_DE) (T := F_DE) (N := 3) hx hb hts in_DE t_DE t_DE_ok n_DE hown hK hP hD hS 1 rfl rfl 2 (by decide) (hts _ m_143) (fun _ h9 => h9) rfl (by decide +kernel) rfl rfl (Nat.le_of_ble_eq_true rfl) d_SW_defect_101 (fun H locs hP hD hS => ?_)
  have hP : va_P (dC, dI) vwCl [(x0, .inr (6, [.ref k0, .ref v0, .ref a0, .ref j0, .ref q, .ref qa, .int (nI sc)])), (j0, .inr (1, [.ref jf, .ref jt, .int (nI (dc + 1))])), (jf, .inl (cI, 10, .inl (aN (up fr dc a1.toNat)))), (jt, .inl (cI, 10, .inl (aN (up to dc a2.toNat))))] H := hP
  have hD : va_D A [(x0, .inr (6, [.ref k0, .ref v0, .ref a0, .ref j0, .ref q, .ref qa, .int (nI sc)])), (j0, .inr (1, [.ref jf, .ref jt, .int (nI (dc + 1))])), (jf, .inl (cI, 10, .inl (aN (up fr dc a1.toNat)))), (jt, .inl (cI, 10, .inl (aN (up to dc a2.toNat))))] := hD
  refine lv_aload_n hx hb d_SW_defect_104 rfl (lv_at hl 0 rfl) ?_
  refine va_get (D := (dC, dI)) (ci := 6) (v := .ref j0) (C := R_SW) (T := F_SW) (N := 7) hx hb hts in_SW hown hK hP 0 rfl rfl 3 (by decide) (hts _ m_225) (fun _ h9 => h9) rfl d_SW_defect_105 ?_
  refine va_get (D := (dC, dI)) (ci := 1) (v := .int (nI (dc + 1))) (C := R_DE) (T := F_DE) (N := 3) hx hb hts in_DE hown hK hP 1 rfl rfl 2 (by decide) (hts _ m_143) (fun _ h9 => h9) rfl d_SW_defect_108 ?_
  exact W.iret (v := nI (dc + 1)) hx hb hr (fun t ht hW => ⟨⟨nI (dc + 1), (), rfl, rfl, by rw [ht]; exact hP, va_K.moved hW.alike hK, hD⟩, hS.F ht⟩) hS.2.2 d_SW_defect_111
set_option maxHeartbeats 4000000 in
set_option maxRecDepth 100000 in
/-- defect(..), no more -/
theorem t_SW_defect1 (l : Launch) (hst : l.stackTraces = false) (dC : Nat → ClassId) (dI : Nat → Nat → Nat) (e1 e2 : Nat) (x0 k0 v0 a0 j0 q qa : Nat) (cI : ClassId) (jf jt dc sc : Nat) (a1 : Int) (a2 : Int) (ha1 : -2147483648 ≤ a1 ∧ a1 < 2147483648) (ha2 : -2147483648 ≤ a2 ∧ a2 < 2147483648) (hc : dc = 10) : TMet l y_SW_defect w_SW_defect { frames := 6, cells := 1, slots := 6, locals := 82 } (ey e1 e2 (ro_Pc (dC, dI) vwCl [(cI, .int)] [.ref x0, .int (zI a1), .int (zI a2)] [(x0, .inr (6, [.ref k0, .ref v0, .ref a0, .ref j0, .ref q, .ref qa, .int (nI sc)])), (j0, .inr (1, [.ref jf, .ref jt, .int (nI dc)]))])) "java/lang/IllegalStateException" B0 1 6 ro_no := by
  refine TMet.ofW (cc := b_SW_defect) (maxL := 3) (ret := (some .int)) (by decide) rfl ?_
  intro p e s m args below meth c s₁ B hml hemp hv
  obtain ⟨⟨rfl, hP, hK⟩, hEY⟩ := hv
  have hx := B.exec
  have hb := B.bytes
  have hts := gw_h (atoms_spec (ws := w_SW_defect) B.pre)
  have hown : s.vm.findClass R_SW = some m.cls := findClass_of_methodNamed B.named
  have hlocks := B.notSynchronized
  have hS : va_S ro_no s.heap s.heap [] := va_S.rf
  have hP : va_P (dC, dI) vwCl [(x0, .inr (6, [.ref k0, .ref v0, .ref a0, .ref j0, .ref q, .ref qa, .int (nI sc)])), (j0, .inr (1, [.ref jf, .ref jt, .int (nI dc)]))] s.heap := hP
  have hl := lv_entry ([.ref x0, .int (zI a1), .int (zI a2)]) (n := 3) (Nat.le_of_ble_eq_true rfl)
  rw [lg_entry_eq]
  generalize (lg_sl ([.ref x0, .int (zI a1), .int (zI a2)]) ++ List.replicate (3 - (lg_sl ([.ref x0, .int (zI a1), .int (zI a2)])).length) Slot.unset).toArray = ls at hl ⊢
  have hl : lv_has ls 3 [(0, .ref x0), (1, .int (zI a1)), (2, .int (zI a2))] := hl
  refine lv_aload_n hx hb d_SW_defect_0 rfl (lv_at hl 0 rfl) ?_
  refine va_get (D := (dC, dI)) (ci := 6) (v := .ref j0) (C := R_SW) (T := F_SW) (N := 7) hx hb hts in_SW hown hK hP 0 rfl rfl 3 (by decide) (hts _ m_225) (fun _ h9 => h9) rfl d_SW_defect_1 ?_
  refine va_get (D := (dC, dI)) (ci := 1) (v := .int (nI dc)) (C := R_DE) (T := F_DE) (N := 3) hx hb hts in_DE hown hK hP 1 rfl rfl 2 (by decide) (hts _ m_143) (fun _ h9 => h9) rfl d_SW_defect_4 ?_
  refine lv_bipush (v := nI 10) hx hb d_SW_defect_7 (by decide +kernel) ?_
  refine ix_icmp_lt (tgt := 22) hx hb (nI_tI (n := dc) (by omega)) (nI_tI (n := 10) (by omega)) d_SW_defect_9 (by decide) (fun c_9 => absurd c_9 (by omega)) (fun c_9 => ?_)
  obtain ⟨xq, hZ⟩ := hEY.2.1 (183, "no more defects") (by decide)
  exact th_new (E := "java/lang/IllegalStateException") (own := "SlitWidths") (tx := "no more defects") (xq := xq) (a1 := e1) (a2 := e2) hx hb hst hown hts hEY.1 hZ (hts _ m_399) (hts _ m_400) (hts _ m_13) at_93 (by decide) hS (hl.1.trans hml.symm) hemp hlocks (Nat.le_of_ble_eq_true rfl) (Nat.le_of_ble_eq_true rfl) (Nat.le_of_ble_eq_true rfl) (Nat.le_of_ble_eq_true rfl) d_SW_defect_12 d_SW_defect_15 d_SW_defect_16 d_SW_defect_18 d_SW_defect_21
set_option maxHeartbeats 4000000 in
set_option maxRecDepth 100000 in
/-- defect(..), no such -/
theorem t_SW_defect2 (l : Launch) (hst : l.stackTraces = false) (dC : Nat → ClassId) (dI : Nat → Nat → Nat) (e1 e2 : Nat) (x0 k0 v0 a0 j0 q qa : Nat) (cI : ClassId) (jf jt dc sc : Nat) (a1 : Int) (a2 : Int) (ha1 : -2147483648 ≤ a1 ∧ a1 < 2147483648) (ha2 : -2147483648 ≤ a2 ∧ a2 < 2147483648) (hc : dc < 10) (hG : ¬ ((0 ≤ a1 ∧ a1 ≤ 20000) ∧ (0 ≤ a2 ∧ a2 ≤ 20000) ∧ a1 < a2)) : TMet l y_SW_defect w_SW_defect { frames := 6, cells := 1, slots := 6, locals := 82 } (ey e1 e2 (ro_Pc (dC, dI) vwCl [(cI, .int)] [.ref x0, .int (zI a1), .int (zI a2)] [(x0, .inr (6, [.ref k0, .ref v0, .ref a0, .ref j0, .ref q, .ref qa, .int (nI sc)])), (j0, .inr (1, [.ref jf, .ref jt, .int (nI dc)]))])) "java/lang/IllegalArgumentException" B0 1 6 ro_no := by
  refine TMet.ofW (cc := b_SW_defect) (maxL := 3) (ret := (some .int)) (by decide) rfl ?_
  intro p e s m args below meth c s₁ B hml hemp hv
  obtain ⟨⟨rfl, hP, hK⟩, hEY⟩ := hv
  have hx := B.exec
  have hb := B.bytes
  have hts := gw_h (atoms_spec (ws := w_SW_defect) B.pre)
  have hown : s.vm.findClass R_SW = some m.cls := findClass_of_methodNamed B.named
  have hlocks := B.notSynchronized
  have hS : va_S ro_no s.heap s.heap [] := va_S.rf
  have hP : va_P (dC, dI) vwCl [(x0, .inr (6, [.ref k0, .ref v0, .ref a0, .ref j0, .ref q, .ref qa, .int (nI sc)])), (j0, .inr (1, [.ref jf, .ref jt, .int (nI dc)]))] s.heap := hP
  have hl := lv_entry ([.ref x0, .int (zI a1), .int (zI a2)]) (n := 3) (Nat.le_of_ble_eq_true rfl)
  rw [lg_entry_eq]
  generalize (lg_sl ([.ref x0, .int (zI a1), .int (zI a2)]) ++ List.replicate (3 - (lg_sl ([.ref x0, .int (zI a1), .int (zI a2)])).length) Slot.unset).toArray = ls at hl ⊢
  have hl : lv_has ls 3 [(0, .ref x0), (1, .int (zI a1)), (2, .int (zI a2))] := hl
  refine lv_aload_n hx hb d_SW_defect_0 rfl (lv_at hl 0 rfl) ?_
  refine va_get (D := (dC, dI)) (ci := 6) (v := .ref j0) (C := R_SW) (T := F_SW) (N := 7) hx hb hts in_SW hown hK hP 0 rfl rfl 3 (by decide) (hts _ m_225) (fun _ h9 => h9) rfl d_SW_defect_1 ?_
  refine va_get (D := (dC, dI)) (ci := 1) (v := .int (nI dc)) (C := R_DE) (T := F_DE) (N := 3) hx hb hts in_DE hown hK hP 1 rfl rfl 2 (by decide) (hts _ m_143) (fun _ h9 => h9) rfl d_SW_defect_4 ?_
  refine lv_bipush (v := nI 10) hx hb d_SW_defect_7 (by decide +kernel) ?_
  refine ix_icmp_lt (tgt := 22) hx hb (nI_tI (n := dc) (by omega)) (nI_tI (n := 10) (by omega)) d_SW_defect_9 (by decide) (fun c_9 => ?_) (fun c_9 => absurd c_9 (by omega))
  refine lv_iload_n hx hb d_SW_defect_22 rfl (lv_at hl 1 rfl) ?_
  refine lv_iconst (v := nI 0) hx hb d_SW_defect_23 (by decide +kernel) ?_
  refine lv_sipush (v := nI 20000) hx hb d_SW_defect_24 (by decide +kernel) ?_
  refine lv_arg3 (show _ = zI a1 from rfl) (show _ = zI 0 from zI_n _) (show _ = zI 20000 from zI_n _) ?_
  refine ro_calli (va_runS (As := [.int (zI a1), .int (zI (0 : Int)), .int (zI (20000 : Int))]) (rest := []) ⟨hx, hb, hml, hown, hts⟩ (c_SW_within l dC dI cI a1 (0 : Int) (20000 : Int) ha1 (by omega) (by omega)) (va_cwS 3 hts (gw_S m_318 m_319 m_1 m_320) rfl rfl rfl (by decide +kernel) ⟨Nat.le_of_ble_eq_true rfl, Nat.le_of_ble_eq_true rfl⟩) ⟨ro_blind, fun U hU hW => ⟨rfl, fun k q h => by simp at h, va_K.moved hW.alike hK⟩⟩ rfl rfl hl.1 rfl (lv_room (Nat.le_of_ble_eq_true rfl)) d_SW_defect_27 ⟨Nat.le_of_ble_eq_true rfl, Nat.le_of_ble_eq_true rfl⟩) hS hP (fun r H locs er hP hS => ?_)
  subst er
  have hq27 := @b01_1 ((0 : Int) ≤ a1 ∧ a1 ≤ (20000 : Int)) _
  have hr27 := @b01_le ((0 : Int) ≤ a1 ∧ a1 ≤ (20000 : Int)) _
  refine ix_if_eq (tgt := 49) hx hb (nI_tI (n := b01 ((0 : Int) ≤ a1 ∧ a1 ≤ (20000 : Int))) (by omega)) d_SW_defect_30 (by decide) (fun c_30 => ?_) (fun c_30 => ?_)
  · obtain ⟨xq, hZ⟩ := hEY.2.1 (185, "no such defect") (by decide)
    exact th_new (E := "java/lang/IllegalArgumentException") (own := "SlitWidths") (tx := "no such defect") (xq := xq) (a1 := e1) (a2 := e2) hx hb hst hown hts hEY.1 hZ (hts _ m_322) (hts _ m_323) (hts _ m_12) at_64 (by decide) hS (hl.1.trans hml.symm) hemp hlocks (Nat.le_of_ble_eq_true rfl) (Nat.le_of_ble_eq_true rfl) (Nat.le_of_ble_eq_true rfl) (Nat.le_of_ble_eq_true rfl) d_SW_defect_49 d_SW_defect_52 d_SW_defect_53 d_SW_defect_55 d_SW_defect_58
  refine lv_iload_n hx hb d_SW_defect_33 rfl (lv_at hl 2 rfl) ?_
  refine lv_iconst (v := nI 0) hx hb d_SW_defect_34 (by decide +kernel) ?_
  refine lv_sipush (v := nI 20000) hx hb d_SW_defect_35 (by decide +kernel) ?_
  refine lv_arg3 (show _ = zI a2 from rfl) (show _ = zI 0 from zI_n _) (show _ = zI 20000 from zI_n _) ?_
  refine ro_calli (va_runS (As := [.int (zI a2), .int (zI (0 : Int)), .int (zI (20000 : Int))]) (rest := []) ⟨hx, hb, hml, hown, hts⟩ (c_SW_within l dC dI cI a2 (0 : Int) (20000 : Int) ha2 (by omega) (by omega)) (va_cwS 3 hts (gw_S m_318 m_319 m_1 m_320) rfl rfl rfl (by decide +kernel) ⟨Nat.le_of_ble_eq_true rfl, Nat.le_of_ble_eq_true rfl⟩) ⟨ro_blind, fun U hU hW => ⟨rfl, fun k q h => by simp at h, va_K.moved hW.alike hK⟩⟩ rfl rfl hl.1 rfl (lv_room (Nat.le_of_ble_eq_true rfl)) d_SW_defect_38 ⟨Nat.le_of_ble_eq_true rfl, Nat.le_of_ble_eq_true rfl⟩) hS hP (fun r H locs er hP hS => ?_)
  subst er
  have hq38 := @b01_1 ((0 : Int) ≤ a2 ∧ a2 ≤ (20000 : Int)) _
  have hr38 := @b01_le ((0 : Int) ≤ a2 ∧ a2 ≤ (20000 : Int)) _
  refine ix_if_eq (tgt := 49) hx hb (nI_tI (n := b01 ((0 : Int) ≤ a2 ∧ a2 ≤ (20000 : Int))) (by omega)) d_SW_defect_41 (by decide) (fun c_41 => ?_) (fun c_41 => ?_)
  · obtain ⟨xq, hZ⟩ := hEY.2.1 (185, "no such defect") (by decide)
    exact th_new (E := "java/lang/IllegalArgumentException") (own := "SlitWidths") (tx := "no such defect") (xq := xq) (a1 := e1) (a2 := e2) hx hb hst hown hts hEY.1 hZ (hts _ m_322) (hts _ m_323) (hts _ m_12) at_64 (by decide) hS (hl.1.trans hml.symm) hemp hlocks (Nat.le_of_ble_eq_true rfl) (Nat.le_of_ble_eq_true rfl) (Nat.le_of_ble_eq_true rfl) (Nat.le_of_ble_eq_true rfl) d_SW_defect_49 d_SW_defect_52 d_SW_defect_53 d_SW_defect_55 d_SW_defect_58
  refine lv_iload_n hx hb d_SW_defect_44 rfl (lv_at hl 2 rfl) ?_
  refine lv_iload_n hx hb d_SW_defect_45 rfl (lv_at hl 1 rfl) ?_
  refine ix_icmp_gt (tgt := 59) hx hb (zI_toInt (z := a2) (by omega) (by omega)) (zI_toInt (z := a1) (by omega) (by omega)) d_SW_defect_46 (by decide) (fun c_46 => absurd c_46 (by omega)) (fun c_46 => ?_)
  obtain ⟨xq, hZ⟩ := hEY.2.1 (185, "no such defect") (by decide)
  exact th_new (E := "java/lang/IllegalArgumentException") (own := "SlitWidths") (tx := "no such defect") (xq := xq) (a1 := e1) (a2 := e2) hx hb hst hown hts hEY.1 hZ (hts _ m_322) (hts _ m_323) (hts _ m_12) at_64 (by decide) hS (hl.1.trans hml.symm) hemp hlocks (Nat.le_of_ble_eq_true rfl) (Nat.le_of_ble_eq_true rfl) (Nat.le_of_ble_eq_true rfl) (Nat.le_of_ble_eq_true rfl) d_SW_defect_49 d_SW_defect_52 d_SW_defect_53 d_SW_defect_55 d_SW_defect_58
set_option maxHeartbeats 4000000 in
set_option maxRecDepth 100000 in
/-- sound() -/
theorem c_SW_sound (l : Launch) (dC : Nat → ClassId) (dI : Nat → Nat → Nat) (sz : Nat) (x0 k0 v0 a0 j0 q qa : Nat) (cI : ClassId) (jf jt dc sc : Nat) : Met l y_SW_sound w_SW_sound { frames := 0, cells := 0, slots := 0, locals := 0 } (rw_Pc (dC, dI) vwCl [(cI, .int)] sz [.ref x0] [(x0, .inr (6, [.ref k0, .ref v0, .ref a0, .ref j0, .ref q, .ref qa, .int (nI sc)])), (j0, .inr (1, [.ref jf, .ref jt, .int (nI dc)]))]) (va_Qv (fun (u : Unit) => True) (rw_B (dC, dI) vwCl [(cI, .int)] (va_A [(x0, .inr (6, [.ref k0, .ref v0, .ref a0, .ref j0, .ref q, .ref qa, .int (nI sc)])), (j0, .inr (1, [.ref jf, .ref jt, .int (nI dc)]))] sz) (fun u : Unit => [(x0, .inr (6, [.ref k0, .ref v0, .ref a0, .ref j0, .ref q, .ref qa, .int (nI sc)])), (j0, .inr (1, [.ref jf, .ref jt, .int (nI 0)]))])) (va_A [(x0, .inr (6, [.ref k0, .ref v0, .ref a0, .ref j0, .ref q, .ref qa, .int (nI sc)])), (j0, .inr (1, [.ref jf, .ref jt, .int (nI dc)]))] sz)) 0 0 (va_A [(x0, .inr (6, [.ref k0, .ref v0, .ref a0, .ref j0, .ref q, .ref qa, .int (nI sc)])), (j0, .inr (1, [.ref jf, .ref jt, .int (nI dc)]))] sz) := by
  refine Met.ofW (cc := b_SW_sound) (maxL := 1) (ret := none) (by decide) rfl ?_
  intro p e s m args below meth c s₁ B hml hv
  obtain ⟨rfl, hsz, hP, hK, hD0⟩ := hv
  have hx := B.exec
  have hb := B.bytes
  have hr := B.returns
  have hts := gw_h (atoms_spec (ws := w_SW_sound) B.pre)
  have hown : s.vm.findClass R_SW = some m.cls := findClass_of_methodNamed B.named
  have hlocks := B.notSynchronized
  subst hsz
  have hD := hD0.self (sz := s.heap.size)
  generalize hAe : va_A [(x0, .inr (6, [.ref k0, .ref v0, .ref a0, .ref j0, .ref q, .ref qa, .int (nI sc)])), (j0, .inr (1, [.ref jf, .ref jt, .int (nI dc)]))] s.heap.size = A at hD ⊢
  have hA : ∀ q : Nat, s.heap.size ≤ q → A q := fun q h => by rw [← hAe]; exact Or.inr h
  have hS : va_S A s.heap s.heap [] := va_S.rf
  have hP : va_P (dC, dI) vwCl [(x0, .inr (6, [.ref k0, .ref v0, .ref a0, .ref j0, .ref q, .ref qa, .int (nI sc)])), (j0, .inr (1, [.ref jf, .ref jt, .int (nI dc)]))] s.heap := hP
  have hl := lv_entry ([.ref x0]) (n := 1) (Nat.le_of_ble_eq_true rfl)
  rw [lg_entry_eq]
  generalize (lg_sl ([.ref x0]) ++ List.replicate (1 - (lg_sl ([.ref x0])).length) Slot.unset).toArray = ls at hl ⊢
  have hl : lv_has ls 1 [(0, .ref x0)] := hl
  refine lv_aload_n hx hb d_SW_sound_0 rfl (lv_at hl 0 rfl) ?_
  refine va_get (D := (dC, dI)) (ci := 6) (v := .ref j0) (C := R_SW) (T := F_SW) (N := 7) hx hb hts in_SW hown hK hP 0 rfl rfl 3 (by decide) (hts _ m_225) (fun _ h9 => h9) rfl d_SW_sound_1 ?_
  refine lv_iconst (v := nI 0) hx hb d_SW_sound_4 (by decide +kernel) ?_
  refine va_put (D := (dC, dI)) (ci := 1) (v := .int (nI 0)) (ty := .int) (C := R_DE) (T := F_DE) (N := 3) hx hb hts in_DE t_DE t_DE_ok n_DE hown hK hP hD hS 1 rfl rfl 2 (by decide) (hts _ m_143) (fun _ h9 => h9) rfl (by decide +kernel) rfl rfl (Nat.le_of_ble_eq_true rfl) d_SW_sound_5 (fun H locs hP hD hS => ?_)
  have hP : va_P (dC, dI) vwCl [(x0, .inr (6, [.ref k0, .ref v0, .ref a0, .ref j0, .ref q, .ref qa, .int (nI sc)])), (j0, .inr (1, [.ref jf, .ref jt, .int (nI 0)]))] H := hP
  have hD : va_D A [(x0, .inr (6, [.ref k0, .ref v0, .ref a0, .ref j0, .ref q, .ref qa, .int (nI sc)])), (j0, .inr (1, [.ref jf, .ref jt, .int (nI 0)]))] := hD
  exact W.vret hx hb hr (fun t ht hW => ⟨⟨(), rfl, trivial, by rw [ht]; exact hP, va_K.moved hW.alike hK, hD⟩, hS.F ht⟩) hS.2.2 d_SW_sound_8
set_option maxHeartbeats 4000000 in
set_option maxRecDepth 100000 in
/-- ordered(i), below 0 -/
theorem t_SW_ordered (l : Launch) (hst : l.stackTraces = false) (dC : Nat → ClassId) (dI : Nat → Nat → Nat) (e1 e2 : Nat) (x0 : Nat) (cI : ClassId) (a1 : Int) (ha1 : -2147483648 ≤ a1 ∧ a1 < 2147483648) (hG : a1 < 0) : TMet l y_SW_ordered w_SW_ordered { frames := 6, cells := 1, slots := 6, locals := 82 } (ey e1 e2 (ro_Pc (dC, dI) vwCl [(cI, .int)] [.ref x0, .int (zI a1)] [])) "java/lang/IndexOutOfBoundsException" B0 1 6 ro_no := by
  refine TMet.ofW (cc := b_SW_ordered) (maxL := 2) (ret := (some .int)) (by decide) rfl ?_
  intro p e s m args below meth c s₁ B hml hemp hv
  obtain ⟨⟨rfl, hP, hK⟩, hEY⟩ := hv
  have hx := B.exec
  have hb := B.bytes
  have hts := gw_h (atoms_spec (ws := w_SW_ordered) B.pre)
  have hown : s.vm.findClass R_SW = some m.cls := findClass_of_methodNamed B.named
  have hlocks := B.notSynchronized
  have hS : va_S ro_no s.heap s.heap [] := va_S.rf
  have hP : va_P (dC, dI) vwCl [] s.heap := hP
  have hl := lv_entry ([.ref x0, .int (zI a1)]) (n := 2) (Nat.le_of_ble_eq_true rfl)
  rw [lg_entry_eq]
  generalize (lg_sl ([.ref x0, .int (zI a1)]) ++ List.replicate (2 - (lg_sl ([.ref x0, .int (zI a1)])).length) Slot.unset).toArray = ls at hl ⊢
  have hl : lv_has ls 2 [(0, .ref x0), (1, .int (zI a1))] := hl
  refine lv_iload_n hx hb d_SW_ordered_0 rfl (lv_at hl 1 rfl) ?_
  refine ix_if_ge (tgt := 14) hx hb (zI_toInt (z := a1) (by omega) (by omega)) d_SW_ordered_1 (by decide) (fun c_1 => absurd c_1 (by omega)) (fun c_1 => ?_)
  obtain ⟨xq, hZ⟩ := hEY.2.1 (179, "below 0") (by decide)
  exact th_new (E := "java/lang/IndexOutOfBoundsException") (own := "SlitWidths") (tx := "below 0") (xq := xq) (a1 := e1) (a2 := e2) hx hb hst hown hts hEY.1 hZ (hts _ m_428) (hts _ m_429) (hts _ m_14) at_145 (by decide) hS (hl.1.trans hml.symm) hemp hlocks (Nat.le_of_ble_eq_true rfl) (Nat.le_of_ble_eq_true rfl) (Nat.le_of_ble_eq_true rfl) (Nat.le_of_ble_eq_true rfl) d_SW_ordered_4 d_SW_ordered_7 d_SW_ordered_8 d_SW_ordered_10 d_SW_ordered_13
set_option maxHeartbeats 4000000 in
set_option maxRecDepth 100000 in
/-- cut(), no more -/
theorem t_SW_cut1 (l : Launch) (hst : l.stackTraces = false) (dC : Nat → ClassId) (dI : Nat → Nat → Nat) (e1 e2 : Nat) (x0 k0 v0 a0 j0 q qa : Nat) (cI : ClassId) (sc : Nat) (hc : sc = 9) : TMet l y_SW_cut w_SW_cut { frames := 6, cells := 1, slots := 6, locals := 82 } (ey e1 e2 (ro_Pc (dC, dI) vwCl [(cI, .int)] [.ref x0] [(x0, .inr (6, [.ref k0, .ref v0, .ref a0, .ref j0, .ref q, .ref qa, .int (nI sc)]))])) "java/lang/IllegalStateException" B0 1 6 ro_no := by
  refine TMet.ofW (cc := b_SW_cut) (maxL := 2) (ret := (some .int)) (by decide) rfl ?_
  intro p e s m args below meth c s₁ B hml hemp hv
  obtain ⟨⟨rfl, hP, hK⟩, hEY⟩ := hv
  have hx := B.exec
  have hb := B.bytes
  have hts := gw_h (atoms_spec (ws := w_SW_cut) B.pre)
  have hown : s.vm.findClass R_SW = some m.cls := findClass_of_methodNamed B.named
  have hlocks := B.notSynchronized
  have hS : va_S ro_no s.heap s.heap [] := va_S.rf
  have hP : va_P (dC, dI) vwCl [(x0, .inr (6, [.ref k0, .ref v0, .ref a0, .ref j0, .ref q, .ref qa, .int (nI sc)]))] s.heap := hP
  have hl := lv_entry ([.ref x0]) (n := 2) (Nat.le_of_ble_eq_true rfl)
  rw [lg_entry_eq]
  generalize (lg_sl ([.ref x0]) ++ List.replicate (2 - (lg_sl ([.ref x0])).length) Slot.unset).toArray = ls at hl ⊢
  have hl : lv_has ls 2 [(0, .ref x0)] := hl
  refine lv_aload_n hx hb d_SW_cut_0 rfl (lv_at hl 0 rfl) ?_
  refine va_get (D := (dC, dI)) (ci := 6) (v := .int (nI sc)) (C := R_SW) (T := F_SW) (N := 7) hx hb hts in_SW hown hK hP 0 rfl rfl 6 (by decide) (hts _ m_228) (fun _ h9 => h9) rfl d_SW_cut_1 ?_
  refine lv_bipush (v := nI 9) hx hb d_SW_cut_4 (by decide +kernel) ?_
  refine ix_icmp_lt (tgt := 19) hx hb (nI_tI (n := sc) (by omega)) (nI_tI (n := 9) (by omega)) d_SW_cut_6 (by decide) (fun c_6 => absurd c_6 (by omega)) (fun c_6 => ?_)
  obtain ⟨xq, hZ⟩ := hEY.2.1 (119, "no more set-ups") (by decide)
  exact th_new (E := "java/lang/IllegalStateException") (own := "SlitWidths") (tx := "no more set-ups") (xq := xq) (a1 := e1) (a2 := e2) hx hb hst hown hts hEY.1 hZ (hts _ m_399) (hts _ m_400) (hts _ m_13) at_93 (by decide) hS (hl.1.trans hml.symm) hemp hlocks (Nat.le_of_ble_eq_true rfl) (Nat.le_of_ble_eq_true rfl) (Nat.le_of_ble_eq_true rfl) (Nat.le_of_ble_eq_true rfl) d_SW_cut_9 d_SW_cut_12 d_SW_cut_13 d_SW_cut_15 d_SW_cut_18
