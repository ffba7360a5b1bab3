set_option maxHeartbeats 4000000 in
set_option maxRecDepth 100000 in
/-- strip(..), a good one -/
theorem c_SW_strip (l : Launch) (dC : Nat → ClassId) (dI : Nat → Nat → Nat) (x0 k0 v0 a0 j0 q qa : Nat) (cI : ClassId) (cS : ClassId) (su : Nat → Option Nat) (ad : Nat → Nat → Nat) (sa : Nat → Nat → Nat → Nat) (sv : Nat → Nat → Nat) (sc : Nat) (hsc : sc ≤ 9) (hsu : ∀ i, i < 9 → su i = some (ad i 0)) (hso : ∀ i, i < sc → SOK sa sv i) (a1 : Int) (a2 : Int) (a3 : Int) (ha1 : -2147483648 ≤ a1 ∧ a1 < 2147483648) (ha2 : -2147483648 ≤ a2 ∧ a2 < 2147483648) (ha3 : -2147483648 ≤ a3 ∧ a3 < 2147483648) (hG : (0 ≤ a1 ∧ a1 < sc) ∧ 0 ≤ a2 ∧ (0 ≤ a3 ∧ a3 ≤ 3)) : Met l y_SW_strip w_SW_strip { frames := 3, cells := 0, slots := 0, locals := 82 } (ro_Pc (dC, dI) vwCl [(cI, .int), (cS, .object "SlitWidths$SetUp")] [.ref x0, .int (zI a1), .int (zI a2), .int (zI a3)] ([(x0, .inr (6, [.ref k0, .ref v0, .ref a0, .ref j0, .ref q, .ref qa, .int (nI sc)])), (qa, .inl (cS, 9, .inr (.inr (.inr (.inr su)))))] ++ suT cI ad sa sv 9)) (ro_Qi (fun r => (sv a1.toNat 0 ≤ a2 → r = zI (-1)) ∧ (a2 < sv a1.toNat 0 → (a3 = 0 → r = nI (sa a1.toNat 0 a2.toNat)) ∧ (a3 = 1 → r = nI (sv a1.toNat 1 + sa a1.toNat 1 a2.toNat)) ∧ (a3 = 2 → r = nI (sv a1.toNat 1 + sa a1.toNat 2 a2.toNat)) ∧ (a3 = 3 → r = nI (wt (sv a1.toNat 4) (sv a1.toNat 3) (sv a1.toNat 1) (sa a1.toNat 1) (sa a1.toNat 2) a2.toNat))))) 0 0 ro_no := by
  refine Met.ofW (cc := b_SW_strip) (maxL := 5) (ret := (some .int)) (by decide) rfl ?_
  intro p e s m args below meth c s₁ B hml hv
  obtain ⟨rfl, hP, hK⟩ := hv
  have hx := B.exec
  have hb := B.bytes
  have hr := B.returns
  have hts := gw_h (atoms_spec (ws := w_SW_strip) B.pre)
  have hown : s.vm.findClass R_SW = some m.cls := findClass_of_methodNamed B.named
  have hlocks := B.notSynchronized
  have hS : va_S ro_no s.heap s.heap [] := va_S.rf
  have hP : va_P (dC, dI) vwCl ([(x0, .inr (6, [.ref k0, .ref v0, .ref a0, .ref j0, .ref q, .ref qa, .int (nI sc)])), (qa, .inl (cS, 9, .inr (.inr (.inr (.inr su)))))] ++ suT cI ad sa sv 9) s.heap := hP
  have hl := lv_entry ([.ref x0, .int (zI a1), .int (zI a2), .int (zI a3)]) (n := 5) (Nat.le_of_ble_eq_true rfl)
  rw [lg_entry_eq]
  generalize (lg_sl ([.ref x0, .int (zI a1), .int (zI a2), .int (zI a3)]) ++ List.replicate (5 - (lg_sl ([.ref x0, .int (zI a1), .int (zI a2), .int (zI a3)])).length) Slot.unset).toArray = ls at hl ⊢
  have hl : lv_has ls 5 [(0, .ref x0), (1, .int (zI a1)), (2, .int (zI a2)), (3, .int (zI a3))] := hl
  have hs1 := hso a1.toNat (by omega)
  have hs10 := hs1.1
  have hs13 := hs1.2.2.1
  refine lv_aload_n hx hb d_SW_strip_0 rfl (lv_at hl 0 rfl) ?_
  refine lv_iload_n hx hb d_SW_strip_1 rfl (lv_at hl 1 rfl) ?_
  have hPc := hP.sub (ws' := [(x0, .inr (6, [.ref k0, .ref v0, .ref a0, .ref j0, .ref q, .ref qa, .int (nI sc)]))]) [0] rfl
  refine ro_callv (va_runV (As := [.int (zI a1)]) (rest := []) ⟨hx, hb, hml, hown, hts⟩ (c_SW_checkSetUp l dC dI x0 k0 v0 a0 j0 q qa cI sc a1 ha1 (by omega) (by omega)) (cwV 1 hts (gw_V m_499 m_501 s_13 m_1 m_502) rfl rfl rfl (by decide +kernel) ⟨Nat.le_of_ble_eq_true rfl, Nat.le_of_ble_eq_true rfl⟩) ⟨ro_blind, va_recv hK hPc (ci := 6) (q0 := 0) rfl rfl, fun U hU hW => ⟨rfl, by rw [hU]; exact hPc, va_K.moved hW.alike (hK.sub (tys' := [(cI, .int)]) [0] rfl)⟩⟩ rfl rfl hl.1 rfl (lv_room (Nat.le_of_ble_eq_true rfl)) d_SW_strip_2 ⟨Nat.le_of_ble_eq_true rfl, Nat.le_of_ble_eq_true rfl⟩) hS hP (fun H locs hP hS => ?_)
  refine lv_iload_n hx hb d_SW_strip_5 rfl (lv_at hl 2 rfl) ?_
  refine ix_if_lt (tgt := 18) hx hb (zI_toInt (z := a2) (by omega) (by omega)) d_SW_strip_6 (by decide) (fun c_6 => absurd c_6 (by omega)) (fun c_6 => ?_)
  refine lv_iload_n hx hb d_SW_strip_9 rfl (lv_at hl 3 rfl) ?_
  refine lv_iconst (v := nI 0) hx hb d_SW_strip_10 (by decide +kernel) ?_
  refine lv_iconst (v := nI 3) hx hb d_SW_strip_11 (by decide +kernel) ?_
  refine lv_arg3 (show _ = zI a3 from rfl) (show _ = zI 0 from zI_n _) (show _ = zI 3 from zI_n _) ?_
  refine ro_calli (va_runS (As := [.int (zI a3), .int (zI (0 : Int)), .int (zI (3 : Int))]) (rest := []) ⟨hx, hb, hml, hown, hts⟩ (c_SW_within l dC dI cI a3 (0 : Int) (3 : Int) ha3 (by omega) (by omega)) (va_cwS 3 hts (gw_S m_318 m_319 m_1 m_320) rfl rfl rfl (by decide +kernel) ⟨Nat.le_of_ble_eq_true rfl, Nat.le_of_ble_eq_true rfl⟩) ⟨ro_blind, fun U hU hW => ⟨rfl, fun k q h => by simp at h, va_K.moved hW.alike (hK.sub (tys' := [(cI, .int)]) [0] rfl)⟩⟩ rfl rfl hl.1 rfl (lv_room (Nat.le_of_ble_eq_true rfl)) d_SW_strip_12 ⟨Nat.le_of_ble_eq_true rfl, Nat.le_of_ble_eq_true rfl⟩) hS hP (fun r H locs er hP hS => ?_)
  subst er
  have hq12 := @b01_1 ((0 : Int) ≤ a3 ∧ a3 ≤ (3 : Int)) _
  have hr12 := @b01_le ((0 : Int) ≤ a3 ∧ a3 ≤ (3 : Int)) _
  refine ix_if_ne (tgt := 28) hx hb (nI_tI (n := b01 ((0 : Int) ≤ a3 ∧ a3 ≤ (3 : Int))) (by omega)) d_SW_strip_15 (by decide) (fun c_15 => ?_) (fun c_15 => absurd c_15 (by omega))
  refine lv_aload_n hx hb d_SW_strip_28 rfl (lv_at hl 0 rfl) ?_
  refine va_get (D := (dC, dI)) (ci := 6) (v := .ref qa) (C := R_SW) (T := F_SW) (N := 7) hx hb hts in_SW hown hK hP 0 rfl rfl 5 (by decide) (hts _ m_227) (fun _ h9 => h9) rfl d_SW_strip_29 ?_
  refine lv_iload_n hx hb d_SW_strip_32 rfl (lv_at hl 1 rfl) ?_
  refine lv_topr (show _ = nI a1.toNat from z_toN (by omega)) ?_
  refine ix_aldq (i := a1.toNat) (v := ad a1.toNat 0) hx hb hK hP 1 1 rfl rfl (by omega) (by decide) (hsu _ (by omega)) d_SW_strip_33 ?_
  refine lv_astore (lv' := [(4, .ref (ad a1.toNat 0)), (0, .ref x0), (1, .int (zI a1)), (2, .int (zI a2)), (3, .int (zI a3))]) hx hb d_SW_strip_34 hl (by decide) rfl (fun ls hl => ?_)
  refine lv_iload_n hx hb d_SW_strip_36 rfl (lv_at hl 3 rfl) ?_
  refine lv_aload hx hb d_SW_strip_37 (lv_at hl 0 rfl) ?_
  refine va_get (D := (dC, dI)) (ci := 4) (v := .int (nI (sv a1.toNat 0))) (C := R_SU) (T := F_SU) (N := 11) hx hb hts in_SU hown hK (su_at hP (i := a1.toNat) (by omega)) 0 rfl rfl 3 (by decide) (hts _ m_190) (fun _ h9 => h9) rfl d_SW_strip_39 ?_
  refine ix_icmp_lt (tgt := 47) hx hb (zI_toInt (z := a2) (by omega) (by omega)) (nI_tI (n := sv a1.toNat 0) (by omega)) d_SW_strip_42 (by decide) (fun c_42 => ?_) (fun c_42 => ?_)
  · refine lv_iload_n hx hb d_SW_strip_47 rfl (lv_at hl 4 rfl) ?_
    rcases (show a3 = 0 ∨ a3 = 1 ∨ a3 = 2 ∨ a3 = 3 by omega) with h9 | h9 | h9 | h9
    · refine lv_topr (show zI a3 = zI 0 by rw [h9]) ?_
      refine lv_tableIn (tgt := 76) (off := 28) hx hb d_SW_strip_48 (by decide +kernel) (by decide +kernel) (by decide +kernel) (by decide) ?_
      refine lv_aload hx hb d_SW_strip_76 (lv_at hl 0 rfl) ?_
      refine va_get (D := (dC, dI)) (ci := 4) (v := .ref (ad a1.toNat 1)) (C := R_SU) (T := F_SU) (N := 11) hx hb hts in_SU hown hK (su_at hP (i := a1.toNat) (by omega)) 0 rfl rfl 0 (by decide) (hts _ m_184) (fun _ h9 => h9) rfl d_SW_strip_78 ?_
      refine lv_iload_n hx hb d_SW_strip_81 rfl (lv_at hl 3 rfl) ?_
      refine lv_topr (show _ = nI a2.toNat from z_toN (by omega)) ?_
      refine ix_ialdN (i := a2.toNat) hx hb hK (su_at hP (i := a1.toNat) (by omega)) 1 0 rfl rfl (by omega) (by decide) d_SW_strip_82 ?_
      exact W.iret (v := nI ((sa a1.toNat 0) a2.toNat)) hx hb hr (fun t ht hW => ⟨⟨nI ((sa a1.toNat 0) a2.toNat), (), rfl, ⟨fun q => absurd q (by omega), fun _ => ⟨fun _ => rfl, fun q => absurd q (by omega), fun q => absurd q (by omega), fun q => absurd q (by omega)⟩⟩, trivial⟩, hS.F ht⟩) hS.2.2 d_SW_strip_83
    · refine lv_topr (show zI a3 = zI 1 by rw [h9]) ?_
      refine lv_tableIn (tgt := 84) (off := 36) hx hb d_SW_strip_48 (by decide +kernel) (by decide +kernel) (by decide +kernel) (by decide) ?_
      refine lv_aload hx hb d_SW_strip_84 (lv_at hl 0 rfl) ?_
      refine va_get (D := (dC, dI)) (ci := 4) (v := .int (nI (sv a1.toNat 1))) (C := R_SU) (T := F_SU) (N := 11) hx hb hts in_SU hown hK (su_at hP (i := a1.toNat) (by omega)) 0 rfl rfl 4 (by decide) (hts _ m_192) (fun _ h9 => h9) rfl d_SW_strip_86 ?_
      refine lv_aload hx hb d_SW_strip_89 (lv_at hl 0 rfl) ?_
      refine va_get (D := (dC, dI)) (ci := 4) (v := .ref (ad a1.toNat 2)) (C := R_SU) (T := F_SU) (N := 11) hx hb hts in_SU hown hK (su_at hP (i := a1.toNat) (by omega)) 0 rfl rfl 1 (by decide) (hts _ m_186) (fun _ h9 => h9) rfl d_SW_strip_91 ?_
      refine lv_iload_n hx hb d_SW_strip_94 rfl (lv_at hl 3 rfl) ?_
      refine lv_topr (show _ = nI a2.toNat from z_toN (by omega)) ?_
      refine ix_ialdN (i := a2.toNat) hx hb hK (su_at hP (i := a1.toNat) (by omega)) 2 0 rfl rfl (by omega) (by decide) d_SW_strip_95 ?_
      refine lv_iadd hx hb d_SW_strip_96 ?_
      refine lv_topr (show _ = nI ((sv a1.toNat 1) + ((sa a1.toNat 1) a2.toNat)) from nn_add _ _) ?_
      exact W.iret (v := nI ((sv a1.toNat 1) + ((sa a1.toNat 1) a2.toNat))) hx hb hr (fun t ht hW => ⟨⟨nI ((sv a1.toNat 1) + ((sa a1.toNat 1) a2.toNat)), (), rfl, ⟨fun q => absurd q (by omega), fun _ => ⟨fun q => absurd q (by omega), fun _ => rfl, fun q => absurd q (by omega), fun q => absurd q (by omega)⟩⟩, trivial⟩, hS.F ht⟩) hS.2.2 d_SW_strip_97
    · refine lv_topr (show zI a3 = zI 2 by rw [h9]) ?_
      refine lv_tableIn (tgt := 98) (off := 50) hx hb d_SW_strip_48 (by decide +kernel) (by decide +kernel) (by decide +kernel) (by decide) ?_
      refine lv_aload hx hb d_SW_strip_98 (lv_at hl 0 rfl) ?_
      refine va_get (D := (dC, dI)) (ci := 4) (v := .int (nI (sv a1.toNat 1))) (C := R_SU) (T := F_SU) (N := 11) hx hb hts in_SU hown hK (su_at hP (i := a1.toNat) (by omega)) 0 rfl rfl 4 (by decide) (hts _ m_192) (fun _ h9 => h9) rfl d_SW_strip_100 ?_
      refine lv_aload hx hb d_SW_strip_103 (lv_at hl 0 rfl) ?_
      refine va_get (D := (dC, dI)) (ci := 4) (v := .ref (ad a1.toNat 3)) (C := R_SU) (T := F_SU) (N := 11) hx hb hts in_SU hown hK (su_at hP (i := a1.toNat) (by omega)) 0 rfl rfl 2 (by decide) (hts _ m_188) (fun _ h9 => h9) rfl d_SW_strip_105 ?_
      refine lv_iload_n hx hb d_SW_strip_108 rfl (lv_at hl 3 rfl) ?_
      refine lv_topr (show _ = nI a2.toNat from z_toN (by omega)) ?_
      refine ix_ialdN (i := a2.toNat) hx hb hK (su_at hP (i := a1.toNat) (by omega)) 3 0 rfl rfl (by omega) (by decide) d_SW_strip_109 ?_
      refine lv_iadd hx hb d_SW_strip_110 ?_
      refine lv_topr (show _ = nI ((sv a1.toNat 1) + ((sa a1.toNat 2) a2.toNat)) from nn_add _ _) ?_
      exact W.iret (v := nI ((sv a1.toNat 1) + ((sa a1.toNat 2) a2.toNat))) hx hb hr (fun t ht hW => ⟨⟨nI ((sv a1.toNat 1) + ((sa a1.toNat 2) a2.toNat)), (), rfl, ⟨fun q => absurd q (by omega), fun _ => ⟨fun q => absurd q (by omega), fun q => absurd q (by omega), fun _ => rfl, fun q => absurd q (by omega)⟩⟩, trivial⟩, hS.F ht⟩) hS.2.2 d_SW_strip_111
    · refine lv_topr (show zI a3 = zI 3 by rw [h9]) ?_
      refine lv_tableOut (tgt := 112) hx hb d_SW_strip_48 (by decide +kernel) (by decide) ?_
      refine lv_aload hx hb d_SW_strip_112 (lv_at hl 0 rfl) ?_
      refine lv_iload_n hx hb d_SW_strip_114 rfl (lv_at hl 3 rfl) ?_
      refine lv_topr (show _ = nI a2.toNat from z_toN (by omega)) ?_
      have hPc : va_P (dC, dI) vwCl _ H := ((su_at hP (i := a1.toNat) (by omega)).sub [0, 2, 3] rfl)
      refine ro_calli (va_runV (As := [.int (nI a2.toNat)]) (rest := []) ⟨hx, hb, hml, hown, hts⟩ (c_SU_stripWeight l dC dI (ad a1.toNat 0) (ad a1.toNat 1) (ad a1.toNat 2) (ad a1.toNat 3) (ad a1.toNat 4) cI (sa a1.toNat 1) (sa a1.toNat 2) (sv a1.toNat 0) (sv a1.toNat 1) (sv a1.toNat 2) (sv a1.toNat 3) (sv a1.toNat 4) (sv a1.toNat 5) (sv a1.toNat 6) a2.toNat (by omega) hs1.2.1 (by omega) (hs1.kg (by omega)) (hs1.2.2.2.2.2 _ (by omega)).1) (cwV 1 hts (gw_V m_505 m_506 m_507 m_7 m_508) rfl rfl rfl (by decide +kernel) ⟨Nat.le_of_ble_eq_true rfl, Nat.le_of_ble_eq_true rfl⟩) ⟨ro_blind, va_recv hK hPc (ci := 4) (q0 := 0) rfl rfl, fun U hU hW => ⟨rfl, by rw [hU]; exact hPc, va_K.moved hW.alike (hK.sub (tys' := [(cI, .int)]) [0] rfl)⟩⟩ rfl rfl hl.1 rfl (lv_room (Nat.le_of_ble_eq_true rfl)) d_SW_strip_115 ⟨Nat.le_of_ble_eq_true rfl, Nat.le_of_ble_eq_true rfl⟩) hS hP (fun r H locs er hP hS => ?_)
      subst er
      exact W.iret (v := nI (wt (sv a1.toNat 4) (sv a1.toNat 3) (sv a1.toNat 1) (sa a1.toNat 1) (sa a1.toNat 2) a2.toNat)) hx hb hr (fun t ht hW => ⟨⟨nI (wt (sv a1.toNat 4) (sv a1.toNat 3) (sv a1.toNat 1) (sa a1.toNat 1) (sa a1.toNat 2) a2.toNat), (), rfl, ⟨fun q => absurd q (by omega), fun _ => ⟨fun q => absurd q (by omega), fun q => absurd q (by omega), fun q => absurd q (by omega), fun _ => rfl⟩⟩, trivial⟩, hS.F ht⟩) hS.2.2 d_SW_strip_118
  refine lv_iconst (v := zI (-1)) hx hb d_SW_strip_45 (by decide +kernel) ?_
  exact W.iret (v := zI (-1)) hx hb hr (fun t ht hW => ⟨⟨zI (-1), (), rfl, ⟨fun _ => rfl, fun q => absurd q (by omega)⟩, trivial⟩, hS.F ht⟩) hS.2.2 d_SW_strip_46
set_option maxHeartbeats 4000000 in
set_option maxRecDepth 100000 in
/-- strip(..), no such set-up -/
theorem t_SW_strip1 (l : Launch) (hst : l.stackTraces = false) (dC : Nat → ClassId) (dI : Nat → Nat → Nat) (e1 e2 : Nat) (x0 k0 v0 a0 j0 q qa : Nat) (cI : ClassId) (sc : Nat) (hsc : sc ≤ 9) (a1 : Int) (a2 : Int) (a3 : Int) (ha1 : -2147483648 ≤ a1 ∧ a1 < 2147483648) (ha2 : -2147483648 ≤ a2 ∧ a2 < 2147483648) (ha3 : -2147483648 ≤ a3 ∧ a3 < 2147483648) (hG : ¬ (0 ≤ a1 ∧ a1 < sc)) : TMet l y_SW_strip w_SW_strip { frames := 7, cells := 1, slots := 6, locals := 103 } (ey e1 e2 (ro_Pc (dC, dI) vwCl [(cI, .int)] [.ref x0, .int (zI a1), .int (zI a2), .int (zI a3)] [(x0, .inr (6, [.ref k0, .ref v0, .ref a0, .ref j0, .ref q, .ref qa, .int (nI sc)]))])) "java/lang/IndexOutOfBoundsException" B0 1 6 ro_no := by
  refine TMet.ofW (cc := b_SW_strip) (maxL := 5) (ret := (some .int)) (by decide) rfl ?_
  intro p e s m args below meth c s₁ B hml hemp hv
  obtain ⟨⟨rfl, hP, hK⟩, hEY⟩ := hv
  have hx := B.exec
  have hb := B.bytes
  have hts := gw_h (atoms_spec (ws := w_SW_strip) B.pre)
  have hown : s.vm.findClass R_SW = some m.cls := findClass_of_methodNamed B.named
  have hlocks := B.notSynchronized
  have hS : va_S ro_no s.heap s.heap [] := va_S.rf
  have hP : va_P (dC, dI) vwCl [(x0, .inr (6, [.ref k0, .ref v0, .ref a0, .ref j0, .ref q, .ref qa, .int (nI sc)]))] s.heap := hP
  have hl := lv_entry ([.ref x0, .int (zI a1), .int (zI a2), .int (zI a3)]) (n := 5) (Nat.le_of_ble_eq_true rfl)
  rw [lg_entry_eq]
  generalize (lg_sl ([.ref x0, .int (zI a1), .int (zI a2), .int (zI a3)]) ++ List.replicate (5 - (lg_sl ([.ref x0, .int (zI a1), .int (zI a2), .int (zI a3)])).length) Slot.unset).toArray = ls at hl ⊢
  have hl : lv_has ls 5 [(0, .ref x0), (1, .int (zI a1)), (2, .int (zI a2)), (3, .int (zI a3))] := hl
  refine lv_aload_n hx hb d_SW_strip_0 rfl (lv_at hl 0 rfl) ?_
  refine lv_iload_n hx hb d_SW_strip_1 rfl (lv_at hl 1 rfl) ?_
  have hPc := hP.sub (ws' := [(x0, .inr (6, [.ref k0, .ref v0, .ref a0, .ref j0, .ref q, .ref qa, .int (nI sc)]))]) [0] rfl
  have hEH := hEY.ro hS
  refine th_runV (As := [.int (zI a1)]) (rest := []) ⟨hx, hb, hml, hown, hts⟩ (t_SW_checkSetUp l hst dC dI e1 e2 x0 k0 v0 a0 j0 q qa cI sc a1 ha1 (by omega) (by omega)) (cwV 1 hts (gw_V m_499 m_501 s_13 m_1 m_502) rfl rfl rfl (by decide +kernel) ⟨Nat.le_of_ble_eq_true rfl, Nat.le_of_ble_eq_true rfl⟩) ⟨ey_blind ro_blind, va_recv hK hPc (ci := 6) (q0 := 0) rfl rfl, fun U hU hW => ⟨⟨rfl, by rw [hU]; exact hPc, va_K.moved hW.alike hK⟩, by rw [hU]; exact EY.warm hW hEH⟩⟩ rfl hl.1 rfl (Nat.le_of_ble_eq_true rfl) d_SW_strip_2 ⟨Nat.le_of_ble_eq_true rfl, Nat.le_of_ble_eq_true rfl⟩ (fun q9 ce st9 t9 H1 L9 h09 h19 hW9 hB9 hce hcv hcl hL9 => ?_)
  exact TW.out hemp hlocks hce hcv hcl (fun t2 ht2 _ => B0.ro hS h09 h19 hB9 ht2) (fun z hz => (List.mem_append.mp hz).elim (hS.2.2 z) (hL9 z))
set_option maxHeartbeats 4000000 in
set_option maxRecDepth 100000 in
/-- strip(..), no such strip or what -/
theorem t_SW_strip2 (l : Launch) (hst : l.stackTraces = false) (dC : Nat → ClassId) (dI : Nat → Nat → Nat) (e1 e2 : Nat) (x0 k0 v0 a0 j0 q qa : Nat) (cI : ClassId) (sc : Nat) (hsc : sc ≤ 9) (a1 : Int) (a2 : Int) (a3 : Int) (ha1 : -2147483648 ≤ a1 ∧ a1 < 2147483648) (ha2 : -2147483648 ≤ a2 ∧ a2 < 2147483648) (ha3 : -2147483648 ≤ a3 ∧ a3 < 2147483648) (hG : (0 ≤ a1 ∧ a1 < sc) ∧ ¬ (0 ≤ a2 ∧ (0 ≤ a3 ∧ a3 ≤ 3))) : TMet l y_SW_strip w_SW_strip { frames := 7, cells := 1, slots := 6, locals := 103 } (ey e1 e2 (ro_Pc (dC, dI) vwCl [(cI, .int)] [.ref x0, .int (zI a1), .int (zI a2), .int (zI a3)] [(x0, .inr (6, [.ref k0, .ref v0, .ref a0, .ref j0, .ref q, .ref qa, .int (nI sc)]))])) "java/lang/IndexOutOfBoundsException" B0 1 6 ro_no := by
  refine TMet.ofW (cc := b_SW_strip) (maxL := 5) (ret := (some .int)) (by decide) rfl ?_
  intro p e s m args below meth c s₁ B hml hemp hv
  obtain ⟨⟨rfl, hP, hK⟩, hEY⟩ := hv
  have hx := B.exec
  have hb := B.bytes
  have hts := gw_h (atoms_spec (ws := w_SW_strip) B.pre)
  have hown : s.vm.findClass R_SW = some m.cls := findClass_of_methodNamed B.named
  have hlocks := B.notSynchronized
  have hS : va_S ro_no s.heap s.heap [] := va_S.rf
  have hP : va_P (dC, dI) vwCl [(x0, .inr (6, [.ref k0, .ref v0, .ref a0, .ref j0, .ref q, .ref qa, .int (nI sc)]))] s.heap := hP
  have hl := lv_entry ([.ref x0, .int (zI a1), .int (zI a2), .int (zI a3)]) (n := 5) (Nat.le_of_ble_eq_true rfl)
  rw [lg_entry_eq]
  generalize (lg_sl ([.ref x0, .int (zI a1), .int (zI a2), .int (zI a3)]) ++ List.replicate (5 - (lg_sl ([.ref x0, .int (zI a1), .int (zI a2), .int (zI a3)])).length) Slot.unset).toArray = ls at hl ⊢
  have hl : lv_has ls 5 [(0, .ref x0), (1, .int (zI a1)), (2, .int (zI a2)), (3, .int (zI a3))] := hl
  refine lv_aload_n hx hb d_SW_strip_0 rfl (lv_at hl 0 rfl) ?_
  refine lv_iload_n hx hb d_SW_strip_1 rfl (lv_at hl 1 rfl) ?_
  have hPc := hP.sub (ws' := [(x0, .inr (6, [.ref k0, .ref v0, .ref a0, .ref j0, .ref q, .ref qa, .int (nI sc)]))]) [0] rfl
  refine ro_callv (va_runV (As := [.int (zI a1)]) (rest := []) ⟨hx, hb, hml, hown, hts⟩ (c_SW_checkSetUp l dC dI x0 k0 v0 a0 j0 q qa cI sc a1 ha1 (by omega) (by omega)) (cwV 1 hts (gw_V m_499 m_501 s_13 m_1 m_502) rfl rfl rfl (by decide +kernel) ⟨Nat.le_of_ble_eq_true rfl, Nat.le_of_ble_eq_true rfl⟩) ⟨ro_blind, va_recv hK hPc (ci := 6) (q0 := 0) rfl rfl, fun U hU hW => ⟨rfl, by rw [hU]; exact hPc, va_K.moved hW.alike hK⟩⟩ rfl rfl hl.1 rfl (lv_room (Nat.le_of_ble_eq_true rfl)) d_SW_strip_2 ⟨Nat.le_of_ble_eq_true rfl, Nat.le_of_ble_eq_true rfl⟩) hS hP (fun H locs hP hS => ?_)
  refine lv_iload_n hx hb d_SW_strip_5 rfl (lv_at hl 2 rfl) ?_
  refine ix_if_lt (tgt := 18) hx hb (zI_toInt (z := a2) (by omega) (by omega)) d_SW_strip_6 (by decide) (fun c_6 => ?_) (fun c_6 => ?_)
  · obtain ⟨xq, hZ⟩ := hEY.2.1 (143, "no such strip or what") (by decide)
    exact th_new (E := "java/lang/IndexOutOfBoundsException") (own := "SlitWidths") (tx := "no such strip or what") (xq := xq) (a1 := e1) (a2 := e2) hx hb hst hown hts hEY.1 hZ (hts _ m_428) (hts _ m_429) (hts _ m_14) at_145 (by decide) hS (hl.1.trans hml.symm) hemp hlocks (Nat.le_of_ble_eq_true rfl) (Nat.le_of_ble_eq_true rfl) (Nat.le_of_ble_eq_true rfl) (Nat.le_of_ble_eq_true rfl) d_SW_strip_18 d_SW_strip_21 d_SW_strip_22 d_SW_strip_24 d_SW_strip_27
  refine lv_iload_n hx hb d_SW_strip_9 rfl (lv_at hl 3 rfl) ?_
  refine lv_iconst (v := nI 0) hx hb d_SW_strip_10 (by decide +kernel) ?_
  refine lv_iconst (v := nI 3) hx hb d_SW_strip_11 (by decide +kernel) ?_
  refine lv_arg3 (show _ = zI a3 from rfl) (show _ = zI 0 from zI_n _) (show _ = zI 3 from zI_n _) ?_
  refine ro_calli (va_runS (As := [.int (zI a3), .int (zI (0 : Int)), .int (zI (3 : Int))]) (rest := []) ⟨hx, hb, hml, hown, hts⟩ (c_SW_within l dC dI cI a3 (0 : Int) (3 : Int) ha3 (by omega) (by omega)) (va_cwS 3 hts (gw_S m_318 m_319 m_1 m_320) rfl rfl rfl (by decide +kernel) ⟨Nat.le_of_ble_eq_true rfl, Nat.le_of_ble_eq_true rfl⟩) ⟨ro_blind, fun U hU hW => ⟨rfl, fun k q h => by simp at h, va_K.moved hW.alike hK⟩⟩ rfl rfl hl.1 rfl (lv_room (Nat.le_of_ble_eq_true rfl)) d_SW_strip_12 ⟨Nat.le_of_ble_eq_true rfl, Nat.le_of_ble_eq_true rfl⟩) hS hP (fun r H locs er hP hS => ?_)
  subst er
  have hq12 := @b01_1 ((0 : Int) ≤ a3 ∧ a3 ≤ (3 : Int)) _
  have hr12 := @b01_le ((0 : Int) ≤ a3 ∧ a3 ≤ (3 : Int)) _
  refine ix_if_ne (tgt := 28) hx hb (nI_tI (n := b01 ((0 : Int) ≤ a3 ∧ a3 ≤ (3 : Int))) (by omega)) d_SW_strip_15 (by decide) (fun c_15 => absurd c_15 (by omega)) (fun c_15 => ?_)
  obtain ⟨xq, hZ⟩ := hEY.2.1 (143, "no such strip or what") (by decide)
  exact th_new (E := "java/lang/IndexOutOfBoundsException") (own := "SlitWidths") (tx := "no such strip or what") (xq := xq) (a1 := e1) (a2 := e2) hx hb hst hown hts hEY.1 hZ (hts _ m_428) (hts _ m_429) (hts _ m_14) at_145 (by decide) hS (hl.1.trans hml.symm) hemp hlocks (Nat.le_of_ble_eq_true rfl) (Nat.le_of_ble_eq_true rfl) (Nat.le_of_ble_eq_true rfl) (Nat.le_of_ble_eq_true rfl) d_SW_strip_18 d_SW_strip_21 d_SW_strip_22 d_SW_strip_24 d_SW_strip_27
set_option maxHeartbeats 4000000 in
set_option maxRecDepth 100000 in
/-- scrap(..), a good one -/
theorem c_SW_scrap (l : Launch) (dC : Nat → ClassId) (dI : Nat → Nat → Nat) (x0 k0 v0 a0 j0 q qa : Nat) (cI : ClassId) (cS : ClassId) (su : Nat → Option Nat) (ad : Nat → Nat → Nat) (sa : Nat → Nat → Nat → Nat) (sv : Nat → Nat → Nat) (sc : Nat) (hsc : sc ≤ 9) (hsu : ∀ i, i < 9 → su i = some (ad i 0)) (hso : ∀ i, i < sc → SOK sa sv i) (a1 : Int) (ha1 : -2147483648 ≤ a1 ∧ a1 < 2147483648) (hG : 0 ≤ a1 ∧ a1 < sc) : Met l y_SW_scrap w_SW_scrap { frames := 4, cells := 0, slots := 0, locals := 104 } (ro_Pc (dC, dI) vwCl [(cI, .int), (cS, .object "SlitWidths$SetUp")] [.ref x0, .int (zI a1)] ([(x0, .inr (6, [.ref k0, .ref v0, .ref a0, .ref j0, .ref q, .ref qa, .int (nI sc)])), (qa, .inl (cS, 9, .inr (.inr (.inr (.inr su)))))] ++ suT cI ad sa sv 9)) (ro_Qi (fun r => r = zI ((sv a1.toNat 4 : Int) - ((sumN (wt (sv a1.toNat 4) (sv a1.toNat 3) (sv a1.toNat 1) (sa a1.toNat 1) (sa a1.toNat 2)) (sv a1.toNat 0) : Nat) : Int)))) 0 0 ro_no := by
  refine Met.ofW (cc := b_SW_scrap) (maxL := 2) (ret := (some .int)) (by decide) rfl ?_
  intro p e s m args below meth c s₁ B hml hv
  obtain ⟨rfl, hP, hK⟩ := hv
  have hx := B.exec
  have hb := B.bytes
  have hr := B.returns
  have hts := gw_h (atoms_spec (ws := w_SW_scrap) B.pre)
  have hown : s.vm.findClass R_SW = some m.cls := findClass_of_methodNamed B.named
  have hlocks := B.notSynchronized
  have hS : va_S ro_no s.heap s.heap [] := va_S.rf
  have hP : va_P (dC, dI) vwCl ([(x0, .inr (6, [.ref k0, .ref v0, .ref a0, .ref j0, .ref q, .ref qa, .int (nI sc)])), (qa, .inl (cS, 9, .inr (.inr (.inr (.inr su)))))] ++ suT cI ad sa sv 9) s.heap := hP
  have hl := lv_entry ([.ref x0, .int (zI a1)]) (n := 2) (Nat.le_of_ble_eq_true rfl)
  rw [lg_entry_eq]
  generalize (lg_sl ([.ref x0, .int (zI a1)]) ++ List.replicate (2 - (lg_sl ([.ref x0, .int (zI a1)])).length) Slot.unset).toArray = ls at hl ⊢
  have hl : lv_has ls 2 [(0, .ref x0), (1, .int (zI a1))] := hl
  have hs1 := hso a1.toNat (by omega)
  refine lv_aload_n hx hb d_SW_scrap_0 rfl (lv_at hl 0 rfl) ?_
  refine lv_iload_n hx hb d_SW_scrap_1 rfl (lv_at hl 1 rfl) ?_
  have hPc := hP.sub (ws' := [(x0, .inr (6, [.ref k0, .ref v0, .ref a0, .ref j0, .ref q, .ref qa, .int (nI sc)]))]) [0] rfl
  refine ro_callv (va_runV (As := [.int (zI a1)]) (rest := []) ⟨hx, hb, hml, hown, hts⟩ (c_SW_checkSetUp l dC dI x0 k0 v0 a0 j0 q qa cI sc a1 ha1 (by omega) (by omega)) (cwV 1 hts (gw_V m_499 m_501 s_13 m_1 m_502) rfl rfl rfl (by decide +kernel) ⟨Nat.le_of_ble_eq_true rfl, Nat.le_of_ble_eq_true rfl⟩) ⟨ro_blind, va_recv hK hPc (ci := 6) (q0 := 0) rfl rfl, fun U hU hW => ⟨rfl, by rw [hU]; exact hPc, va_K.moved hW.alike (hK.sub (tys' := [(cI, .int)]) [0] rfl)⟩⟩ rfl rfl hl.1 rfl (lv_room (Nat.le_of_ble_eq_true rfl)) d_SW_scrap_2 ⟨Nat.le_of_ble_eq_true rfl, Nat.le_of_ble_eq_true rfl⟩) hS hP (fun H locs hP hS => ?_)
  refine lv_aload_n hx hb d_SW_scrap_5 rfl (lv_at hl 0 rfl) ?_
  refine va_get (D := (dC, dI)) (ci := 6) (v := .ref qa) (C := R_SW) (T := F_SW) (N := 7) hx hb hts in_SW hown hK hP 0 rfl rfl 5 (by decide) (hts _ m_227) (fun _ h9 => h9) rfl d_SW_scrap_6 ?_
  refine lv_iload_n hx hb d_SW_scrap_9 rfl (lv_at hl 1 rfl) ?_
  refine lv_topr (show _ = nI a1.toNat from z_toN (by omega)) ?_
  refine ix_aldq (i := a1.toNat) (v := ad a1.toNat 0) hx hb hK hP 1 1 rfl rfl (by omega) (by decide) (hsu _ (by omega)) d_SW_scrap_10 ?_
  have hPc : va_P (dC, dI) vwCl _ H := ((su_at hP (i := a1.toNat) (by omega)).sub [0, 2, 3] rfl)
  refine ro_calli (va_runV (As := []) (rest := []) ⟨hx, hb, hml, hown, hts⟩ (c_SU_scrapWeight l dC dI (ad a1.toNat 0) (ad a1.toNat 1) (ad a1.toNat 2) (ad a1.toNat 3) (ad a1.toNat 4) cI (sa a1.toNat 1) (sa a1.toNat 2) (sv a1.toNat 0) (sv a1.toNat 1) (sv a1.toNat 2) (sv a1.toNat 3) (sv a1.toNat 4) (sv a1.toNat 5) (sv a1.toNat 6) hs1.1 (by have := hs1.2.2.2.1; omega) hs1.2.1 (by have := hs1.2.2.1; omega) (fun k hk => hs1.kg hk) (fun k hk => (hs1.2.2.2.2.2 k hk).1)) (cwV 0 hts (gw_V m_520 m_521 m_522 m_7 m_523) rfl rfl rfl (by decide +kernel) ⟨Nat.le_of_ble_eq_true rfl, Nat.le_of_ble_eq_true rfl⟩) ⟨ro_blind, va_recv hK hPc (ci := 4) (q0 := 0) rfl rfl, fun U hU hW => ⟨rfl, by rw [hU]; exact hPc, va_K.moved hW.alike (hK.sub (tys' := [(cI, .int)]) [0] rfl)⟩⟩ rfl rfl hl.1 rfl (lv_room (Nat.le_of_ble_eq_true rfl)) d_SW_scrap_11 ⟨Nat.le_of_ble_eq_true rfl, Nat.le_of_ble_eq_true rfl⟩) hS hP (fun r H locs er hP hS => ?_)
  subst er
  exact W.iret (v := zI ((sv a1.toNat 4 : Int) - ((sumN (wt (sv a1.toNat 4) (sv a1.toNat 3) (sv a1.toNat 1) (sa a1.toNat 1) (sa a1.toNat 2)) (sv a1.toNat 0) : Nat) : Int))) hx hb hr (fun t ht hW => ⟨⟨zI ((sv a1.toNat 4 : Int) - ((sumN (wt (sv a1.toNat 4) (sv a1.toNat 3) (sv a1.toNat 1) (sa a1.toNat 1) (sa a1.toNat 2)) (sv a1.toNat 0) : Nat) : Int)), (), rfl, rfl, trivial⟩, hS.F ht⟩) hS.2.2 d_SW_scrap_14
set_option maxHeartbeats 4000000 in
set_option maxRecDepth 100000 in
/-- scrap(..), no such set-up -/
theorem t_SW_scrap (l : Launch) (hst : l.stackTraces = false) (dC : Nat → ClassId) (dI : Nat → Nat → Nat) (e1 e2 : Nat) (x0 k0 v0 a0 j0 q qa : Nat) (cI : ClassId) (sc : Nat) (hsc : sc ≤ 9) (a1 : Int) (ha1 : -2147483648 ≤ a1 ∧ a1 < 2147483648) (hG : ¬ (0 ≤ a1 ∧ a1 < sc)) : TMet l y_SW_scrap w_SW_scrap { frames := 7, cells := 1, slots := 6, locals := 103 } (ey e1 e2 (ro_Pc (dC, dI) vwCl [(cI, .int)] [.ref x0, .int (zI a1)] [(x0, .inr (6, [.ref k0, .ref v0, .ref a0, .ref j0, .ref q, .ref qa, .int (nI sc)]))])) "java/lang/IndexOutOfBoundsException" B0 1 6 ro_no := by
  refine TMet.ofW (cc := b_SW_scrap) (maxL := 2) (ret := (some .int)) (by decide) rfl ?_
  intro p e s m args below meth c s₁ B hml hemp hv
  obtain ⟨⟨rfl, hP, hK⟩, hEY⟩ := hv
  have hx := B.exec
  have hb := B.bytes
  have hts := gw_h (atoms_spec (ws := w_SW_scrap) B.pre)
  have hown : s.vm.findClass R_SW = some m.cls := findClass_of_methodNamed B.named
  have hlocks := B.notSynchronized
  have hS : va_S ro_no s.heap s.heap [] := va_S.rf
  have hP : va_P (dC, dI) vwCl [(x0, .inr (6, [.ref k0, .ref v0, .ref a0, .ref j0, .ref q, .ref qa, .int (nI sc)]))] s.heap := hP
  have hl := lv_entry ([.ref x0, .int (zI a1)]) (n := 2) (Nat.le_of_ble_eq_true rfl)
  rw [lg_entry_eq]
  generalize (lg_sl ([.ref x0, .int (zI a1)]) ++ List.replicate (2 - (lg_sl ([.ref x0, .int (zI a1)])).length) Slot.unset).toArray = ls at hl ⊢
  have hl : lv_has ls 2 [(0, .ref x0), (1, .int (zI a1))] := hl
  refine lv_aload_n hx hb d_SW_scrap_0 rfl (lv_at hl 0 rfl) ?_
  refine lv_iload_n hx hb d_SW_scrap_1 rfl (lv_at hl 1 rfl) ?_
  have hPc := hP.sub (ws' := [(x0, .inr (6, [.ref k0, .ref v0, .ref a0, .ref j0, .ref q, .ref qa, .int (nI sc)]))]) [0] rfl
  have hEH := hEY.ro hS
  refine th_runV (As := [.int (zI a1)]) (rest := []) ⟨hx, hb, hml, hown, hts⟩ (t_SW_checkSetUp l hst dC dI e1 e2 x0 k0 v0 a0 j0 q qa cI sc a1 ha1 (by omega) (by omega)) (cwV 1 hts (gw_V m_499 m_501 s_13 m_1 m_502) rfl rfl rfl (by decide +kernel) ⟨Nat.le_of_ble_eq_true rfl, Nat.le_of_ble_eq_true rfl⟩) ⟨ey_blind ro_blind, va_recv hK hPc (ci := 6) (q0 := 0) rfl rfl, fun U hU hW => ⟨⟨rfl, by rw [hU]; exact hPc, va_K.moved hW.alike hK⟩, by rw [hU]; exact EY.warm hW hEH⟩⟩ rfl hl.1 rfl (Nat.le_of_ble_eq_true rfl) d_SW_scrap_2 ⟨Nat.le_of_ble_eq_true rfl, Nat.le_of_ble_eq_true rfl⟩ (fun q9 ce st9 t9 H1 L9 h09 h19 hW9 hB9 hce hcv hcl hL9 => ?_)
  exact TW.out hemp hlocks hce hcv hcl (fun t2 ht2 _ => B0.ro hS h09 h19 hB9 ht2) (fun z hz => (List.mem_append.mp hz).elim (hS.2.2 z) (hL9 z))
set_option maxHeartbeats 4000000 in
set_option maxRecDepth 100000 in
/-- moves(..), a good one -/
theorem c_SW_moves (l : Launch) (dC : Nat → ClassId) (dI : Nat → Nat → Nat) (x0 k0 v0 a0 j0 q qa : Nat) (cI : ClassId) (cS : ClassId) (su : Nat → Option Nat) (ad : Nat → Nat → Nat) (sa : Nat → Nat → Nat → Nat) (sv : Nat → Nat → Nat) (sc : Nat) (hsc : sc ≤ 9) (hsu : ∀ i, i < 9 → su i = some (ad i 0)) (hko : ∀ i, i < sc → KOK sa sv i) (a1 : Int) (a2 : Int) (ha1 : -2147483648 ≤ a1 ∧ a1 < 2147483648) (ha2 : -2147483648 ≤ a2 ∧ a2 < 2147483648) (hG : (0 ≤ a1 ∧ a1 < sc) ∧ (0 ≤ a2 ∧ a2 < sc)) : Met l y_SW_moves w_SW_moves { frames := 2, cells := 0, slots := 0, locals := 86 } (ro_Pc (dC, dI) vwCl [(cI, .int), (cS, .object "SlitWidths$SetUp")] [.ref x0, .int (zI a1), .int (zI a2)] ([(x0, .inr (6, [.ref k0, .ref v0, .ref a0, .ref j0, .ref q, .ref qa, .int (nI sc)])), (qa, .inl (cS, 9, .inr (.inr (.inr (.inr su)))))] ++ suT cI ad sa sv 9)) (ro_Qi (fun r => r = nI (MVc sa sv a1.toNat a2.toNat))) 0 0 ro_no := by
  refine Met.ofW (cc := b_SW_moves) (maxL := 3) (ret := (some .int)) (by decide) rfl ?_
  intro p e s m args below meth c s₁ B hml hv
  obtain ⟨rfl, hP, hK⟩ := hv
  have hx := B.exec
  have hb := B.bytes
  have hr := B.returns
  have hts := gw_h (atoms_spec (ws := w_SW_moves) B.pre)
  have hown : s.vm.findClass R_SW = some m.cls := findClass_of_methodNamed B.named
  have hlocks := B.notSynchronized
  have hS : va_S ro_no s.heap s.heap [] := va_S.rf
  have hP : va_P (dC, dI) vwCl ([(x0, .inr (6, [.ref k0, .ref v0, .ref a0, .ref j0, .ref q, .ref qa, .int (nI sc)])), (qa, .inl (cS, 9, .inr (.inr (.inr (.inr su)))))] ++ suT cI ad sa sv 9) s.heap := hP
  have hl := lv_entry ([.ref x0, .int (zI a1), .int (zI a2)]) (n := 3) (Nat.le_of_ble_eq_true rfl)
  rw [lg_entry_eq]
  generalize (lg_sl ([.ref x0, .int (zI a1), .int (zI a2)]) ++ List.replicate (3 - (lg_sl ([.ref x0, .int (zI a1), .int (zI a2)])).length) Slot.unset).toArray = ls at hl ⊢
  have hl : lv_has ls 3 [(0, .ref x0), (1, .int (zI a1)), (2, .int (zI a2))] := hl
  have hka := hko a1.toNat (by omega)
  have hkb := hko a2.toNat (by omega)
  refine lv_aload_n hx hb d_SW_moves_0 rfl (lv_at hl 0 rfl) ?_
  refine lv_iload_n hx hb d_SW_moves_1 rfl (lv_at hl 1 rfl) ?_
  have hPc := hP.sub (ws' := [(x0, .inr (6, [.ref k0, .ref v0, .ref a0, .ref j0, .ref q, .ref qa, .int (nI sc)]))]) [0] rfl
  refine ro_callv (va_runV (As := [.int (zI a1)]) (rest := []) ⟨hx, hb, hml, hown, hts⟩ (c_SW_checkSetUp l dC dI x0 k0 v0 a0 j0 q qa cI sc a1 ha1 (by omega) (by omega)) (cwV 1 hts (gw_V m_499 m_501 s_13 m_1 m_502) rfl rfl rfl (by decide +kernel) ⟨Nat.le_of_ble_eq_true rfl, Nat.le_of_ble_eq_true rfl⟩) ⟨ro_blind, va_recv hK hPc (ci := 6) (q0 := 0) rfl rfl, fun U hU hW => ⟨rfl, by rw [hU]; exact hPc, va_K.moved hW.alike (hK.sub (tys' := [(cI, .int)]) [0] rfl)⟩⟩ rfl rfl hl.1 rfl (lv_room (Nat.le_of_ble_eq_true rfl)) d_SW_moves_2 ⟨Nat.le_of_ble_eq_true rfl, Nat.le_of_ble_eq_true rfl⟩) hS hP (fun H locs hP hS => ?_)
  refine lv_aload_n hx hb d_SW_moves_5 rfl (lv_at hl 0 rfl) ?_
  refine lv_iload_n hx hb d_SW_moves_6 rfl (lv_at hl 2 rfl) ?_
  have hPc := hP.sub (ws' := [(x0, .inr (6, [.ref k0, .ref v0, .ref a0, .ref j0, .ref q, .ref qa, .int (nI sc)]))]) [0] rfl
  refine ro_callv (va_runV (As := [.int (zI a2)]) (rest := []) ⟨hx, hb, hml, hown, hts⟩ (c_SW_checkSetUp l dC dI x0 k0 v0 a0 j0 q qa cI sc a2 ha2 (by omega) (by omega)) (cwV 1 hts (gw_V m_499 m_501 s_13 m_1 m_502) rfl rfl rfl (by decide +kernel) ⟨Nat.le_of_ble_eq_true rfl, Nat.le_of_ble_eq_true rfl⟩) ⟨ro_blind, va_recv hK hPc (ci := 6) (q0 := 0) rfl rfl, fun U hU hW => ⟨rfl, by rw [hU]; exact hPc, va_K.moved hW.alike (hK.sub (tys' := [(cI, .int)]) [0] rfl)⟩⟩ rfl rfl hl.1 rfl (lv_room (Nat.le_of_ble_eq_true rfl)) d_SW_moves_7 ⟨Nat.le_of_ble_eq_true rfl, Nat.le_of_ble_eq_true rfl⟩) hS hP (fun H locs hP hS => ?_)
  refine lv_aload_n hx hb d_SW_moves_10 rfl (lv_at hl 0 rfl) ?_
  refine va_get (D := (dC, dI)) (ci := 6) (v := .ref qa) (C := R_SW) (T := F_SW) (N := 7) hx hb hts in_SW hown hK hP 0 rfl rfl 5 (by decide) (hts _ m_227) (fun _ h9 => h9) rfl d_SW_moves_11 ?_
  refine lv_iload_n hx hb d_SW_moves_14 rfl (lv_at hl 2 rfl) ?_
  refine lv_topr (show _ = nI a2.toNat from z_toN (by omega)) ?_
  refine ix_aldq (i := a2.toNat) (v := ad a2.toNat 0) hx hb hK hP 1 1 rfl rfl (by omega) (by decide) (hsu _ (by omega)) d_SW_moves_15 ?_
  refine lv_aload_n hx hb d_SW_moves_16 rfl (lv_at hl 0 rfl) ?_
  refine va_get (D := (dC, dI)) (ci := 6) (v := .ref qa) (C := R_SW) (T := F_SW) (N := 7) hx hb hts in_SW hown hK hP 0 rfl rfl 5 (by decide) (hts _ m_227) (fun _ h9 => h9) rfl d_SW_moves_17 ?_
  refine lv_iload_n hx hb d_SW_moves_20 rfl (lv_at hl 1 rfl) ?_
  refine lv_topr (show _ = nI a1.toNat from z_toN (by omega)) ?_
  refine ix_aldq (i := a1.toNat) (v := ad a1.toNat 0) hx hb hK hP 1 1 rfl rfl (by omega) (by decide) (hsu _ (by omega)) d_SW_moves_21 ?_
  have hPc : va_P (dC, dI) vwCl _ H := ((su_at hP (i := a2.toNat) (by omega)).sub [0, 4] rfl).app ((su_at hP (i := a1.toNat) (by omega)).sub [0, 4] rfl)
  refine ro_calli (va_runV (As := [.ref (ad a1.toNat 0)]) (rest := []) ⟨hx, hb, hml, hown, hts⟩ (c_SU_placesNotIn l dC dI (ad a2.toNat 0) (ad a2.toNat 1) (ad a2.toNat 2) (ad a2.toNat 3) (ad a2.toNat 4) (ad a1.toNat 0) (ad a1.toNat 1) (ad a1.toNat 2) (ad a1.toNat 3) (ad a1.toNat 4) cI (sa a2.toNat 3) (sa a1.toNat 3) (sv a2.toNat 0) (sv a2.toNat 1) (sv a2.toNat 2) (sv a2.toNat 3) (sv a2.toNat 4) (sv a2.toNat 5) (sv a2.toNat 6) (sv a1.toNat 0) (sv a1.toNat 1) (sv a1.toNat 2) (sv a1.toNat 3) (sv a1.toNat 4) (sv a1.toNat 5) (sv a1.toNat 6) hkb.1 hka.1 hkb.2.1 hka.2.1 hkb.2.2 hka.2.2) (cwV 1 hts (gw_V m_532 m_283 m_284 m_7 m_285) rfl rfl rfl (by decide +kernel) ⟨Nat.le_of_ble_eq_true rfl, Nat.le_of_ble_eq_true rfl⟩) ⟨ro_blind, va_recv hK hPc (ci := 4) (q0 := 0) rfl rfl, fun U hU hW => ⟨rfl, by rw [hU]; exact hPc, va_K.moved hW.alike (hK.sub (tys' := [(cI, .int)]) [0] rfl)⟩⟩ rfl rfl hl.1 rfl (lv_room (Nat.le_of_ble_eq_true rfl)) d_SW_moves_22 ⟨Nat.le_of_ble_eq_true rfl, Nat.le_of_ble_eq_true rfl⟩) hS hP (fun r H locs er hP hS => ?_)
  subst er
  exact W.iret (v := nI (MVc sa sv a1.toNat a2.toNat)) hx hb hr (fun t ht hW => ⟨⟨nI (MVc sa sv a1.toNat a2.toNat), (), rfl, rfl, trivial⟩, hS.F ht⟩) hS.2.2 d_SW_moves_25
set_option maxHeartbeats 4000000 in
set_option maxRecDepth 100000 in
/-- moves(..), no such set-up -/
theorem t_SW_moves1 (l : Launch) (hst : l.stackTraces = false) (dC : Nat → ClassId) (dI : Nat → Nat → Nat) (e1 e2 : Nat) (x0 k0 v0 a0 j0 q qa : Nat) (cI : ClassId) (sc : Nat) (hsc : sc ≤ 9) (a1 : Int) (a2 : Int) (ha1 : -2147483648 ≤ a1 ∧ a1 < 2147483648) (ha2 : -2147483648 ≤ a2 ∧ a2 < 2147483648) (hG : ¬ (0 ≤ a1 ∧ a1 < sc)) : TMet l y_SW_moves w_SW_moves { frames := 7, cells := 1, slots := 6, locals := 103 } (ey e1 e2 (ro_Pc (dC, dI) vwCl [(cI, .int)] [.ref x0, .int (zI a1), .int (zI a2)] [(x0, .inr (6, [.ref k0, .ref v0, .ref a0, .ref j0, .ref q, .ref qa, .int (nI sc)]))])) "java/lang/IndexOutOfBoundsException" B0 1 6 ro_no := by
  refine TMet.ofW (cc := b_SW_moves) (maxL := 3) (ret := (some .int)) (by decide) rfl ?_
  intro p e s m args below meth c s₁ B hml hemp hv
  obtain ⟨⟨rfl, hP, hK⟩, hEY⟩ := hv
  have hx := B.exec
  have hb := B.bytes
  have hts := gw_h (atoms_spec (ws := w_SW_moves) B.pre)
  have hown : s.vm.findClass R_SW = some m.cls := findClass_of_methodNamed B.named
  have hlocks := B.notSynchronized
  have hS : va_S ro_no s.heap s.heap [] := va_S.rf
  have hP : va_P (dC, dI) vwCl [(x0, .inr (6, [.ref k0, .ref v0, .ref a0, .ref j0, .ref q, .ref qa, .int (nI sc)]))] s.heap := hP
  have hl := lv_entry ([.ref x0, .int (zI a1), .int (zI a2)]) (n := 3) (Nat.le_of_ble_eq_true rfl)
  rw [lg_entry_eq]
  generalize (lg_sl ([.ref x0, .int (zI a1), .int (zI a2)]) ++ List.replicate (3 - (lg_sl ([.ref x0, .int (zI a1), .int (zI a2)])).length) Slot.unset).toArray = ls at hl ⊢
  have hl : lv_has ls 3 [(0, .ref x0), (1, .int (zI a1)), (2, .int (zI a2))] := hl
  refine lv_aload_n hx hb d_SW_moves_0 rfl (lv_at hl 0 rfl) ?_
  refine lv_iload_n hx hb d_SW_moves_1 rfl (lv_at hl 1 rfl) ?_
  have hPc := hP.sub (ws' := [(x0, .inr (6, [.ref k0, .ref v0, .ref a0, .ref j0, .ref q, .ref qa, .int (nI sc)]))]) [0] rfl
  have hEH := hEY.ro hS
  refine th_runV (As := [.int (zI a1)]) (rest := []) ⟨hx, hb, hml, hown, hts⟩ (t_SW_checkSetUp l hst dC dI e1 e2 x0 k0 v0 a0 j0 q qa cI sc a1 ha1 (by omega) (by omega)) (cwV 1 hts (gw_V m_499 m_501 s_13 m_1 m_502) rfl rfl rfl (by decide +kernel) ⟨Nat.le_of_ble_eq_true rfl, Nat.le_of_ble_eq_true rfl⟩) ⟨ey_blind ro_blind, va_recv hK hPc (ci := 6) (q0 := 0) rfl rfl, fun U hU hW => ⟨⟨rfl, by rw [hU]; exact hPc, va_K.moved hW.alike hK⟩, by rw [hU]; exact EY.warm hW hEH⟩⟩ rfl hl.1 rfl (Nat.le_of_ble_eq_true rfl) d_SW_moves_2 ⟨Nat.le_of_ble_eq_true rfl, Nat.le_of_ble_eq_true rfl⟩ (fun q9 ce st9 t9 H1 L9 h09 h19 hW9 hB9 hce hcv hcl hL9 => ?_)
  exact TW.out hemp hlocks hce hcv hcl (fun t2 ht2 _ => B0.ro hS h09 h19 hB9 ht2) (fun z hz => (List.mem_append.mp hz).elim (hS.2.2 z) (hL9 z))
set_option maxHeartbeats 4000000 in
set_option maxRecDepth 100000 in
/-- moves(..), no such set-up -/
theorem t_SW_moves2 (l : Launch) (hst : l.stackTraces = false) (dC : Nat → ClassId) (dI : Nat → Nat → Nat) (e1 e2 : Nat) (x0 k0 v0 a0 j0 q qa : Nat) (cI : ClassId) (sc : Nat) (hsc : sc ≤ 9) (a1 : Int) (a2 : Int) (ha1 : -2147483648 ≤ a1 ∧ a1 < 2147483648) (ha2 : -2147483648 ≤ a2 ∧ a2 < 2147483648) (hG : (0 ≤ a1 ∧ a1 < sc) ∧ ¬ (0 ≤ a2 ∧ a2 < sc)) : TMet l y_SW_moves w_SW_moves { frames := 7, cells := 1, slots := 6, locals := 103 } (ey e1 e2 (ro_Pc (dC, dI) vwCl [(cI, .int)] [.ref x0, .int (zI a1), .int (zI a2)] [(x0, .inr (6, [.ref k0, .ref v0, .ref a0, .ref j0, .ref q, .ref qa, .int (nI sc)]))])) "java/lang/IndexOutOfBoundsException" B0 1 6 ro_no := by
  refine TMet.ofW (cc := b_SW_moves) (maxL := 3) (ret := (some .int)) (by decide) rfl ?_
  intro p e s m args below meth c s₁ B hml hemp hv
  obtain ⟨⟨rfl, hP, hK⟩, hEY⟩ := hv
  have hx := B.exec
  have hb := B.bytes
  have hts := gw_h (atoms_spec (ws := w_SW_moves) B.pre)
  have hown : s.vm.findClass R_SW = some m.cls := findClass_of_methodNamed B.named
  have hlocks := B.notSynchronized
  have hS : va_S ro_no s.heap s.heap [] := va_S.rf
  have hP : va_P (dC, dI) vwCl [(x0, .inr (6, [.ref k0, .ref v0, .ref a0, .ref j0, .ref q, .ref qa, .int (nI sc)]))] s.heap := hP
  have hl := lv_entry ([.ref x0, .int (zI a1), .int (zI a2)]) (n := 3) (Nat.le_of_ble_eq_true rfl)
  rw [lg_entry_eq]
  generalize (lg_sl ([.ref x0, .int (zI a1), .int (zI a2)]) ++ List.replicate (3 - (lg_sl ([.ref x0, .int (zI a1), .int (zI a2)])).length) Slot.unset).toArray = ls at hl ⊢
  have hl : lv_has ls 3 [(0, .ref x0), (1, .int (zI a1)), (2, .int (zI a2))] := hl
  refine lv_aload_n hx hb d_SW_moves_0 rfl (lv_at hl 0 rfl) ?_
  refine lv_iload_n hx hb d_SW_moves_1 rfl (lv_at hl 1 rfl) ?_
  have hPc := hP.sub (ws' := [(x0, .inr (6, [.ref k0, .ref v0, .ref a0, .ref j0, .ref q, .ref qa, .int (nI sc)]))]) [0] rfl
  refine ro_callv (va_runV (As := [.int (zI a1)]) (rest := []) ⟨hx, hb, hml, hown, hts⟩ (c_SW_checkSetUp l dC dI x0 k0 v0 a0 j0 q qa cI sc a1 ha1 (by omega) (by omega)) (cwV 1 hts (gw_V m_499 m_501 s_13 m_1 m_502) rfl rfl rfl (by decide +kernel) ⟨Nat.le_of_ble_eq_true rfl, Nat.le_of_ble_eq_true rfl⟩) ⟨ro_blind, va_recv hK hPc (ci := 6) (q0 := 0) rfl rfl, fun U hU hW => ⟨rfl, by rw [hU]; exact hPc, va_K.moved hW.alike hK⟩⟩ rfl rfl hl.1 rfl (lv_room (Nat.le_of_ble_eq_true rfl)) d_SW_moves_2 ⟨Nat.le_of_ble_eq_true rfl, Nat.le_of_ble_eq_true rfl⟩) hS hP (fun H locs hP hS => ?_)
  refine lv_aload_n hx hb d_SW_moves_5 rfl (lv_at hl 0 rfl) ?_
  refine lv_iload_n hx hb d_SW_moves_6 rfl (lv_at hl 2 rfl) ?_
  have hPc := hP.sub (ws' := [(x0, .inr (6, [.ref k0, .ref v0, .ref a0, .ref j0, .ref q, .ref qa, .int (nI sc)]))]) [0] rfl
  have hEH := hEY.ro hS
  refine th_runV (As := [.int (zI a2)]) (rest := []) ⟨hx, hb, hml, hown, hts⟩ (t_SW_checkSetUp l hst dC dI e1 e2 x0 k0 v0 a0 j0 q qa cI sc a2 ha2 (by omega) (by omega)) (cwV 1 hts (gw_V m_499 m_501 s_13 m_1 m_502) rfl rfl rfl (by decide +kernel) ⟨Nat.le_of_ble_eq_true rfl, Nat.le_of_ble_eq_true rfl⟩) ⟨ey_blind ro_blind, va_recv hK hPc (ci := 6) (q0 := 0) rfl rfl, fun U hU hW => ⟨⟨rfl, by rw [hU]; exact hPc, va_K.moved hW.alike hK⟩, by rw [hU]; exact EY.warm hW hEH⟩⟩ rfl hl.1 rfl (Nat.le_of_ble_eq_true rfl) d_SW_moves_7 ⟨Nat.le_of_ble_eq_true rfl, Nat.le_of_ble_eq_true rfl⟩ (fun q9 ce st9 t9 H1 L9 h09 h19 hW9 hB9 hce hcv hcl hL9 => ?_)
  exact TW.out hemp hlocks hce hcv hcl (fun t2 ht2 _ => B0.ro hS h09 h19 hB9 ht2) (fun z hz => (List.mem_append.mp hz).elim (hS.2.2 z) (hL9 z))
set_option maxHeartbeats 4000000 in
set_option maxRecDepth 100000 in
/-- order() -/
theorem c_SW_order (l : Launch) (dC : Nat → ClassId) (dI : Nat → Nat → Nat) (sz : Nat) (x0 k0 v0 a0 j0 q qa : Nat) (cI : ClassId) (cS : ClassId) (su : Nat → Option Nat) (ad : Nat → Nat → Nat) (sa : Nat → Nat → Nat → Nat) (sv : Nat → Nat → Nat) (sc : Nat) (hsc : sc ≤ 9) (hsu : ∀ i, i < 9 → su i = some (ad i 0)) (hko : ∀ i, i < sc → KOK sa sv i) (qn qs qf : Nat) (nm sp fw : Nat → Nat) (tt sk : Nat) (hk : sk = 0 ∨ (sk = 1 ∧ GoodO (MVc sa sv) sc tt nm)) : Met l y_SW_order w_SW_order { frames := 5, cells := 0, slots := 0, locals := 119 } (rw_Pc (dC, dI) vwCl [(cI, .int), (cS, .object "SlitWidths$SetUp")] sz [.ref x0] ([(x0, .inr (6, [.ref k0, .ref v0, .ref a0, .ref j0, .ref q, .ref qa, .int (nI sc)])), (q, .inr (3, [.ref qn, .int (nI tt), .int (nI sk), .ref qs, .ref qf])), (qn, .inl (cI, 9, .inl (aN nm))), (qs, .inl (cI, 81, .inl (aN sp))), (qf, .inl (cI, 4608, .inl (aN fw))), (qa, .inl (cS, 9, .inr (.inr (.inr (.inr su)))))] ++ suT cI ad sa sv 9)) (va_Qi (fun (r : Int32) (u : Nat × Nat × (Nat → Nat) × (Nat → Nat) × (Nat → Nat)) => r = nI u.1 ∧ u.2.1 = 1 ∧ GoodO (MVc sa sv) sc u.1 u.2.2.1) (rw_B (dC, dI) vwCl [(cI, .int), (cS, .object "SlitWidths$SetUp")] (va_A ([(x0, .inr (6, [.ref k0, .ref v0, .ref a0, .ref j0, .ref q, .ref qa, .int (nI sc)])), (q, .inr (3, [.ref qn, .int (nI tt), .int (nI sk), .ref qs, .ref qf])), (qn, .inl (cI, 9, .inl (aN nm))), (qs, .inl (cI, 81, .inl (aN sp))), (qf, .inl (cI, 4608, .inl (aN fw))), (qa, .inl (cS, 9, .inr (.inr (.inr (.inr su)))))] ++ suT cI ad sa sv 9) sz) (fun u : Nat × Nat × (Nat → Nat) × (Nat → Nat) × (Nat → Nat) => ([(x0, .inr (6, [.ref k0, .ref v0, .ref a0, .ref j0, .ref q, .ref qa, .int (nI sc)])), (q, .inr (3, [.ref qn, .int (nI u.1), .int (nI u.2.1), .ref qs, .ref qf])), (qn, .inl (cI, 9, .inl (aN u.2.2.1))), (qs, .inl (cI, 81, .inl (aN u.2.2.2.1))), (qf, .inl (cI, 4608, .inl (aN u.2.2.2.2))), (qa, .inl (cS, 9, .inr (.inr (.inr (.inr su)))))] ++ suT cI ad sa sv 9))) (va_A ([(x0, .inr (6, [.ref k0, .ref v0, .ref a0, .ref j0, .ref q, .ref qa, .int (nI sc)])), (q, .inr (3, [.ref qn, .int (nI tt), .int (nI sk), .ref qs, .ref qf])), (qn, .inl (cI, 9, .inl (aN nm))), (qs, .inl (cI, 81, .inl (aN sp))), (qf, .inl (cI, 4608, .inl (aN fw))), (qa, .inl (cS, 9, .inr (.inr (.inr (.inr su)))))] ++ suT cI ad sa sv 9) sz)) 0 0 (va_A ([(x0, .inr (6, [.ref k0, .ref v0, .ref a0, .ref j0, .ref q, .ref qa, .int (nI sc)])), (q, .inr (3, [.ref qn, .int (nI tt), .int (nI sk), .ref qs, .ref qf])), (qn, .inl (cI, 9, .inl (aN nm))), (qs, .inl (cI, 81, .inl (aN sp))), (qf, .inl (cI, 4608, .inl (aN fw))), (qa, .inl (cS, 9, .inr (.inr (.inr (.inr su)))))] ++ suT cI ad sa sv 9) sz) := by
  refine Met.ofW (cc := b_SW_order) (maxL := 1) (ret := (some .int)) (by decide) rfl ?_
  intro p e s m args below meth c s₁ B hml hv
  obtain ⟨rfl, hsz, hP, hK, hD0⟩ := hv
  have hx := B.exec
  have hb := B.bytes
  have hr := B.returns
  have hts := gw_h (atoms_spec (ws := w_SW_order) B.pre)
  have hown : s.vm.findClass R_SW = some m.cls := findClass_of_methodNamed B.named
  have hlocks := B.notSynchronized
  subst hsz
  have hD := hD0.self (sz := s.heap.size)
  generalize hAe : va_A ([(x0, .inr (6, [.ref k0, .ref v0, .ref a0, .ref j0, .ref q, .ref qa, .int (nI sc)])), (q, .inr (3, [.ref qn, .int (nI tt), .int (nI sk), .ref qs, .ref qf])), (qn, .inl (cI, 9, .inl (aN nm))), (qs, .inl (cI, 81, .inl (aN sp))), (qf, .inl (cI, 4608, .inl (aN fw))), (qa, .inl (cS, 9, .inr (.inr (.inr (.inr su)))))] ++ suT cI ad sa sv 9) s.heap.size = A at hD ⊢
  have hA : ∀ q : Nat, s.heap.size ≤ q → A q := fun q h => by rw [← hAe]; exact Or.inr h
  have hS : va_S A s.heap s.heap [] := va_S.rf
  have hP : va_P (dC, dI) vwCl ([(x0, .inr (6, [.ref k0, .ref v0, .ref a0, .ref j0, .ref q, .ref qa, .int (nI sc)])), (q, .inr (3, [.ref qn, .int (nI tt), .int (nI sk), .ref qs, .ref qf])), (qn, .inl (cI, 9, .inl (aN nm))), (qs, .inl (cI, 81, .inl (aN sp))), (qf, .inl (cI, 4608, .inl (aN fw))), (qa, .inl (cS, 9, .inr (.inr (.inr (.inr su)))))] ++ suT cI ad sa sv 9) s.heap := hP
  have hl := lv_entry ([.ref x0]) (n := 1) (Nat.le_of_ble_eq_true rfl)
  rw [lg_entry_eq]
  generalize (lg_sl ([.ref x0]) ++ List.replicate (1 - (lg_sl ([.ref x0])).length) Slot.unset).toArray = ls at hl ⊢
  have hl : lv_has ls 1 [(0, .ref x0)] := hl
  refine lv_aload_n hx hb d_SW_order_0 rfl (lv_at hl 0 rfl) ?_
  refine va_get (D := (dC, dI)) (ci := 6) (v := .ref q) (C := R_SW) (T := F_SW) (N := 7) hx hb hts in_SW hown hK hP 0 rfl rfl 4 (by decide) (hts _ m_226) (fun _ h9 => h9) rfl d_SW_order_1 ?_
  refine lv_aload_n hx hb d_SW_order_4 rfl (lv_at hl 0 rfl) ?_
  refine va_get (D := (dC, dI)) (ci := 6) (v := .ref qa) (C := R_SW) (T := F_SW) (N := 7) hx hb hts in_SW hown hK hP 0 rfl rfl 5 (by decide) (hts _ m_227) (fun _ h9 => h9) rfl d_SW_order_5 ?_
  refine lv_aload_n hx hb d_SW_order_8 rfl (lv_at hl 0 rfl) ?_
  refine va_get (D := (dC, dI)) (ci := 6) (v := .int (nI sc)) (C := R_SW) (T := F_SW) (N := 7) hx hb hts in_SW hown hK hP 0 rfl rfl 6 (by decide) (hts _ m_228) (fun _ h9 => h9) rfl d_SW_order_9 ?_
  have hPc := hP.part (cx := [(q, .inr (3, [.ref qn, .int (nI tt), .int (nI sk), .ref qs, .ref qf])), (qn, .inl (cI, 9, .inl (aN nm))), (qs, .inl (cI, 81, .inl (aN sp))), (qf, .inl (cI, 4608, .inl (aN fw))), (qa, .inl (cS, 9, .inr (.inr (.inr (.inr su)))))]) [1, 2, 3, 4, 5] rfl
  have hDc := hD.part (cx := [(q, .inr (3, [.ref qn, .int (nI tt), .int (nI sk), .ref qs, .ref qf])), (qn, .inl (cI, 9, .inl (aN nm))), (qs, .inl (cI, 81, .inl (aN sp))), (qf, .inl (cI, 4608, .inl (aN fw))), (qa, .inl (cS, 9, .inr (.inr (.inr (.inr su)))))]) [1, 2, 3, 4, 5] (by decide) rfl
  have hFc := va_freeP (cx := [(q, .inr (3, [.ref qn, .int (nI tt), .int (nI sk), .ref qs, .ref qf])), (qn, .inl (cI, 9, .inl (aN nm))), (qs, .inl (cI, 81, .inl (aN sp))), (qf, .inl (cI, 4608, .inl (aN fw))), (qa, .inl (cS, 9, .inr (.inr (.inr (.inr su)))))]) hD hS hA [1, 2, 3, 4, 5] rfl
  refine va_callv (va_runV (As := [.ref qa, .int (nI sc)]) (rest := []) ⟨hx, hb, hml, hown, hts⟩ (c_SQ_find l dC dI s.heap.size q qn qs qf cI cS qa nm sp fw su ad sa sv tt sk sc hsc hsu hko hk) (cwV 2 hts (gw_V m_274 m_275 m_276 m_6 m_277) rfl rfl rfl (by decide +kernel) ⟨Nat.le_of_ble_eq_true rfl, Nat.le_of_ble_eq_true rfl⟩) ⟨rw_blind, va_recv hK hPc (ci := 3) (q0 := 0) rfl rfl, fun U hU hW => ⟨rfl, by rw [hU], by rw [hU]; exact hPc, va_K.moved hW.alike hK, hDc.weaken (fun _ _ _ _ => trivial)⟩⟩ rfl rfl hl.1 rfl (lv_room (Nat.le_of_ble_eq_true rfl)) d_SW_order_12 ⟨Nat.le_of_ble_eq_true rfl, Nat.le_of_ble_eq_true rfl⟩) hS (fun q _ h => hFc q h) hFc (fun u t H1 locs ht hvm hw hB hz1 hk1 hS => ?_)
  obtain ⟨tt1, sk1, nm1, sp1, fw1⟩ := u
  obtain ⟨hP1, hK1, hD1⟩ := hB
  rw [ht] at hP1
  try dsimp only at hw
  obtain ⟨hP, hD⟩ := va_joinP (wr := [(x0, .inr (6, [.ref k0, .ref v0, .ref a0, .ref j0, .ref q, .ref qa, .int (nI sc)]))]) (rx := [(q, .inr (3, [.ref qn, .int (nI tt1), .int (nI sk1), .ref qs, .ref qf])), (qn, .inl (cI, 9, .inl (aN nm1))), (qs, .inl (cI, 81, .inl (aN sp1))), (qf, .inl (cI, 4608, .inl (aN fw1))), (qa, .inl (cS, 9, .inr (.inr (.inr (.inr su)))))]) hP hD [1, 2, 3, 4, 5] [0] rfl rfl (by decide) (by decide) hk1 hFc hP1 hD1
  generalize H1 = H at hP hS ⊢
  have hP : va_P (dC, dI) vwCl ([(x0, .inr (6, [.ref k0, .ref v0, .ref a0, .ref j0, .ref q, .ref qa, .int (nI sc)])), (q, .inr (3, [.ref qn, .int (nI tt1), .int (nI sk1), .ref qs, .ref qf])), (qn, .inl (cI, 9, .inl (aN nm1))), (qs, .inl (cI, 81, .inl (aN sp1))), (qf, .inl (cI, 4608, .inl (aN fw1))), (qa, .inl (cS, 9, .inr (.inr (.inr (.inr su)))))] ++ suT cI ad sa sv 9) H := hP.part [0, 1, 2, 3, 4, 5] rfl
  have hD : va_D A ([(x0, .inr (6, [.ref k0, .ref v0, .ref a0, .ref j0, .ref q, .ref qa, .int (nI sc)])), (q, .inr (3, [.ref qn, .int (nI tt1), .int (nI sk1), .ref qs, .ref qf])), (qn, .inl (cI, 9, .inl (aN nm1))), (qs, .inl (cI, 81, .inl (aN sp1))), (qf, .inl (cI, 4608, .inl (aN fw1))), (qa, .inl (cS, 9, .inr (.inr (.inr (.inr su)))))] ++ suT cI ad sa sv 9) := hD.part [0, 1, 2, 3, 4, 5] (by decide) rfl
  obtain ⟨hk1, hGo⟩ := hw
  refine lv_aload_n hx hb d_SW_order_15 rfl (lv_at hl 0 rfl) ?_
  refine va_get (D := (dC, dI)) (ci := 6) (v := .ref q) (C := R_SW) (T := F_SW) (N := 7) hx hb hts in_SW hown hK hP 0 rfl rfl 4 (by decide) (hts _ m_226) (fun _ h9 => h9) rfl d_SW_order_16 ?_
  refine va_get (D := (dC, dI)) (ci := 3) (v := .int (nI tt1)) (C := R_SQ) (T := F_SQ) (N := 5) hx hb hts in_SQ hown hK hP 1 rfl rfl 1 (by decide) (hts _ m_160) (fun _ h9 => h9) rfl d_SW_order_19 ?_
  exact W.iret (v := nI tt1) hx hb hr (fun t ht hW => ⟨⟨nI tt1, (tt1, sk1, nm1, sp1, fw1), rfl, ⟨rfl, hk1, hGo⟩, by rw [ht]; exact hP, va_K.moved hW.alike hK, hD⟩, hS.F ht⟩) hS.2.2 d_SW_order_22
set_option maxHeartbeats 4000000 in
set_option maxRecDepth 100000 in
/-- ordered(i), a good one -/
theorem c_SW_ordered (l : Launch) (dC : Nat → ClassId) (dI : Nat → Nat → Nat) (sz : Nat) (x0 k0 v0 a0 j0 q qa : Nat) (cI : ClassId) (cS : ClassId) (su : Nat → Option Nat) (ad : Nat → Nat → Nat) (sa : Nat → Nat → Nat → Nat) (sv : Nat → Nat → Nat) (sc : Nat) (hsc : sc ≤ 9) (hsu : ∀ i, i < 9 → su i = some (ad i 0)) (hko : ∀ i, i < sc → KOK sa sv i) (qn qs qf : Nat) (nm sp fw : Nat → Nat) (tt sk : Nat) (hk : sk = 0 ∨ (sk = 1 ∧ GoodO (MVc sa sv) sc tt nm)) (a1 : Int) (ha1 : -2147483648 ≤ a1 ∧ a1 < 2147483648) (hG : 0 ≤ a1) : Met l y_SW_ordered w_SW_ordered { frames := 5, cells := 0, slots := 0, locals := 119 } (rw_Pc (dC, dI) vwCl [(cI, .int), (cS, .object "SlitWidths$SetUp")] sz [.ref x0, .int (zI a1)] ([(x0, .inr (6, [.ref k0, .ref v0, .ref a0, .ref j0, .ref q, .ref qa, .int (nI sc)])), (q, .inr (3, [.ref qn, .int (nI tt), .int (nI sk), .ref qs, .ref qf])), (qn, .inl (cI, 9, .inl (aN nm))), (qs, .inl (cI, 81, .inl (aN sp))), (qf, .inl (cI, 4608, .inl (aN fw))), (qa, .inl (cS, 9, .inr (.inr (.inr (.inr su)))))] ++ suT cI ad sa sv 9)) (va_Qi (fun (r : Int32) (u : Nat × Nat × (Nat → Nat) × (Nat → Nat) × (Nat → Nat)) => (sc ≤ a1 → r = zI (-1)) ∧ (a1 < sc → r = nI (u.2.2.1 a1.toNat)) ∧ ((u.2.1 = 0 ∨ (u.2.1 = 1 ∧ GoodO (MVc sa sv) sc u.1 u.2.2.1)) ∧ (a1 < sc → GoodO (MVc sa sv) sc u.1 u.2.2.1))) (rw_B (dC, dI) vwCl [(cI, .int), (cS, .object "SlitWidths$SetUp")] (va_A ([(x0, .inr (6, [.ref k0, .ref v0, .ref a0, .ref j0, .ref q, .ref qa, .int (nI sc)])), (q, .inr (3, [.ref qn, .int (nI tt), .int (nI sk), .ref qs, .ref qf])), (qn, .inl (cI, 9, .inl (aN nm))), (qs, .inl (cI, 81, .inl (aN sp))), (qf, .inl (cI, 4608, .inl (aN fw))), (qa, .inl (cS, 9, .inr (.inr (.inr (.inr su)))))] ++ suT cI ad sa sv 9) sz) (fun u : Nat × Nat × (Nat → Nat) × (Nat → Nat) × (Nat → Nat) => ([(x0, .inr (6, [.ref k0, .ref v0, .ref a0, .ref j0, .ref q, .ref qa, .int (nI sc)])), (q, .inr (3, [.ref qn, .int (nI u.1), .int (nI u.2.1), .ref qs, .ref qf])), (qn, .inl (cI, 9, .inl (aN u.2.2.1))), (qs, .inl (cI, 81, .inl (aN u.2.2.2.1))), (qf, .inl (cI, 4608, .inl (aN u.2.2.2.2))), (qa, .inl (cS, 9, .inr (.inr (.inr (.inr su)))))] ++ suT cI ad sa sv 9))) (va_A ([(x0, .inr (6, [.ref k0, .ref v0, .ref a0, .ref j0, .ref q, .ref qa, .int (nI sc)])), (q, .inr (3, [.ref qn, .int (nI tt), .int (nI sk), .ref qs, .ref qf])), (qn, .inl (cI, 9, .inl (aN nm))), (qs, .inl (cI, 81, .inl (aN sp))), (qf, .inl (cI, 4608, .inl (aN fw))), (qa, .inl (cS, 9, .inr (.inr (.inr (.inr su)))))] ++ suT cI ad sa sv 9) sz)) 0 0 (va_A ([(x0, .inr (6, [.ref k0, .ref v0, .ref a0, .ref j0, .ref q, .ref qa, .int (nI sc)])), (q, .inr (3, [.ref qn, .int (nI tt), .int (nI sk), .ref qs, .ref qf])), (qn, .inl (cI, 9, .inl (aN nm))), (qs, .inl (cI, 81, .inl (aN sp))), (qf, .inl (cI, 4608, .inl (aN fw))), (qa, .inl (cS, 9, .inr (.inr (.inr (.inr su)))))] ++ suT cI ad sa sv 9) sz) := by
  refine Met.ofW (cc := b_SW_ordered) (maxL := 2) (ret := (some .int)) (by decide) rfl ?_
  intro p e s m args below meth c s₁ B hml hv
  obtain ⟨rfl, hsz, hP, hK, hD0⟩ := hv
  have hx := B.exec
  have hb := B.bytes
  have hr := B.returns
  have hts := gw_h (atoms_spec (ws := w_SW_ordered) B.pre)
  have hown : s.vm.findClass R_SW = some m.cls := findClass_of_methodNamed B.named
  have hlocks := B.notSynchronized
  subst hsz
  have hD := hD0.self (sz := s.heap.size)
  generalize hAe : va_A ([(x0, .inr (6, [.ref k0, .ref v0, .ref a0, .ref j0, .ref q, .ref qa, .int (nI sc)])), (q, .inr (3, [.ref qn, .int (nI tt), .int (nI sk), .ref qs, .ref qf])), (qn, .inl (cI, 9, .inl (aN nm))), (qs, .inl (cI, 81, .inl (aN sp))), (qf, .inl (cI, 4608, .inl (aN fw))), (qa, .inl (cS, 9, .inr (.inr (.inr (.inr su)))))] ++ suT cI ad sa sv 9) s.heap.size = A at hD ⊢
  have hA : ∀ q : Nat, s.heap.size ≤ q → A q := fun q h => by rw [← hAe]; exact Or.inr h
  have hS : va_S A s.heap s.heap [] := va_S.rf
  have hP : va_P (dC, dI) vwCl ([(x0, .inr (6, [.ref k0, .ref v0, .ref a0, .ref j0, .ref q, .ref qa, .int (nI sc)])), (q, .inr (3, [.ref qn, .int (nI tt), .int (nI sk), .ref qs, .ref qf])), (qn, .inl (cI, 9, .inl (aN nm))), (qs, .inl (cI, 81, .inl (aN sp))), (qf, .inl (cI, 4608, .inl (aN fw))), (qa, .inl (cS, 9, .inr (.inr (.inr (.inr su)))))] ++ suT cI ad sa sv 9) s.heap := hP
  have hl := lv_entry ([.ref x0, .int (zI a1)]) (n := 2) (Nat.le_of_ble_eq_true rfl)
  rw [lg_entry_eq]
  generalize (lg_sl ([.ref x0, .int (zI a1)]) ++ List.replicate (2 - (lg_sl ([.ref x0, .int (zI a1)])).length) Slot.unset).toArray = ls at hl ⊢
  have hl : lv_has ls 2 [(0, .ref x0), (1, .int (zI a1))] := hl
  refine lv_iload_n hx hb d_SW_ordered_0 rfl (lv_at hl 1 rfl) ?_
  refine ix_if_ge (tgt := 14) hx hb (zI_toInt (z := a1) (by omega) (by omega)) d_SW_ordered_1 (by decide) (fun c_1 => ?_) (fun c_1 => absurd c_1 (by omega))
  refine lv_iload_n hx hb d_SW_ordered_14 rfl (lv_at hl 1 rfl) ?_
  refine lv_aload_n hx hb d_SW_ordered_15 rfl (lv_at hl 0 rfl) ?_
  refine va_get (D := (dC, dI)) (ci := 6) (v := .int (nI sc)) (C := R_SW) (T := F_SW) (N := 7) hx hb hts in_SW hown hK hP 0 rfl rfl 6 (by decide) (hts _ m_228) (fun _ h9 => h9) rfl d_SW_ordered_16 ?_
  refine ix_icmp_lt (tgt := 24) hx hb (zI_toInt (z := a1) (by omega) (by omega)) (nI_tI (n := sc) (by omega)) d_SW_ordered_19 (by decide) (fun c_19 => ?_) (fun c_19 => ?_)
  · refine lv_aload_n hx hb d_SW_ordered_24 rfl (lv_at hl 0 rfl) ?_
    refine va_get (D := (dC, dI)) (ci := 6) (v := .ref q) (C := R_SW) (T := F_SW) (N := 7) hx hb hts in_SW hown hK hP 0 rfl rfl 4 (by decide) (hts _ m_226) (fun _ h9 => h9) rfl d_SW_ordered_25 ?_
    refine lv_aload_n hx hb d_SW_ordered_28 rfl (lv_at hl 0 rfl) ?_
    refine va_get (D := (dC, dI)) (ci := 6) (v := .ref qa) (C := R_SW) (T := F_SW) (N := 7) hx hb hts in_SW hown hK hP 0 rfl rfl 5 (by decide) (hts _ m_227) (fun _ h9 => h9) rfl d_SW_ordered_29 ?_
    refine lv_aload_n hx hb d_SW_ordered_32 rfl (lv_at hl 0 rfl) ?_
    refine va_get (D := (dC, dI)) (ci := 6) (v := .int (nI sc)) (C := R_SW) (T := F_SW) (N := 7) hx hb hts in_SW hown hK hP 0 rfl rfl 6 (by decide) (hts _ m_228) (fun _ h9 => h9) rfl d_SW_ordered_33 ?_
    have hPc := hP.part (cx := [(q, .inr (3, [.ref qn, .int (nI tt), .int (nI sk), .ref qs, .ref qf])), (qn, .inl (cI, 9, .inl (aN nm))), (qs, .inl (cI, 81, .inl (aN sp))), (qf, .inl (cI, 4608, .inl (aN fw))), (qa, .inl (cS, 9, .inr (.inr (.inr (.inr su)))))]) [1, 2, 3, 4, 5] rfl
    have hDc := hD.part (cx := [(q, .inr (3, [.ref qn, .int (nI tt), .int (nI sk), .ref qs, .ref qf])), (qn, .inl (cI, 9, .inl (aN nm))), (qs, .inl (cI, 81, .inl (aN sp))), (qf, .inl (cI, 4608, .inl (aN fw))), (qa, .inl (cS, 9, .inr (.inr (.inr (.inr su)))))]) [1, 2, 3, 4, 5] (by decide) rfl
    have hFc := va_freeP (cx := [(q, .inr (3, [.ref qn, .int (nI tt), .int (nI sk), .ref qs, .ref qf])), (qn, .inl (cI, 9, .inl (aN nm))), (qs, .inl (cI, 81, .inl (aN sp))), (qf, .inl (cI, 4608, .inl (aN fw))), (qa, .inl (cS, 9, .inr (.inr (.inr (.inr su)))))]) hD hS hA [1, 2, 3, 4, 5] rfl
    refine va_callv (va_runV (As := [.ref qa, .int (nI sc)]) (rest := []) ⟨hx, hb, hml, hown, hts⟩ (c_SQ_find l dC dI s.heap.size q qn qs qf cI cS qa nm sp fw su ad sa sv tt sk sc hsc hsu hko hk) (cwV 2 hts (gw_V m_274 m_275 m_276 m_6 m_277) rfl rfl rfl (by decide +kernel) ⟨Nat.le_of_ble_eq_true rfl, Nat.le_of_ble_eq_true rfl⟩) ⟨rw_blind, va_recv hK hPc (ci := 3) (q0 := 0) rfl rfl, fun U hU hW => ⟨rfl, by rw [hU], by rw [hU]; exact hPc, va_K.moved hW.alike hK, hDc.weaken (fun _ _ _ _ => trivial)⟩⟩ rfl rfl hl.1 rfl (lv_room (Nat.le_of_ble_eq_true rfl)) d_SW_ordered_36 ⟨Nat.le_of_ble_eq_true rfl, Nat.le_of_ble_eq_true rfl⟩) hS (fun q _ h => hFc q h) hFc (fun u t H1 locs ht hvm hw hB hz1 hk1 hS => ?_)
    obtain ⟨tt1, sk1, nm1, sp1, fw1⟩ := u
    obtain ⟨hP1, hK1, hD1⟩ := hB
    rw [ht] at hP1
    try dsimp only at hw
    obtain ⟨hP, hD⟩ := va_joinP (wr := [(x0, .inr (6, [.ref k0, .ref v0, .ref a0, .ref j0, .ref q, .ref qa, .int (nI sc)]))]) (rx := [(q, .inr (3, [.ref qn, .int (nI tt1), .int (nI sk1), .ref qs, .ref qf])), (qn, .inl (cI, 9, .inl (aN nm1))), (qs, .inl (cI, 81, .inl (aN sp1))), (qf, .inl (cI, 4608, .inl (aN fw1))), (qa, .inl (cS, 9, .inr (.inr (.inr (.inr su)))))]) hP hD [1, 2, 3, 4, 5] [0] rfl rfl (by decide) (by decide) hk1 hFc hP1 hD1
    generalize H1 = H at hP hS ⊢
    have hP : va_P (dC, dI) vwCl ([(x0, .inr (6, [.ref k0, .ref v0, .ref a0, .ref j0, .ref q, .ref qa, .int (nI sc)])), (q, .inr (3, [.ref qn, .int (nI tt1), .int (nI sk1), .ref qs, .ref qf])), (qn, .inl (cI, 9, .inl (aN nm1))), (qs, .inl (cI, 81, .inl (aN sp1))), (qf, .inl (cI, 4608, .inl (aN fw1))), (qa, .inl (cS, 9, .inr (.inr (.inr (.inr su)))))] ++ suT cI ad sa sv 9) H := hP.part [0, 1, 2, 3, 4, 5] rfl
    have hD : va_D A ([(x0, .inr (6, [.ref k0, .ref v0, .ref a0, .ref j0, .ref q, .ref qa, .int (nI sc)])), (q, .inr (3, [.ref qn, .int (nI tt1), .int (nI sk1), .ref qs, .ref qf])), (qn, .inl (cI, 9, .inl (aN nm1))), (qs, .inl (cI, 81, .inl (aN sp1))), (qf, .inl (cI, 4608, .inl (aN fw1))), (qa, .inl (cS, 9, .inr (.inr (.inr (.inr su)))))] ++ suT cI ad sa sv 9) := hD.part [0, 1, 2, 3, 4, 5] (by decide) rfl
    obtain ⟨hk1, hGo⟩ := hw
    refine lv_aload_n hx hb d_SW_ordered_39 rfl (lv_at hl 0 rfl) ?_
    refine va_get (D := (dC, dI)) (ci := 6) (v := .ref q) (C := R_SW) (T := F_SW) (N := 7) hx hb hts in_SW hown hK hP 0 rfl rfl 4 (by decide) (hts _ m_226) (fun _ h9 => h9) rfl d_SW_ordered_40 ?_
    refine va_get (D := (dC, dI)) (ci := 3) (v := .ref qn) (C := R_SQ) (T := F_SQ) (N := 5) hx hb hts in_SQ hown hK hP 1 rfl rfl 0 (by decide) (hts _ m_158) (fun _ h9 => h9) rfl d_SW_ordered_43 ?_
    refine lv_iload_n hx hb d_SW_ordered_46 rfl (lv_at hl 1 rfl) ?_
    refine lv_topr (show _ = nI a1.toNat from z_toN (by omega)) ?_
    refine ix_ialdN (i := a1.toNat) hx hb hK hP 2 0 rfl rfl (by omega) (by decide) d_SW_ordered_47 ?_
    exact W.iret (v := nI (nm1 a1.toNat)) hx hb hr (fun t ht hW => ⟨⟨nI (nm1 a1.toNat), (tt1, sk1, nm1, sp1, fw1), rfl, ⟨fun q => absurd q (by omega), fun _ => rfl, Or.inr ⟨hk1, hGo⟩, fun _ => hGo⟩, by rw [ht]; exact hP, va_K.moved hW.alike hK, hD⟩, hS.F ht⟩) hS.2.2 d_SW_ordered_48
  refine lv_iconst (v := zI (-1)) hx hb d_SW_ordered_22 (by decide +kernel) ?_
  exact W.iret (v := zI (-1)) hx hb hr (fun t ht hW => ⟨⟨zI (-1), (tt, sk, nm, sp, fw), rfl, ⟨fun _ => rfl, fun q => absurd q (by omega), hk, fun q => absurd q (by omega)⟩, by rw [ht]; exact hP, va_K.moved hW.alike hK, hD⟩, hS.F ht⟩) hS.2.2 d_SW_ordered_23
