set_option maxHeartbeats 4000000 in
set_option maxRecDepth 100000 in
/-- setKnife(place) -/
theorem c_SU_setKnife (l : Launch) (dC : Nat → ClassId) (dI : Nat → Nat → Nat) (sz : Nat) (o on ob oe ok : Nat) (cI : ClassId) (kp : Nat → Nat) (sc lf kc wi kg tr sp : Nat) (x9 : Nat) (h1 : kc < 60) (h2 : x9 < 2147483648) (h3 : 0 < kc → kp (kc - 1) < 2147483648) : Met l y_SU_setKnife w_SU_setKnife { frames := 0, cells := 0, slots := 0, locals := 0 } (rw_Pc (dC, dI) vwCl [(cI, .int)] sz [.ref o, .int (nI x9)] [(o, .inr (4, [.ref on, .ref ob, .ref oe, .int (nI sc), .int (nI lf), .ref ok, .int (nI kc), .int (nI wi), .int (nI kg), .int (nI tr), .int (nI sp)])), (ok, .inl (cI, 60, .inl (aN kp)))]) (va_Qv (fun (u : Nat × (Nat → Nat)) => (u.1, u.2) = skn kc kp x9) (rw_B (dC, dI) vwCl [(cI, .int)] (va_A [(o, .inr (4, [.ref on, .ref ob, .ref oe, .int (nI sc), .int (nI lf), .ref ok, .int (nI kc), .int (nI wi), .int (nI kg), .int (nI tr), .int (nI sp)])), (ok, .inl (cI, 60, .inl (aN kp)))] sz) (fun u : Nat × (Nat → Nat) => [(o, .inr (4, [.ref on, .ref ob, .ref oe, .int (nI sc), .int (nI lf), .ref ok, .int (nI u.1), .int (nI wi), .int (nI kg), .int (nI tr), .int (nI sp)])), (ok, .inl (cI, 60, .inl (aN u.2)))])) (va_A [(o, .inr (4, [.ref on, .ref ob, .ref oe, .int (nI sc), .int (nI lf), .ref ok, .int (nI kc), .int (nI wi), .int (nI kg), .int (nI tr), .int (nI sp)])), (ok, .inl (cI, 60, .inl (aN kp)))] sz)) 0 0 (va_A [(o, .inr (4, [.ref on, .ref ob, .ref oe, .int (nI sc), .int (nI lf), .ref ok, .int (nI kc), .int (nI wi), .int (nI kg), .int (nI tr), .int (nI sp)])), (ok, .inl (cI, 60, .inl (aN kp)))] sz) := by
  refine Met.ofW (cc := b_SU_setKnife) (maxL := 3) (ret := none) (by decide) rfl ?_
  intro p e s m args below meth c s₁ B hml hv
  obtain ⟨rfl, hsz, hP, hK, hD0⟩ := hv
  have hx := B.exec
  have hb := B.bytes
  have hr := B.returns
  have hts := gw_h (atoms_spec (ws := w_SU_setKnife) B.pre)
  have hown : s.vm.findClass R_SU = some m.cls := findClass_of_methodNamed B.named
  have hlocks := B.notSynchronized
  subst hsz
  have hD := hD0.self (sz := s.heap.size)
  generalize hAe : va_A [(o, .inr (4, [.ref on, .ref ob, .ref oe, .int (nI sc), .int (nI lf), .ref ok, .int (nI kc), .int (nI wi), .int (nI kg), .int (nI tr), .int (nI sp)])), (ok, .inl (cI, 60, .inl (aN kp)))] s.heap.size = A at hD ⊢
  have hA : ∀ q : Nat, s.heap.size ≤ q → A q := fun q h => by rw [← hAe]; exact Or.inr h
  have hS : va_S A s.heap s.heap [] := va_S.rf
  have hP : va_P (dC, dI) vwCl [(o, .inr (4, [.ref on, .ref ob, .ref oe, .int (nI sc), .int (nI lf), .ref ok, .int (nI kc), .int (nI wi), .int (nI kg), .int (nI tr), .int (nI sp)])), (ok, .inl (cI, 60, .inl (aN kp)))] s.heap := hP
  have hl := lv_entry ([.ref o, .int (nI x9)]) (n := 3) (Nat.le_of_ble_eq_true rfl)
  rw [lg_entry_eq]
  generalize (lg_sl ([.ref o, .int (nI x9)]) ++ List.replicate (3 - (lg_sl ([.ref o, .int (nI x9)])).length) Slot.unset).toArray = ls at hl ⊢
  have hl : lv_has ls 3 [(0, .ref o), (1, .int (nI x9))] := hl
  refine lv_aload_n hx hb d_SU_setKnife_0 rfl (lv_at hl 0 rfl) ?_
  refine va_get (D := (dC, dI)) (ci := 4) (v := .int (nI kc)) (C := R_SU) (T := F_SU) (N := 11) hx hb hts in_SU hown hK hP 0 rfl rfl 6 (by decide) (hts _ m_194) (fun _ h9 => h9) rfl d_SU_setKnife_1 ?_
  refine ix_if_le (tgt := 26) hx hb (nI_tI (n := kc) (by omega)) d_SU_setKnife_4 (by decide) (fun c_4 => ?_) (fun c_4 => ?_)
  · refine lv_iconst (v := nI 0) hx hb d_SU_setKnife_26 (by decide +kernel) ?_
    refine lv_istore_n (lv' := [(2, .int (nI 0)), (0, .ref o), (1, .int (nI x9))]) hx hb d_SU_setKnife_27 rfl hl (by decide) rfl (fun ls hl => ?_)
    refine lv_iload_n hx hb d_SU_setKnife_28 rfl (lv_at hl 0 rfl) ?_
    refine ix_if_ne (tgt := 64) hx hb (nI_tI (n := 0) (by omega)) d_SU_setKnife_29 (by decide) (fun c_29 => absurd c_29 (by omega)) (fun c_29 => ?_)
    refine lv_aload_n hx hb d_SU_setKnife_32 rfl (lv_at hl 1 rfl) ?_
    refine va_get (D := (dC, dI)) (ci := 4) (v := .int (nI kc)) (C := R_SU) (T := F_SU) (N := 11) hx hb hts in_SU hown hK hP 0 rfl rfl 6 (by decide) (hts _ m_194) (fun _ h9 => h9) rfl d_SU_setKnife_33 ?_
    refine lv_aload_n hx hb d_SU_setKnife_36 rfl (lv_at hl 1 rfl) ?_
    refine va_get (D := (dC, dI)) (ci := 4) (v := .ref ok) (C := R_SU) (T := F_SU) (N := 11) hx hb hts in_SU hown hK hP 0 rfl rfl 5 (by decide) (hts _ m_193) (fun _ h9 => h9) rfl d_SU_setKnife_37 ?_
    refine va_alen (v := nI 60) hx hb hK hP 1 0 rfl rfl rfl d_SU_setKnife_40 ?_
    refine ix_icmp_ge (tgt := 64) hx hb (nI_tI (n := kc) (by omega)) (nI_tI (n := 60) (by omega)) d_SU_setKnife_41 (by decide) (fun c_41 => absurd c_41 (by omega)) (fun c_41 => ?_)
    refine lv_aload_n hx hb d_SU_setKnife_44 rfl (lv_at hl 1 rfl) ?_
    refine va_get (D := (dC, dI)) (ci := 4) (v := .ref ok) (C := R_SU) (T := F_SU) (N := 11) hx hb hts in_SU hown hK hP 0 rfl rfl 5 (by decide) (hts _ m_193) (fun _ h9 => h9) rfl d_SU_setKnife_45 ?_
    refine lv_aload_n hx hb d_SU_setKnife_48 rfl (lv_at hl 1 rfl) ?_
    refine va_get (D := (dC, dI)) (ci := 4) (v := .int (nI kc)) (C := R_SU) (T := F_SU) (N := 11) hx hb hts in_SU hown hK hP 0 rfl rfl 6 (by decide) (hts _ m_194) (fun _ h9 => h9) rfl d_SU_setKnife_49 ?_
    refine lv_iload_n hx hb d_SU_setKnife_52 rfl (lv_at hl 2 rfl) ?_
    refine ix_iast (i := kc) hx hb hK hP hD hS 1 0 rfl rfl (by omega) (by decide) d_SU_setKnife_53 (fun H locs hP hD hS => ?_)
    have hP : va_P (dC, dI) vwCl [(o, .inr (4, [.ref on, .ref ob, .ref oe, .int (nI sc), .int (nI lf), .ref ok, .int (nI kc), .int (nI wi), .int (nI kg), .int (nI tr), .int (nI sp)])), (ok, .inl (cI, 60, .inl (aN (up kp kc x9))))] H := hP
    have hD : va_D A [(o, .inr (4, [.ref on, .ref ob, .ref oe, .int (nI sc), .int (nI lf), .ref ok, .int (nI kc), .int (nI wi), .int (nI kg), .int (nI tr), .int (nI sp)])), (ok, .inl (cI, 60, .inl (aN (up kp kc x9))))] := hD
    refine lv_aload_n hx hb d_SU_setKnife_54 rfl (lv_at hl 1 rfl) ?_
    refine lv_dup hx hb d_SU_setKnife_55 rfl ?_
    refine va_get (D := (dC, dI)) (ci := 4) (v := .int (nI kc)) (C := R_SU) (T := F_SU) (N := 11) hx hb hts in_SU hown hK hP 0 rfl rfl 6 (by decide) (hts _ m_194) (fun _ h9 => h9) rfl d_SU_setKnife_56 ?_
    refine lv_iconst (v := nI 1) hx hb d_SU_setKnife_59 (by decide +kernel) ?_
    refine lv_iadd hx hb d_SU_setKnife_60 ?_
    refine lv_topr (show _ = nI (kc + 1) from nn_add _ _) ?_
    refine va_put (D := (dC, dI)) (ci := 4) (v := .int (nI (kc + 1))) (ty := .int) (C := R_SU) (T := F_SU) (N := 11) hx hb hts in_SU t_SU t_SU_ok n_SU hown hK hP hD hS 0 rfl rfl 6 (by decide) (hts _ m_194) (fun _ h9 => h9) rfl (by decide +kernel) rfl rfl (Nat.le_of_ble_eq_true rfl) d_SU_setKnife_61 (fun H locs hP hD hS => ?_)
    have hP : va_P (dC, dI) vwCl [(o, .inr (4, [.ref on, .ref ob, .ref oe, .int (nI sc), .int (nI lf), .ref ok, .int (nI (kc + 1)), .int (nI wi), .int (nI kg), .int (nI tr), .int (nI sp)])), (ok, .inl (cI, 60, .inl (aN (up kp kc x9))))] H := hP
    have hD : va_D A [(o, .inr (4, [.ref on, .ref ob, .ref oe, .int (nI sc), .int (nI lf), .ref ok, .int (nI (kc + 1)), .int (nI wi), .int (nI kg), .int (nI tr), .int (nI sp)])), (ok, .inl (cI, 60, .inl (aN (up kp kc x9))))] := hD
    exact W.vret hx hb hr (fun t ht hW => ⟨⟨(kc + 1, up kp kc x9), rfl, (skn_out (kc := kc) (kp := kp) (x := x9) (by omega)).symm, by rw [ht]; exact hP, va_K.moved hW.alike hK, hD⟩, hS.F ht⟩) hS.2.2 d_SU_setKnife_64
  have h3a := h3 (by omega)
  refine lv_aload_n hx hb d_SU_setKnife_7 rfl (lv_at hl 0 rfl) ?_
  refine va_get (D := (dC, dI)) (ci := 4) (v := .ref ok) (C := R_SU) (T := F_SU) (N := 11) hx hb hts in_SU hown hK hP 0 rfl rfl 5 (by decide) (hts _ m_193) (fun _ h9 => h9) rfl d_SU_setKnife_8 ?_
  refine lv_aload_n hx hb d_SU_setKnife_11 rfl (lv_at hl 0 rfl) ?_
  refine va_get (D := (dC, dI)) (ci := 4) (v := .int (nI kc)) (C := R_SU) (T := F_SU) (N := 11) hx hb hts in_SU hown hK hP 0 rfl rfl 6 (by decide) (hts _ m_194) (fun _ h9 => h9) rfl d_SU_setKnife_12 ?_
  refine lv_iconst (v := nI 1) hx hb d_SU_setKnife_15 (by decide +kernel) ?_
  refine lv_isub hx hb d_SU_setKnife_16 ?_
  refine lv_topr (show _ = nI (kc - 1) from nn_subN (by omega)) ?_
  refine ix_ialdN (i := kc - 1) hx hb hK hP 1 0 rfl rfl (by omega) (by decide) d_SU_setKnife_17 ?_
  refine lv_iload_n hx hb d_SU_setKnife_18 rfl (lv_at hl 1 rfl) ?_
  refine ix_icmp_ne (tgt := 26) hx hb (nI_tI (n := kp (kc - 1)) (by omega)) (nI_tI (n := x9) (by omega)) d_SU_setKnife_19 (by decide) (fun c_19 => ?_) (fun c_19 => ?_)
  · refine lv_iconst (v := nI 0) hx hb d_SU_setKnife_26 (by decide +kernel) ?_
    refine lv_istore_n (lv' := [(2, .int (nI 0)), (0, .ref o), (1, .int (nI x9))]) hx hb d_SU_setKnife_27 rfl hl (by decide) rfl (fun ls hl => ?_)
    refine lv_iload_n hx hb d_SU_setKnife_28 rfl (lv_at hl 0 rfl) ?_
    refine ix_if_ne (tgt := 64) hx hb (nI_tI (n := 0) (by omega)) d_SU_setKnife_29 (by decide) (fun c_29 => absurd c_29 (by omega)) (fun c_29 => ?_)
    refine lv_aload_n hx hb d_SU_setKnife_32 rfl (lv_at hl 1 rfl) ?_
    refine va_get (D := (dC, dI)) (ci := 4) (v := .int (nI kc)) (C := R_SU) (T := F_SU) (N := 11) hx hb hts in_SU hown hK hP 0 rfl rfl 6 (by decide) (hts _ m_194) (fun _ h9 => h9) rfl d_SU_setKnife_33 ?_
    refine lv_aload_n hx hb d_SU_setKnife_36 rfl (lv_at hl 1 rfl) ?_
    refine va_get (D := (dC, dI)) (ci := 4) (v := .ref ok) (C := R_SU) (T := F_SU) (N := 11) hx hb hts in_SU hown hK hP 0 rfl rfl 5 (by decide) (hts _ m_193) (fun _ h9 => h9) rfl d_SU_setKnife_37 ?_
    refine va_alen (v := nI 60) hx hb hK hP 1 0 rfl rfl rfl d_SU_setKnife_40 ?_
    refine ix_icmp_ge (tgt := 64) hx hb (nI_tI (n := kc) (by omega)) (nI_tI (n := 60) (by omega)) d_SU_setKnife_41 (by decide) (fun c_41 => absurd c_41 (by omega)) (fun c_41 => ?_)
    refine lv_aload_n hx hb d_SU_setKnife_44 rfl (lv_at hl 1 rfl) ?_
    refine va_get (D := (dC, dI)) (ci := 4) (v := .ref ok) (C := R_SU) (T := F_SU) (N := 11) hx hb hts in_SU hown hK hP 0 rfl rfl 5 (by decide) (hts _ m_193) (fun _ h9 => h9) rfl d_SU_setKnife_45 ?_
    refine lv_aload_n hx hb d_SU_setKnife_48 rfl (lv_at hl 1 rfl) ?_
    refine va_get (D := (dC, dI)) (ci := 4) (v := .int (nI kc)) (C := R_SU) (T := F_SU) (N := 11) hx hb hts in_SU hown hK hP 0 rfl rfl 6 (by decide) (hts _ m_194) (fun _ h9 => h9) rfl d_SU_setKnife_49 ?_
    refine lv_iload_n hx hb d_SU_setKnife_52 rfl (lv_at hl 2 rfl) ?_
    refine ix_iast (i := kc) hx hb hK hP hD hS 1 0 rfl rfl (by omega) (by decide) d_SU_setKnife_53 (fun H locs hP hD hS => ?_)
    have hP : va_P (dC, dI) vwCl [(o, .inr (4, [.ref on, .ref ob, .ref oe, .int (nI sc), .int (nI lf), .ref ok, .int (nI kc), .int (nI wi), .int (nI kg), .int (nI tr), .int (nI sp)])), (ok, .inl (cI, 60, .inl (aN (up kp kc x9))))] H := hP
    have hD : va_D A [(o, .inr (4, [.ref on, .ref ob, .ref oe, .int (nI sc), .int (nI lf), .ref ok, .int (nI kc), .int (nI wi), .int (nI kg), .int (nI tr), .int (nI sp)])), (ok, .inl (cI, 60, .inl (aN (up kp kc x9))))] := hD
    refine lv_aload_n hx hb d_SU_setKnife_54 rfl (lv_at hl 1 rfl) ?_
    refine lv_dup hx hb d_SU_setKnife_55 rfl ?_
    refine va_get (D := (dC, dI)) (ci := 4) (v := .int (nI kc)) (C := R_SU) (T := F_SU) (N := 11) hx hb hts in_SU hown hK hP 0 rfl rfl 6 (by decide) (hts _ m_194) (fun _ h9 => h9) rfl d_SU_setKnife_56 ?_
    refine lv_iconst (v := nI 1) hx hb d_SU_setKnife_59 (by decide +kernel) ?_
    refine lv_iadd hx hb d_SU_setKnife_60 ?_
    refine lv_topr (show _ = nI (kc + 1) from nn_add _ _) ?_
    refine va_put (D := (dC, dI)) (ci := 4) (v := .int (nI (kc + 1))) (ty := .int) (C := R_SU) (T := F_SU) (N := 11) hx hb hts in_SU t_SU t_SU_ok n_SU hown hK hP hD hS 0 rfl rfl 6 (by decide) (hts _ m_194) (fun _ h9 => h9) rfl (by decide +kernel) rfl rfl (Nat.le_of_ble_eq_true rfl) d_SU_setKnife_61 (fun H locs hP hD hS => ?_)
    have hP : va_P (dC, dI) vwCl [(o, .inr (4, [.ref on, .ref ob, .ref oe, .int (nI sc), .int (nI lf), .ref ok, .int (nI (kc + 1)), .int (nI wi), .int (nI kg), .int (nI tr), .int (nI sp)])), (ok, .inl (cI, 60, .inl (aN (up kp kc x9))))] H := hP
    have hD : va_D A [(o, .inr (4, [.ref on, .ref ob, .ref oe, .int (nI sc), .int (nI lf), .ref ok, .int (nI (kc + 1)), .int (nI wi), .int (nI kg), .int (nI tr), .int (nI sp)])), (ok, .inl (cI, 60, .inl (aN (up kp kc x9))))] := hD
    exact W.vret hx hb hr (fun t ht hW => ⟨⟨(kc + 1, up kp kc x9), rfl, (skn_out (kc := kc) (kp := kp) (x := x9) (by omega)).symm, by rw [ht]; exact hP, va_K.moved hW.alike hK, hD⟩, hS.F ht⟩) hS.2.2 d_SU_setKnife_64
  refine lv_iconst (v := nI 1) hx hb d_SU_setKnife_22 (by decide +kernel) ?_
  refine lv_goto (tgt := 27) hx hb d_SU_setKnife_23 (by decide) ?_
  refine lv_istore_n (lv' := [(2, .int (nI 1)), (0, .ref o), (1, .int (nI x9))]) hx hb d_SU_setKnife_27 rfl hl (by decide) rfl (fun ls hl => ?_)
  refine lv_iload_n hx hb d_SU_setKnife_28 rfl (lv_at hl 0 rfl) ?_
  refine ix_if_ne (tgt := 64) hx hb (nI_tI (n := 1) (by omega)) d_SU_setKnife_29 (by decide) (fun c_29 => ?_) (fun c_29 => absurd c_29 (by omega))
  exact W.vret hx hb hr (fun t ht hW => ⟨⟨(kc, kp), rfl, (skn_in (kc := kc) (kp := kp) (x := x9) (by omega)).symm, by rw [ht]; exact hP, va_K.moved hW.alike hK, hD⟩, hS.F ht⟩) hS.2.2 d_SU_setKnife_64
set_option maxHeartbeats 4000000 in
set_option maxRecDepth 100000 in
/-- lay(number, begin, end) -/
theorem c_SU_lay (l : Launch) (dC : Nat → ClassId) (dI : Nat → Nat → Nat) (sz : Nat) (o on ob oe ok : Nat) (cI : ClassId) (nu bg en kp : Nat → Nat) (sc lf kc wi kg tr sp : Nat) (n9 b9 e9 : Nat) (h0 : sc < 30) (h1 : kc + 2 ≤ 60) (h2 : e9 < 2147483648) (h3 : 0 < kc → kp (kc - 1) < 2147483648) (h4 : b9 < e9) : Met l y_SU_lay w_SU_lay { frames := 1, cells := 0, slots := 0, locals := 22 } (rw_Pc (dC, dI) vwCl [(cI, .int)] sz [.ref o, .int (nI n9), .int (nI b9), .int (nI e9)] [(o, .inr (4, [.ref on, .ref ob, .ref oe, .int (nI sc), .int (nI lf), .ref ok, .int (nI kc), .int (nI wi), .int (nI kg), .int (nI tr), .int (nI sp)])), (on, .inl (cI, 30, .inl (aN nu))), (ob, .inl (cI, 30, .inl (aN bg))), (oe, .inl (cI, 30, .inl (aN en))), (ok, .inl (cI, 60, .inl (aN kp)))]) (va_Qv (fun (u : Nat × (Nat → Nat)) => (u.1, u.2) = skn (skn kc kp b9).1 (skn kc kp b9).2 e9) (rw_B (dC, dI) vwCl [(cI, .int)] (va_A [(o, .inr (4, [.ref on, .ref ob, .ref oe, .int (nI sc), .int (nI lf), .ref ok, .int (nI kc), .int (nI wi), .int (nI kg), .int (nI tr), .int (nI sp)])), (on, .inl (cI, 30, .inl (aN nu))), (ob, .inl (cI, 30, .inl (aN bg))), (oe, .inl (cI, 30, .inl (aN en))), (ok, .inl (cI, 60, .inl (aN kp)))] sz) (fun u : Nat × (Nat → Nat) => [(o, .inr (4, [.ref on, .ref ob, .ref oe, .int (nI (sc + 1)), .int (nI lf), .ref ok, .int (nI u.1), .int (nI wi), .int (nI kg), .int (nI tr), .int (nI sp)])), (on, .inl (cI, 30, .inl (aN (up nu sc n9)))), (ob, .inl (cI, 30, .inl (aN (up bg sc b9)))), (oe, .inl (cI, 30, .inl (aN (up en sc e9)))), (ok, .inl (cI, 60, .inl (aN u.2)))])) (va_A [(o, .inr (4, [.ref on, .ref ob, .ref oe, .int (nI sc), .int (nI lf), .ref ok, .int (nI kc), .int (nI wi), .int (nI kg), .int (nI tr), .int (nI sp)])), (on, .inl (cI, 30, .inl (aN nu))), (ob, .inl (cI, 30, .inl (aN bg))), (oe, .inl (cI, 30, .inl (aN en))), (ok, .inl (cI, 60, .inl (aN kp)))] sz)) 0 0 (va_A [(o, .inr (4, [.ref on, .ref ob, .ref oe, .int (nI sc), .int (nI lf), .ref ok, .int (nI kc), .int (nI wi), .int (nI kg), .int (nI tr), .int (nI sp)])), (on, .inl (cI, 30, .inl (aN nu))), (ob, .inl (cI, 30, .inl (aN bg))), (oe, .inl (cI, 30, .inl (aN en))), (ok, .inl (cI, 60, .inl (aN kp)))] sz) := by
  refine Met.ofW (cc := b_SU_lay) (maxL := 4) (ret := none) (by decide) rfl ?_
  intro p e s m args below meth c s₁ B hml hv
  obtain ⟨rfl, hsz, hP, hK, hD0⟩ := hv
  have hx := B.exec
  have hb := B.bytes
  have hr := B.returns
  have hts := gw_h (atoms_spec (ws := w_SU_lay) B.pre)
  have hown : s.vm.findClass R_SU = some m.cls := findClass_of_methodNamed B.named
  have hlocks := B.notSynchronized
  subst hsz
  have hD := hD0.self (sz := s.heap.size)
  generalize hAe : va_A [(o, .inr (4, [.ref on, .ref ob, .ref oe, .int (nI sc), .int (nI lf), .ref ok, .int (nI kc), .int (nI wi), .int (nI kg), .int (nI tr), .int (nI sp)])), (on, .inl (cI, 30, .inl (aN nu))), (ob, .inl (cI, 30, .inl (aN bg))), (oe, .inl (cI, 30, .inl (aN en))), (ok, .inl (cI, 60, .inl (aN kp)))] s.heap.size = A at hD ⊢
  have hA : ∀ q : Nat, s.heap.size ≤ q → A q := fun q h => by rw [← hAe]; exact Or.inr h
  have hS : va_S A s.heap s.heap [] := va_S.rf
  have hP : va_P (dC, dI) vwCl [(o, .inr (4, [.ref on, .ref ob, .ref oe, .int (nI sc), .int (nI lf), .ref ok, .int (nI kc), .int (nI wi), .int (nI kg), .int (nI tr), .int (nI sp)])), (on, .inl (cI, 30, .inl (aN nu))), (ob, .inl (cI, 30, .inl (aN bg))), (oe, .inl (cI, 30, .inl (aN en))), (ok, .inl (cI, 60, .inl (aN kp)))] s.heap := hP
  have hl := lv_entry ([.ref o, .int (nI n9), .int (nI b9), .int (nI e9)]) (n := 4) (Nat.le_of_ble_eq_true rfl)
  rw [lg_entry_eq]
  generalize (lg_sl ([.ref o, .int (nI n9), .int (nI b9), .int (nI e9)]) ++ List.replicate (4 - (lg_sl ([.ref o, .int (nI n9), .int (nI b9), .int (nI e9)])).length) Slot.unset).toArray = ls at hl ⊢
  have hl : lv_has ls 4 [(0, .ref o), (1, .int (nI n9)), (2, .int (nI b9)), (3, .int (nI e9))] := hl
  refine lv_aload_n hx hb d_SU_lay_0 rfl (lv_at hl 0 rfl) ?_
  refine va_get (D := (dC, dI)) (ci := 4) (v := .int (nI sc)) (C := R_SU) (T := F_SU) (N := 11) hx hb hts in_SU hown hK hP 0 rfl rfl 3 (by decide) (hts _ m_189) (fun _ h9 => h9) rfl d_SU_lay_1 ?_
  refine lv_bipush (v := nI 30) hx hb d_SU_lay_4 (by decide +kernel) ?_
  refine ix_icmp_lt (tgt := 10) hx hb (nI_tI (n := sc) (by omega)) (nI_tI (n := 30) (by omega)) d_SU_lay_6 (by decide) (fun c_6 => ?_) (fun c_6 => absurd c_6 (by omega))
  refine lv_aload_n hx hb d_SU_lay_10 rfl (lv_at hl 0 rfl) ?_
  refine va_get (D := (dC, dI)) (ci := 4) (v := .ref on) (C := R_SU) (T := F_SU) (N := 11) hx hb hts in_SU hown hK hP 0 rfl rfl 0 (by decide) (hts _ m_183) (fun _ h9 => h9) rfl d_SU_lay_11 ?_
  refine lv_aload_n hx hb d_SU_lay_14 rfl (lv_at hl 0 rfl) ?_
  refine va_get (D := (dC, dI)) (ci := 4) (v := .int (nI sc)) (C := R_SU) (T := F_SU) (N := 11) hx hb hts in_SU hown hK hP 0 rfl rfl 3 (by decide) (hts _ m_189) (fun _ h9 => h9) rfl d_SU_lay_15 ?_
  refine lv_iload_n hx hb d_SU_lay_18 rfl (lv_at hl 1 rfl) ?_
  refine ix_iast (i := sc) hx hb hK hP hD hS 1 0 rfl rfl (by omega) (by decide) d_SU_lay_19 (fun H locs hP hD hS => ?_)
  have hP : va_P (dC, dI) vwCl [(o, .inr (4, [.ref on, .ref ob, .ref oe, .int (nI sc), .int (nI lf), .ref ok, .int (nI kc), .int (nI wi), .int (nI kg), .int (nI tr), .int (nI sp)])), (on, .inl (cI, 30, .inl (aN (up nu sc n9)))), (ob, .inl (cI, 30, .inl (aN bg))), (oe, .inl (cI, 30, .inl (aN en))), (ok, .inl (cI, 60, .inl (aN kp)))] H := hP
  have hD : va_D A [(o, .inr (4, [.ref on, .ref ob, .ref oe, .int (nI sc), .int (nI lf), .ref ok, .int (nI kc), .int (nI wi), .int (nI kg), .int (nI tr), .int (nI sp)])), (on, .inl (cI, 30, .inl (aN (up nu sc n9)))), (ob, .inl (cI, 30, .inl (aN bg))), (oe, .inl (cI, 30, .inl (aN en))), (ok, .inl (cI, 60, .inl (aN kp)))] := hD
  refine lv_aload_n hx hb d_SU_lay_20 rfl (lv_at hl 0 rfl) ?_
  refine va_get (D := (dC, dI)) (ci := 4) (v := .ref ob) (C := R_SU) (T := F_SU) (N := 11) hx hb hts in_SU hown hK hP 0 rfl rfl 1 (by decide) (hts _ m_185) (fun _ h9 => h9) rfl d_SU_lay_21 ?_
  refine lv_aload_n hx hb d_SU_lay_24 rfl (lv_at hl 0 rfl) ?_
  refine va_get (D := (dC, dI)) (ci := 4) (v := .int (nI sc)) (C := R_SU) (T := F_SU) (N := 11) hx hb hts in_SU hown hK hP 0 rfl rfl 3 (by decide) (hts _ m_189) (fun _ h9 => h9) rfl d_SU_lay_25 ?_
  refine lv_iload_n hx hb d_SU_lay_28 rfl (lv_at hl 2 rfl) ?_
  refine ix_iast (i := sc) hx hb hK hP hD hS 2 0 rfl rfl (by omega) (by decide) d_SU_lay_29 (fun H locs hP hD hS => ?_)
  have hP : va_P (dC, dI) vwCl [(o, .inr (4, [.ref on, .ref ob, .ref oe, .int (nI sc), .int (nI lf), .ref ok, .int (nI kc), .int (nI wi), .int (nI kg), .int (nI tr), .int (nI sp)])), (on, .inl (cI, 30, .inl (aN (up nu sc n9)))), (ob, .inl (cI, 30, .inl (aN (up bg sc b9)))), (oe, .inl (cI, 30, .inl (aN en))), (ok, .inl (cI, 60, .inl (aN kp)))] H := hP
  have hD : va_D A [(o, .inr (4, [.ref on, .ref ob, .ref oe, .int (nI sc), .int (nI lf), .ref ok, .int (nI kc), .int (nI wi), .int (nI kg), .int (nI tr), .int (nI sp)])), (on, .inl (cI, 30, .inl (aN (up nu sc n9)))), (ob, .inl (cI, 30, .inl (aN (up bg sc b9)))), (oe, .inl (cI, 30, .inl (aN en))), (ok, .inl (cI, 60, .inl (aN kp)))] := hD
  refine lv_aload_n hx hb d_SU_lay_30 rfl (lv_at hl 0 rfl) ?_
  refine va_get (D := (dC, dI)) (ci := 4) (v := .ref oe) (C := R_SU) (T := F_SU) (N := 11) hx hb hts in_SU hown hK hP 0 rfl rfl 2 (by decide) (hts _ m_187) (fun _ h9 => h9) rfl d_SU_lay_31 ?_
  refine lv_aload_n hx hb d_SU_lay_34 rfl (lv_at hl 0 rfl) ?_
  refine va_get (D := (dC, dI)) (ci := 4) (v := .int (nI sc)) (C := R_SU) (T := F_SU) (N := 11) hx hb hts in_SU hown hK hP 0 rfl rfl 3 (by decide) (hts _ m_189) (fun _ h9 => h9) rfl d_SU_lay_35 ?_
  refine lv_iload_n hx hb d_SU_lay_38 rfl (lv_at hl 3 rfl) ?_
  refine ix_iast (i := sc) hx hb hK hP hD hS 3 0 rfl rfl (by omega) (by decide) d_SU_lay_39 (fun H locs hP hD hS => ?_)
  have hP : va_P (dC, dI) vwCl [(o, .inr (4, [.ref on, .ref ob, .ref oe, .int (nI sc), .int (nI lf), .ref ok, .int (nI kc), .int (nI wi), .int (nI kg), .int (nI tr), .int (nI sp)])), (on, .inl (cI, 30, .inl (aN (up nu sc n9)))), (ob, .inl (cI, 30, .inl (aN (up bg sc b9)))), (oe, .inl (cI, 30, .inl (aN (up en sc e9)))), (ok, .inl (cI, 60, .inl (aN kp)))] H := hP
  have hD : va_D A [(o, .inr (4, [.ref on, .ref ob, .ref oe, .int (nI sc), .int (nI lf), .ref ok, .int (nI kc), .int (nI wi), .int (nI kg), .int (nI tr), .int (nI sp)])), (on, .inl (cI, 30, .inl (aN (up nu sc n9)))), (ob, .inl (cI, 30, .inl (aN (up bg sc b9)))), (oe, .inl (cI, 30, .inl (aN (up en sc e9)))), (ok, .inl (cI, 60, .inl (aN kp)))] := hD
  refine lv_aload_n hx hb d_SU_lay_40 rfl (lv_at hl 0 rfl) ?_
  refine lv_dup hx hb d_SU_lay_41 rfl ?_
  refine va_get (D := (dC, dI)) (ci := 4) (v := .int (nI sc)) (C := R_SU) (T := F_SU) (N := 11) hx hb hts in_SU hown hK hP 0 rfl rfl 3 (by decide) (hts _ m_189) (fun _ h9 => h9) rfl d_SU_lay_42 ?_
  refine lv_iconst (v := nI 1) hx hb d_SU_lay_45 (by decide +kernel) ?_
  refine lv_iadd hx hb d_SU_lay_46 ?_
  refine lv_topr (show _ = nI (sc + 1) from nn_add _ _) ?_
  refine va_put (D := (dC, dI)) (ci := 4) (v := .int (nI (sc + 1))) (ty := .int) (C := R_SU) (T := F_SU) (N := 11) hx hb hts in_SU t_SU t_SU_ok n_SU hown hK hP hD hS 0 rfl rfl 3 (by decide) (hts _ m_189) (fun _ h9 => h9) rfl (by decide +kernel) rfl rfl (Nat.le_of_ble_eq_true rfl) d_SU_lay_47 (fun H locs hP hD hS => ?_)
  have hP : va_P (dC, dI) vwCl [(o, .inr (4, [.ref on, .ref ob, .ref oe, .int (nI (sc + 1)), .int (nI lf), .ref ok, .int (nI kc), .int (nI wi), .int (nI kg), .int (nI tr), .int (nI sp)])), (on, .inl (cI, 30, .inl (aN (up nu sc n9)))), (ob, .inl (cI, 30, .inl (aN (up bg sc b9)))), (oe, .inl (cI, 30, .inl (aN (up en sc e9)))), (ok, .inl (cI, 60, .inl (aN kp)))] H := hP
  have hD : va_D A [(o, .inr (4, [.ref on, .ref ob, .ref oe, .int (nI (sc + 1)), .int (nI lf), .ref ok, .int (nI kc), .int (nI wi), .int (nI kg), .int (nI tr), .int (nI sp)])), (on, .inl (cI, 30, .inl (aN (up nu sc n9)))), (ob, .inl (cI, 30, .inl (aN (up bg sc b9)))), (oe, .inl (cI, 30, .inl (aN (up en sc e9)))), (ok, .inl (cI, 60, .inl (aN kp)))] := hD
  refine lv_aload_n hx hb d_SU_lay_50 rfl (lv_at hl 0 rfl) ?_
  refine lv_iload_n hx hb d_SU_lay_51 rfl (lv_at hl 2 rfl) ?_
  have hPc := hP.sub (ws' := [(o, .inr (4, [.ref on, .ref ob, .ref oe, .int (nI (sc + 1)), .int (nI lf), .ref ok, .int (nI kc), .int (nI wi), .int (nI kg), .int (nI tr), .int (nI sp)])), (ok, .inl (cI, 60, .inl (aN kp)))]) [0, 4] rfl
  have hDc := hD.sub (ws' := [(o, .inr (4, [.ref on, .ref ob, .ref oe, .int (nI (sc + 1)), .int (nI lf), .ref ok, .int (nI kc), .int (nI wi), .int (nI kg), .int (nI tr), .int (nI sp)])), (ok, .inl (cI, 60, .inl (aN kp)))]) [0, 4] (by decide) rfl
  have hFc := va_free (wc := [(o, .inr (4, [.ref on, .ref ob, .ref oe, .int (nI (sc + 1)), .int (nI lf), .ref ok, .int (nI kc), .int (nI wi), .int (nI kg), .int (nI tr), .int (nI sp)])), (ok, .inl (cI, 60, .inl (aN kp)))]) hD hS hA [0, 4] rfl
  refine va_callv (va_runV (As := [.int (nI b9)]) (rest := []) ⟨hx, hb, hml, hown, hts⟩ (c_SU_setKnife l dC dI H.size o on ob oe ok cI kp (sc + 1) lf kc wi kg tr sp b9 (by omega) (by omega) h3) (cwV 1 hts (gw_V m_484 m_486 s_12 m_7 m_487) rfl rfl rfl (by decide +kernel) ⟨Nat.le_of_ble_eq_true rfl, Nat.le_of_ble_eq_true rfl⟩) ⟨rw_blind, va_recv hK hPc (ci := 4) (q0 := 0) rfl rfl, fun U hU hW => ⟨rfl, by rw [hU], by rw [hU]; exact hPc, va_K.moved hW.alike hK, hDc.weaken (fun _ _ _ _ => trivial)⟩⟩ rfl rfl hl.1 rfl (lv_room (Nat.le_of_ble_eq_true rfl)) d_SU_lay_52 ⟨Nat.le_of_ble_eq_true rfl, Nat.le_of_ble_eq_true rfl⟩) hS (fun q _ h => hFc q h) hFc (fun u t H1 locs ht hvm hw hB hz1 hk1 hS => ?_)
  obtain ⟨kc1, kp1⟩ := u
  obtain ⟨hP1, hK1, hD1⟩ := hB
  rw [ht] at hP1
  try dsimp only at hw
  obtain ⟨hP, hD⟩ := va_join (wr := [(on, .inl (cI, 30, .inl (aN (up nu sc n9)))), (ob, .inl (cI, 30, .inl (aN (up bg sc b9)))), (oe, .inl (cI, 30, .inl (aN (up en sc e9))))]) (w1 := [(o, .inr (4, [.ref on, .ref ob, .ref oe, .int (nI (sc + 1)), .int (nI lf), .ref ok, .int (nI kc1), .int (nI wi), .int (nI kg), .int (nI tr), .int (nI sp)])), (ok, .inl (cI, 60, .inl (aN kp1)))]) hP hD [0, 4] [1, 2, 3] rfl rfl (by decide) (by decide) hk1 hFc hP1 hD1
  generalize H1 = H at hP hS ⊢
  have hP : va_P (dC, dI) vwCl [(o, .inr (4, [.ref on, .ref ob, .ref oe, .int (nI (sc + 1)), .int (nI lf), .ref ok, .int (nI kc1), .int (nI wi), .int (nI kg), .int (nI tr), .int (nI sp)])), (on, .inl (cI, 30, .inl (aN (up nu sc n9)))), (ob, .inl (cI, 30, .inl (aN (up bg sc b9)))), (oe, .inl (cI, 30, .inl (aN (up en sc e9)))), (ok, .inl (cI, 60, .inl (aN kp1)))] H := hP.sub [3, 0, 1, 2, 4] rfl
  have hD : va_D A [(o, .inr (4, [.ref on, .ref ob, .ref oe, .int (nI (sc + 1)), .int (nI lf), .ref ok, .int (nI kc1), .int (nI wi), .int (nI kg), .int (nI tr), .int (nI sp)])), (on, .inl (cI, 30, .inl (aN (up nu sc n9)))), (ob, .inl (cI, 30, .inl (aN (up bg sc b9)))), (oe, .inl (cI, 30, .inl (aN (up en sc e9)))), (ok, .inl (cI, 60, .inl (aN kp1)))] := hD.sub [3, 0, 1, 2, 4] (by decide) rfl
  have hw1 := hw
  have hk1 := skn_le kc kp b9
  rw [← hw1] at hk1
  obtain ⟨hk1a, hk1b, hk1c⟩ := hk1
  dsimp only at hk1a hk1b hk1c
  refine lv_aload_n hx hb d_SU_lay_55 rfl (lv_at hl 0 rfl) ?_
  refine lv_iload_n hx hb d_SU_lay_56 rfl (lv_at hl 3 rfl) ?_
  have hPc := hP.sub (ws' := [(o, .inr (4, [.ref on, .ref ob, .ref oe, .int (nI (sc + 1)), .int (nI lf), .ref ok, .int (nI kc1), .int (nI wi), .int (nI kg), .int (nI tr), .int (nI sp)])), (ok, .inl (cI, 60, .inl (aN kp1)))]) [0, 4] rfl
  have hDc := hD.sub (ws' := [(o, .inr (4, [.ref on, .ref ob, .ref oe, .int (nI (sc + 1)), .int (nI lf), .ref ok, .int (nI kc1), .int (nI wi), .int (nI kg), .int (nI tr), .int (nI sp)])), (ok, .inl (cI, 60, .inl (aN kp1)))]) [0, 4] (by decide) rfl
  have hFc := va_free (wc := [(o, .inr (4, [.ref on, .ref ob, .ref oe, .int (nI (sc + 1)), .int (nI lf), .ref ok, .int (nI kc1), .int (nI wi), .int (nI kg), .int (nI tr), .int (nI sp)])), (ok, .inl (cI, 60, .inl (aN kp1)))]) hD hS hA [0, 4] rfl
  refine va_callv (va_runV (As := [.int (nI e9)]) (rest := []) ⟨hx, hb, hml, hown, hts⟩ (c_SU_setKnife l dC dI H.size o on ob oe ok cI kp1 (sc + 1) lf kc1 wi kg tr sp e9 (by omega) (by omega) (fun _ => by rw [hk1c]; omega)) (cwV 1 hts (gw_V m_484 m_486 s_12 m_7 m_487) rfl rfl rfl (by decide +kernel) ⟨Nat.le_of_ble_eq_true rfl, Nat.le_of_ble_eq_true rfl⟩) ⟨rw_blind, va_recv hK hPc (ci := 4) (q0 := 0) rfl rfl, fun U hU hW => ⟨rfl, by rw [hU], by rw [hU]; exact hPc, va_K.moved hW.alike hK, hDc.weaken (fun _ _ _ _ => trivial)⟩⟩ rfl rfl hl.1 rfl (lv_room (Nat.le_of_ble_eq_true rfl)) d_SU_lay_57 ⟨Nat.le_of_ble_eq_true rfl, Nat.le_of_ble_eq_true rfl⟩) hS (fun q _ h => hFc q h) hFc (fun u t H1 locs ht hvm hw hB hz1 hk1 hS => ?_)
  obtain ⟨kc2, kp2⟩ := u
  obtain ⟨hP1, hK1, hD1⟩ := hB
  rw [ht] at hP1
  try dsimp only at hw
  obtain ⟨hP, hD⟩ := va_join (wr := [(on, .inl (cI, 30, .inl (aN (up nu sc n9)))), (ob, .inl (cI, 30, .inl (aN (up bg sc b9)))), (oe, .inl (cI, 30, .inl (aN (up en sc e9))))]) (w1 := [(o, .inr (4, [.ref on, .ref ob, .ref oe, .int (nI (sc + 1)), .int (nI lf), .ref ok, .int (nI kc2), .int (nI wi), .int (nI kg), .int (nI tr), .int (nI sp)])), (ok, .inl (cI, 60, .inl (aN kp2)))]) hP hD [0, 4] [1, 2, 3] rfl rfl (by decide) (by decide) hk1 hFc hP1 hD1
  generalize H1 = H at hP hS ⊢
  have hP : va_P (dC, dI) vwCl [(o, .inr (4, [.ref on, .ref ob, .ref oe, .int (nI (sc + 1)), .int (nI lf), .ref ok, .int (nI kc2), .int (nI wi), .int (nI kg), .int (nI tr), .int (nI sp)])), (on, .inl (cI, 30, .inl (aN (up nu sc n9)))), (ob, .inl (cI, 30, .inl (aN (up bg sc b9)))), (oe, .inl (cI, 30, .inl (aN (up en sc e9)))), (ok, .inl (cI, 60, .inl (aN kp2)))] H := hP.sub [3, 0, 1, 2, 4] rfl
  have hD : va_D A [(o, .inr (4, [.ref on, .ref ob, .ref oe, .int (nI (sc + 1)), .int (nI lf), .ref ok, .int (nI kc2), .int (nI wi), .int (nI kg), .int (nI tr), .int (nI sp)])), (on, .inl (cI, 30, .inl (aN (up nu sc n9)))), (ob, .inl (cI, 30, .inl (aN (up bg sc b9)))), (oe, .inl (cI, 30, .inl (aN (up en sc e9)))), (ok, .inl (cI, 60, .inl (aN kp2)))] := hD.sub [3, 0, 1, 2, 4] (by decide) rfl
  have hw2 := hw
  exact W.vret hx hb hr (fun t ht hW => ⟨⟨(kc2, kp2), rfl, by rw [hw2, ← hw1], by rw [ht]; exact hP, va_K.moved hW.alike hK, hD⟩, hS.F ht⟩) hS.2.2 d_SU_lay_60
