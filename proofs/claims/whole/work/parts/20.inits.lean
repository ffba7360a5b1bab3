theorem cI_eq {D : va_G} {cl : List vw_C} {s : State} {cI cA : ClassId} (h : va_K D cl ([(cI, .int)] ++ [(cA, .int)]) s) : cI = cA := Option.some.inj ((h.2 0 _ rfl).2.symm.trans (h.2 1 _ rfl).2)
theorem d_CO_init_0 : decode b_CO_init 0 = .ok (.aload_n 0, 1) := by decide +kernel
theorem d_CO_init_1 : decode b_CO_init 1 = .ok (.invokespecial 1, 3) := by decide +kernel
theorem d_CO_init_4 : decode b_CO_init 4 = .ok (.aload_n 0, 1) := by decide +kernel
theorem d_CO_init_5 : decode b_CO_init 5 = .ok (.sipush 10000, 3) := by decide +kernel
theorem d_CO_init_8 : decode b_CO_init 8 = .ok (.putfield 7, 3) := by decide +kernel
theorem d_CO_init_11 : decode b_CO_init 11 = .ok (.aload_n 0, 1) := by decide +kernel
theorem d_CO_init_12 : decode b_CO_init 12 = .ok (.sipush 10000, 3) := by decide +kernel
theorem d_CO_init_15 : decode b_CO_init 15 = .ok (.putfield 13, 3) := by decide +kernel
theorem d_CO_init_18 : decode b_CO_init 18 = .ok (.aload_n 0, 1) := by decide +kernel
theorem d_CO_init_19 : decode b_CO_init 19 = .ok (.bipush 50, 2) := by decide +kernel
theorem d_CO_init_21 : decode b_CO_init 21 = .ok (.putfield 16, 3) := by decide +kernel
theorem d_CO_init_24 : decode b_CO_init 24 = .ok (.aload_n 0, 1) := by decide +kernel
theorem d_CO_init_25 : decode b_CO_init 25 = .ok (.iconst 0, 1) := by decide +kernel
theorem d_CO_init_26 : decode b_CO_init 26 = .ok (.putfield 19, 3) := by decide +kernel
theorem d_CO_init_29 : decode b_CO_init 29 = .ok (.aload_n 0, 1) := by decide +kernel
theorem d_CO_init_30 : decode b_CO_init 30 = .ok (.bipush 20, 2) := by decide +kernel
theorem d_CO_init_32 : decode b_CO_init 32 = .ok (.putfield 22, 3) := by decide +kernel
theorem d_CO_init_35 : decode b_CO_init 35 = .ok (.return_, 1) := by decide +kernel
theorem d_DE_init_0 : decode b_DE_init 0 = .ok (.aload_n 0, 1) := by decide +kernel
theorem d_DE_init_1 : decode b_DE_init 1 = .ok (.invokespecial 3, 3) := by decide +kernel
theorem d_DE_init_4 : decode b_DE_init 4 = .ok (.aload_n 0, 1) := by decide +kernel
theorem d_DE_init_5 : decode b_DE_init 5 = .ok (.bipush 10, 2) := by decide +kernel
theorem d_DE_init_7 : decode b_DE_init 7 = .ok (.newarray .int, 2) := by decide +kernel
theorem d_DE_init_9 : decode b_DE_init 9 = .ok (.putfield 9, 3) := by decide +kernel
theorem d_DE_init_12 : decode b_DE_init 12 = .ok (.aload_n 0, 1) := by decide +kernel
theorem d_DE_init_13 : decode b_DE_init 13 = .ok (.bipush 10, 2) := by decide +kernel
theorem d_DE_init_15 : decode b_DE_init 15 = .ok (.newarray .int, 2) := by decide +kernel
theorem d_DE_init_17 : decode b_DE_init 17 = .ok (.putfield 15, 3) := by decide +kernel
theorem d_DE_init_20 : decode b_DE_init 20 = .ok (.aload_n 0, 1) := by decide +kernel
theorem d_DE_init_21 : decode b_DE_init 21 = .ok (.iconst 0, 1) := by decide +kernel
theorem d_DE_init_22 : decode b_DE_init 22 = .ok (.putfield 18, 3) := by decide +kernel
theorem d_DE_init_25 : decode b_DE_init 25 = .ok (.return_, 1) := by decide +kernel
set_option maxHeartbeats 4000000 in
set_option maxRecDepth 100000 in
/-- the constructor -/
theorem c_CO_init (l : Launch) (dC : Nat → ClassId) (dI : Nat → Nat → Nat) (sz : Nat) (o : Nat) (cI : ClassId) : Met l y_CO_init w_CO_init { frames := 1, cells := 0, slots := 0, locals := 12 } (rw_Pc (dC, dI) vwCl [(cI, .int)] sz [.ref o] [(o, .inr (0, [.int (nI 0), .int (nI 0), .int (nI 0), .int (nI 0), .int (nI 0)]))]) (va_Qv (fun (u : Unit) => True) (rw_B (dC, dI) vwCl [(cI, .int)] (va_A [(o, .inr (0, [.int (nI 0), .int (nI 0), .int (nI 0), .int (nI 0), .int (nI 0)]))] sz) (fun u : Unit => [(o, .inr (0, [.int (nI 10000), .int (nI 10000), .int (nI 50), .int (nI 0), .int (nI 20)]))])) (va_A [(o, .inr (0, [.int (nI 0), .int (nI 0), .int (nI 0), .int (nI 0), .int (nI 0)]))] sz)) 0 0 (va_A [(o, .inr (0, [.int (nI 0), .int (nI 0), .int (nI 0), .int (nI 0), .int (nI 0)]))] sz) := by
  refine Met.ofW (cc := b_CO_init) (maxL := 1) (ret := none) (by decide) rfl ?_
  intro p e s m args below meth c s₁ B hml hv
  obtain ⟨rfl, hsz, hP, hK, hD0⟩ := hv
  have hx := B.exec
  have hb := B.bytes
  have hr := B.returns
  have hts := gw_h (atoms_spec (ws := w_CO_init) B.pre)
  have hown : s.vm.findClass R_CO = some m.cls := findClass_of_methodNamed B.named
  have hlocks := B.notSynchronized
  have hin : meth.name = "<init>" := (name_of_methodNamed B.named B.method).1
  subst hsz
  have hD := hD0.self (sz := s.heap.size)
  generalize hAe : va_A [(o, .inr (0, [.int (nI 0), .int (nI 0), .int (nI 0), .int (nI 0), .int (nI 0)]))] s.heap.size = A at hD ⊢
  have hA : ∀ q : Nat, s.heap.size ≤ q → A q := fun q h => by rw [← hAe]; exact Or.inr h
  have hS : va_S A s.heap s.heap [] := va_S.rf
  have hP : va_P (dC, dI) vwCl [(o, .inr (0, [.int (nI 0), .int (nI 0), .int (nI 0), .int (nI 0), .int (nI 0)]))] s.heap := hP
  have hl := lv_entry ([.ref o]) (n := 1) (Nat.le_of_ble_eq_true rfl)
  rw [lg_entry_eq]
  generalize (lg_sl ([.ref o]) ++ List.replicate (1 - (lg_sl ([.ref o])).length) Slot.unset).toArray = ls at hl ⊢
  have hl : lv_has ls 1 [(0, .ref o)] := hl
  refine lv_aload_n hx hb d_CO_init_0 rfl (lv_at hl 0 rfl) ?_
  refine W.objInit hx hb hown (hts _ m_31) (hts _ m_24) (hts _ m_25) rfl (by rw [hml]; exact hl.1) rfl d_CO_init_1 (Nat.le_of_ble_eq_true rfl) (Nat.le_of_ble_eq_true rfl) ?_
  refine W.eq (g2 := F0 m 4 ls []) rfl ?_
  refine lv_aload_n hx hb d_CO_init_4 rfl (lv_at hl 0 rfl) ?_
  refine lv_sipush (v := nI 10000) hx hb d_CO_init_5 (by decide +kernel) ?_
  refine va_put (D := (dC, dI)) (ci := 0) (v := .int (nI 10000)) (ty := .int) (C := R_CO) (T := F_CO) (N := 5) hx hb hts in_CO t_CO t_CO_ok n_CO hown hK hP hD hS 0 rfl rfl 0 (by decide) (hts _ m_32) (fun _ h9 => h9) rfl (by decide +kernel) rfl rfl (Nat.le_of_ble_eq_true rfl) d_CO_init_8 (fun H locs hP hD hS => ?_)
  have hP : va_P (dC, dI) vwCl [(o, .inr (0, [.int (nI 10000), .int (nI 0), .int (nI 0), .int (nI 0), .int (nI 0)]))] H := hP
  have hD : va_D A [(o, .inr (0, [.int (nI 10000), .int (nI 0), .int (nI 0), .int (nI 0), .int (nI 0)]))] := hD
  refine lv_aload_n hx hb d_CO_init_11 rfl (lv_at hl 0 rfl) ?_
  refine lv_sipush (v := nI 10000) hx hb d_CO_init_12 (by decide +kernel) ?_
  refine va_put (D := (dC, dI)) (ci := 0) (v := .int (nI 10000)) (ty := .int) (C := R_CO) (T := F_CO) (N := 5) hx hb hts in_CO t_CO t_CO_ok n_CO hown hK hP hD hS 0 rfl rfl 1 (by decide) (hts _ m_36) (fun _ h9 => h9) rfl (by decide +kernel) rfl rfl (Nat.le_of_ble_eq_true rfl) d_CO_init_15 (fun H locs hP hD hS => ?_)
  have hP : va_P (dC, dI) vwCl [(o, .inr (0, [.int (nI 10000), .int (nI 10000), .int (nI 0), .int (nI 0), .int (nI 0)]))] H := hP
  have hD : va_D A [(o, .inr (0, [.int (nI 10000), .int (nI 10000), .int (nI 0), .int (nI 0), .int (nI 0)]))] := hD
  refine lv_aload_n hx hb d_CO_init_18 rfl (lv_at hl 0 rfl) ?_
  refine lv_bipush (v := nI 50) hx hb d_CO_init_19 (by decide +kernel) ?_
  refine va_put (D := (dC, dI)) (ci := 0) (v := .int (nI 50)) (ty := .int) (C := R_CO) (T := F_CO) (N := 5) hx hb hts in_CO t_CO t_CO_ok n_CO hown hK hP hD hS 0 rfl rfl 2 (by decide) (hts _ m_39) (fun _ h9 => h9) rfl (by decide +kernel) rfl rfl (Nat.le_of_ble_eq_true rfl) d_CO_init_21 (fun H locs hP hD hS => ?_)
  have hP : va_P (dC, dI) vwCl [(o, .inr (0, [.int (nI 10000), .int (nI 10000), .int (nI 50), .int (nI 0), .int (nI 0)]))] H := hP
  have hD : va_D A [(o, .inr (0, [.int (nI 10000), .int (nI 10000), .int (nI 50), .int (nI 0), .int (nI 0)]))] := hD
  refine lv_aload_n hx hb d_CO_init_24 rfl (lv_at hl 0 rfl) ?_
  refine lv_iconst (v := nI 0) hx hb d_CO_init_25 (by decide +kernel) ?_
  refine va_put (D := (dC, dI)) (ci := 0) (v := .int (nI 0)) (ty := .int) (C := R_CO) (T := F_CO) (N := 5) hx hb hts in_CO t_CO t_CO_ok n_CO hown hK hP hD hS 0 rfl rfl 3 (by decide) (hts _ m_43) (fun _ h9 => h9) rfl (by decide +kernel) rfl rfl (Nat.le_of_ble_eq_true rfl) d_CO_init_26 (fun H locs hP hD hS => ?_)
  have hP : va_P (dC, dI) vwCl [(o, .inr (0, [.int (nI 10000), .int (nI 10000), .int (nI 50), .int (nI 0), .int (nI 0)]))] H := hP
  have hD : va_D A [(o, .inr (0, [.int (nI 10000), .int (nI 10000), .int (nI 50), .int (nI 0), .int (nI 0)]))] := hD
  refine lv_aload_n hx hb d_CO_init_29 rfl (lv_at hl 0 rfl) ?_
  refine lv_bipush (v := nI 20) hx hb d_CO_init_30 (by decide +kernel) ?_
  refine va_put (D := (dC, dI)) (ci := 0) (v := .int (nI 20)) (ty := .int) (C := R_CO) (T := F_CO) (N := 5) hx hb hts in_CO t_CO t_CO_ok n_CO hown hK hP hD hS 0 rfl rfl 4 (by decide) (hts _ m_47) (fun _ h9 => h9) rfl (by decide +kernel) rfl rfl (Nat.le_of_ble_eq_true rfl) d_CO_init_32 (fun H locs hP hD hS => ?_)
  have hP : va_P (dC, dI) vwCl [(o, .inr (0, [.int (nI 10000), .int (nI 10000), .int (nI 50), .int (nI 0), .int (nI 20)]))] H := hP
  have hD : va_D A [(o, .inr (0, [.int (nI 10000), .int (nI 10000), .int (nI 50), .int (nI 0), .int (nI 20)]))] := hD
  exact W.vret hx hb hr (fun t ht hW => ⟨⟨(), rfl, trivial, by rw [ht]; exact hP, va_K.moved hW.alike hK, hD⟩, hS.F ht⟩) hS.2.2 d_CO_init_35
set_option maxHeartbeats 4000000 in
set_option maxRecDepth 100000 in
/-- the constructor -/
theorem c_DE_init (l : Launch) (dC : Nat → ClassId) (dI : Nat → Nat → Nat) (sz : Nat) (o : Nat) (cI : ClassId) : Met l y_DE_init w_DE_init { frames := 1, cells := 2, slots := 20, locals := 12 } (rw_Pc (dC, dI) vwCl [(cI, .int)] sz [.ref o] [(o, .inr (1, [.null, .null, .int (nI 0)]))]) (va_Qv (fun (u : Nat × Nat) => True) (rw_B (dC, dI) vwCl [(cI, .int)] (va_A [(o, .inr (1, [.null, .null, .int (nI 0)]))] sz) (fun u : Nat × Nat => [(o, .inr (1, [.ref u.1, .ref u.2, .int (nI 0)])), (u.1, .inl (cI, 10, .inl (aN (fun _ => 0)))), (u.2, .inl (cI, 10, .inl (aN (fun _ => 0))))])) (va_A [(o, .inr (1, [.null, .null, .int (nI 0)]))] sz)) 2 20 (va_A [(o, .inr (1, [.null, .null, .int (nI 0)]))] sz) := by
  refine Met.ofW (cc := b_DE_init) (maxL := 1) (ret := none) (by decide) rfl ?_
  intro p e s m args below meth c s₁ B hml hv
  obtain ⟨rfl, hsz, hP, hK, hD0⟩ := hv
  have hx := B.exec
  have hb := B.bytes
  have hr := B.returns
  have hts := gw_h (atoms_spec (ws := w_DE_init) B.pre)
  have hown : s.vm.findClass R_DE = some m.cls := findClass_of_methodNamed B.named
  have hlocks := B.notSynchronized
  have hin : meth.name = "<init>" := (name_of_methodNamed B.named B.method).1
  subst hsz
  have hD := hD0.self (sz := s.heap.size)
  generalize hAe : va_A [(o, .inr (1, [.null, .null, .int (nI 0)]))] s.heap.size = A at hD ⊢
  have hA : ∀ q : Nat, s.heap.size ≤ q → A q := fun q h => by rw [← hAe]; exact Or.inr h
  have hS : va_S A s.heap s.heap [] := va_S.rf
  have hP : va_P (dC, dI) vwCl [(o, .inr (1, [.null, .null, .int (nI 0)]))] s.heap := hP
  have hl := lv_entry ([.ref o]) (n := 1) (Nat.le_of_ble_eq_true rfl)
  rw [lg_entry_eq]
  generalize (lg_sl ([.ref o]) ++ List.replicate (1 - (lg_sl ([.ref o])).length) Slot.unset).toArray = ls at hl ⊢
  have hl : lv_has ls 1 [(0, .ref o)] := hl
  refine lv_aload_n hx hb d_DE_init_0 rfl (lv_at hl 0 rfl) ?_
  refine W.objInit hx hb hown (hts _ m_134) (hts _ m_24) (hts _ m_25) rfl (by rw [hml]; exact hl.1) rfl d_DE_init_1 (Nat.le_of_ble_eq_true rfl) (Nat.le_of_ble_eq_true rfl) ?_
  refine W.eq (g2 := F0 m 4 ls []) rfl ?_
  refine lv_aload_n hx hb d_DE_init_4 rfl (lv_at hl 0 rfl) ?_
  refine lv_bipush (v := nI 10) hx hb d_DE_init_5 (by decide +kernel) ?_
  refine va_newa (atype := .int) (a0 := (10, .inl (aN (fun _ => 0)))) (ty := .int) (N' := 10) hx hb (hts _ m_85) rfl hK hP hD hS hA (fun _ => rfl) (by decide +kernel) (by decide +kernel) (by decide) (Nat.le_of_ble_eq_true rfl) (Nat.le_of_ble_eq_true rfl) d_DE_init_7 (fun n7 cA H hK hP hD hS => ?_)
  obtain rfl := cI_eq hK
  have hK := hK.sub (tys' := [(cI, .int)]) [0] rfl
  refine W.widen (k := 1) (n := 10) (Nat.le_refl _) (Nat.le_refl _) ?_
  have hP : va_P (dC, dI) vwCl [(o, .inr (1, [.null, .null, .int (nI 0)])), (n7, .inl (cI, 10, .inl (aN (fun _ => 0))))] H := hP
  have hD : va_D A [(o, .inr (1, [.null, .null, .int (nI 0)])), (n7, .inl (cI, 10, .inl (aN (fun _ => 0))))] := hD
  refine va_putF (D := (dC, dI)) (ci := 1) (v := .ref n7) (ty := .array .int) (C := R_DE) (T := F_DE) (N := 3) hx hb hts in_DE t_DE t_DE_ok n_DE hown hK hP hD hS 0 rfl rfl 0 (by decide) (hts _ m_135) (fun _ h9 => h9) rfl hin rfl (by decide +kernel) rfl rfl (Nat.le_of_ble_eq_true rfl) d_DE_init_9 (fun H locs hP hD hS => ?_)
  have hP : va_P (dC, dI) vwCl [(o, .inr (1, [.ref n7, .null, .int (nI 0)])), (n7, .inl (cI, 10, .inl (aN (fun _ => 0))))] H := hP
  have hD : va_D A [(o, .inr (1, [.ref n7, .null, .int (nI 0)])), (n7, .inl (cI, 10, .inl (aN (fun _ => 0))))] := hD
  refine lv_aload_n hx hb d_DE_init_12 rfl (lv_at hl 0 rfl) ?_
  refine lv_bipush (v := nI 10) hx hb d_DE_init_13 (by decide +kernel) ?_
  refine va_newa (atype := .int) (a0 := (10, .inl (aN (fun _ => 0)))) (ty := .int) (N' := 10) hx hb (hts _ m_85) rfl hK hP hD hS hA (fun _ => rfl) (by decide +kernel) (by decide +kernel) (by decide) (Nat.le_of_ble_eq_true rfl) (Nat.le_of_ble_eq_true rfl) d_DE_init_15 (fun n15 cA H hK hP hD hS => ?_)
  obtain rfl := cI_eq hK
  have hK := hK.sub (tys' := [(cI, .int)]) [0] rfl
  refine W.widen (k := 2) (n := 20) (Nat.le_refl _) (Nat.le_refl _) ?_
  have hP : va_P (dC, dI) vwCl [(o, .inr (1, [.ref n7, .null, .int (nI 0)])), (n7, .inl (cI, 10, .inl (aN (fun _ => 0)))), (n15, .inl (cI, 10, .inl (aN (fun _ => 0))))] H := hP
  have hD : va_D A [(o, .inr (1, [.ref n7, .null, .int (nI 0)])), (n7, .inl (cI, 10, .inl (aN (fun _ => 0)))), (n15, .inl (cI, 10, .inl (aN (fun _ => 0))))] := hD
  refine va_putF (D := (dC, dI)) (ci := 1) (v := .ref n15) (ty := .array .int) (C := R_DE) (T := F_DE) (N := 3) hx hb hts in_DE t_DE t_DE_ok n_DE hown hK hP hD hS 0 rfl rfl 1 (by decide) (hts _ m_138) (fun _ h9 => h9) rfl hin rfl (by decide +kernel) rfl rfl (Nat.le_of_ble_eq_true rfl) d_DE_init_17 (fun H locs hP hD hS => ?_)
  have hP : va_P (dC, dI) vwCl [(o, .inr (1, [.ref n7, .ref n15, .int (nI 0)])), (n7, .inl (cI, 10, .inl (aN (fun _ => 0)))), (n15, .inl (cI, 10, .inl (aN (fun _ => 0))))] H := hP
  have hD : va_D A [(o, .inr (1, [.ref n7, .ref n15, .int (nI 0)])), (n7, .inl (cI, 10, .inl (aN (fun _ => 0)))), (n15, .inl (cI, 10, .inl (aN (fun _ => 0))))] := hD
  refine lv_aload_n hx hb d_DE_init_20 rfl (lv_at hl 0 rfl) ?_
  refine lv_iconst (v := nI 0) hx hb d_DE_init_21 (by decide +kernel) ?_
  refine va_put (D := (dC, dI)) (ci := 1) (v := .int (nI 0)) (ty := .int) (C := R_DE) (T := F_DE) (N := 3) hx hb hts in_DE t_DE t_DE_ok n_DE hown hK hP hD hS 0 rfl rfl 2 (by decide) (hts _ m_141) (fun _ h9 => h9) rfl (by decide +kernel) rfl rfl (Nat.le_of_ble_eq_true rfl) d_DE_init_22 (fun H locs hP hD hS => ?_)
  have hP : va_P (dC, dI) vwCl [(o, .inr (1, [.ref n7, .ref n15, .int (nI 0)])), (n7, .inl (cI, 10, .inl (aN (fun _ => 0)))), (n15, .inl (cI, 10, .inl (aN (fun _ => 0))))] H := hP
  have hD : va_D A [(o, .inr (1, [.ref n7, .ref n15, .int (nI 0)])), (n7, .inl (cI, 10, .inl (aN (fun _ => 0)))), (n15, .inl (cI, 10, .inl (aN (fun _ => 0))))] := hD
  exact W.vret hx hb hr (fun t ht hW => ⟨⟨(n7, n15), rfl, trivial, by rw [ht]; exact hP, va_K.moved hW.alike hK, hD⟩, hS.F ht⟩) hS.2.2 d_DE_init_25
set_option maxHeartbeats 4000000 in
set_option maxRecDepth 100000 in
/-- the constructor -/
theorem c_WI_init (l : Launch) (dC : Nat → ClassId) (dI : Nat → Nat → Nat) (sz : Nat) (o : Nat) (cI : ClassId) : Met l y_WI_init w_WI_init { frames := 1, cells := 2, slots := 10, locals := 12 } (rw_Pc (dC, dI) vwCl [(cI, .int)] sz [.ref o] [(o, .inr (5, [.null, .null, .int (nI 0)]))]) (va_Qv (fun (u : Nat × Nat) => True) (rw_B (dC, dI) vwCl [(cI, .int)] (va_A [(o, .inr (5, [.null, .null, .int (nI 0)]))] sz) (fun u : Nat × Nat => [(o, .inr (5, [.ref u.1, .ref u.2, .int (nI 0)])), (u.1, .inl (cI, 5, .inl (aN (fun _ => 0)))), (u.2, .inl (cI, 5, .inl (aN (fun _ => 0))))])) (va_A [(o, .inr (5, [.null, .null, .int (nI 0)]))] sz)) 2 10 (va_A [(o, .inr (5, [.null, .null, .int (nI 0)]))] sz) := by
  refine Met.ofW (cc := b_WI_init) (maxL := 1) (ret := none) (by decide) rfl ?_
  intro p e s m args below meth c s₁ B hml hv
  obtain ⟨rfl, hsz, hP, hK, hD0⟩ := hv
  have hx := B.exec
  have hb := B.bytes
  have hr := B.returns
  have hts := gw_h (atoms_spec (ws := w_WI_init) B.pre)
  have hown : s.vm.findClass R_WI = some m.cls := findClass_of_methodNamed B.named
  have hlocks := B.notSynchronized
  have hin : meth.name = "<init>" := (name_of_methodNamed B.named B.method).1
  subst hsz
  have hD := hD0.self (sz := s.heap.size)
  generalize hAe : va_A [(o, .inr (5, [.null, .null, .int (nI 0)]))] s.heap.size = A at hD ⊢
  have hA : ∀ q : Nat, s.heap.size ≤ q → A q := fun q h => by rw [← hAe]; exact Or.inr h
  have hS : va_S A s.heap s.heap [] := va_S.rf
  have hP : va_P (dC, dI) vwCl [(o, .inr (5, [.null, .null, .int (nI 0)]))] s.heap := hP
  have hl := lv_entry ([.ref o]) (n := 1) (Nat.le_of_ble_eq_true rfl)
  rw [lg_entry_eq]
  generalize (lg_sl ([.ref o]) ++ List.replicate (1 - (lg_sl ([.ref o])).length) Slot.unset).toArray = ls at hl ⊢
  have hl : lv_has ls 1 [(0, .ref o)] := hl
  refine lv_aload_n hx hb d_WI_init_0 rfl (lv_at hl 0 rfl) ?_
  refine W.objInit hx hb hown (hts _ m_66) (hts _ m_24) (hts _ m_25) rfl (by rw [hml]; exact hl.1) rfl d_WI_init_1 (Nat.le_of_ble_eq_true rfl) (Nat.le_of_ble_eq_true rfl) ?_
  refine W.eq (g2 := F0 m 4 ls []) rfl ?_
  refine lv_aload_n hx hb d_WI_init_4 rfl (lv_at hl 0 rfl) ?_
  refine lv_iconst (v := nI 5) hx hb d_WI_init_5 (by decide +kernel) ?_
  refine va_newa (atype := .int) (a0 := (5, .inl (aN (fun _ => 0)))) (ty := .int) (N' := 5) hx hb (hts _ m_85) rfl hK hP hD hS hA (fun _ => rfl) (by decide +kernel) (by decide +kernel) (by decide) (Nat.le_of_ble_eq_true rfl) (Nat.le_of_ble_eq_true rfl) d_WI_init_6 (fun n6 cA H hK hP hD hS => ?_)
  obtain rfl := cI_eq hK
  have hK := hK.sub (tys' := [(cI, .int)]) [0] rfl
  refine W.widen (k := 1) (n := 5) (Nat.le_refl _) (Nat.le_refl _) ?_
  have hP : va_P (dC, dI) vwCl [(o, .inr (5, [.null, .null, .int (nI 0)])), (n6, .inl (cI, 5, .inl (aN (fun _ => 0))))] H := hP
  have hD : va_D A [(o, .inr (5, [.null, .null, .int (nI 0)])), (n6, .inl (cI, 5, .inl (aN (fun _ => 0))))] := hD
  refine va_putF (D := (dC, dI)) (ci := 5) (v := .ref n6) (ty := .array .int) (C := R_WI) (T := F_WI) (N := 3) hx hb hts in_WI t_WI t_WI_ok n_WI hown hK hP hD hS 0 rfl rfl 0 (by decide) (hts _ m_67) (fun _ h9 => h9) rfl hin rfl (by decide +kernel) rfl rfl (Nat.le_of_ble_eq_true rfl) d_WI_init_8 (fun H locs hP hD hS => ?_)
  have hP : va_P (dC, dI) vwCl [(o, .inr (5, [.ref n6, .null, .int (nI 0)])), (n6, .inl (cI, 5, .inl (aN (fun _ => 0))))] H := hP
  have hD : va_D A [(o, .inr (5, [.ref n6, .null, .int (nI 0)])), (n6, .inl (cI, 5, .inl (aN (fun _ => 0))))] := hD
  refine lv_aload_n hx hb d_WI_init_11 rfl (lv_at hl 0 rfl) ?_
  refine lv_iconst (v := nI 5) hx hb d_WI_init_12 (by decide +kernel) ?_
  refine va_newa (atype := .int) (a0 := (5, .inl (aN (fun _ => 0)))) (ty := .int) (N' := 5) hx hb (hts _ m_85) rfl hK hP hD hS hA (fun _ => rfl) (by decide +kernel) (by decide +kernel) (by decide) (Nat.le_of_ble_eq_true rfl) (Nat.le_of_ble_eq_true rfl) d_WI_init_13 (fun n13 cA H hK hP hD hS => ?_)
  obtain rfl := cI_eq hK
  have hK := hK.sub (tys' := [(cI, .int)]) [0] rfl
  refine W.widen (k := 2) (n := 10) (Nat.le_refl _) (Nat.le_refl _) ?_
  have hP : va_P (dC, dI) vwCl [(o, .inr (5, [.ref n6, .null, .int (nI 0)])), (n6, .inl (cI, 5, .inl (aN (fun _ => 0)))), (n13, .inl (cI, 5, .inl (aN (fun _ => 0))))] H := hP
  have hD : va_D A [(o, .inr (5, [.ref n6, .null, .int (nI 0)])), (n6, .inl (cI, 5, .inl (aN (fun _ => 0)))), (n13, .inl (cI, 5, .inl (aN (fun _ => 0))))] := hD
  refine va_putF (D := (dC, dI)) (ci := 5) (v := .ref n13) (ty := .array .int) (C := R_WI) (T := F_WI) (N := 3) hx hb hts in_WI t_WI t_WI_ok n_WI hown hK hP hD hS 0 rfl rfl 1 (by decide) (hts _ m_71) (fun _ h9 => h9) rfl hin rfl (by decide +kernel) rfl rfl (Nat.le_of_ble_eq_true rfl) d_WI_init_15 (fun H locs hP hD hS => ?_)
  have hP : va_P (dC, dI) vwCl [(o, .inr (5, [.ref n6, .ref n13, .int (nI 0)])), (n6, .inl (cI, 5, .inl (aN (fun _ => 0)))), (n13, .inl (cI, 5, .inl (aN (fun _ => 0))))] H := hP
  have hD : va_D A [(o, .inr (5, [.ref n6, .ref n13, .int (nI 0)])), (n6, .inl (cI, 5, .inl (aN (fun _ => 0)))), (n13, .inl (cI, 5, .inl (aN (fun _ => 0))))] := hD
  refine lv_aload_n hx hb d_WI_init_18 rfl (lv_at hl 0 rfl) ?_
  refine lv_iconst (v := nI 0) hx hb d_WI_init_19 (by decide +kernel) ?_
  refine va_put (D := (dC, dI)) (ci := 5) (v := .int (nI 0)) (ty := .int) (C := R_WI) (T := F_WI) (N := 3) hx hb hts in_WI t_WI t_WI_ok n_WI hown hK hP hD hS 0 rfl rfl 2 (by decide) (hts _ m_74) (fun _ h9 => h9) rfl (by decide +kernel) rfl rfl (Nat.le_of_ble_eq_true rfl) d_WI_init_20 (fun H locs hP hD hS => ?_)
  have hP : va_P (dC, dI) vwCl [(o, .inr (5, [.ref n6, .ref n13, .int (nI 0)])), (n6, .inl (cI, 5, .inl (aN (fun _ => 0)))), (n13, .inl (cI, 5, .inl (aN (fun _ => 0))))] H := hP
  have hD : va_D A [(o, .inr (5, [.ref n6, .ref n13, .int (nI 0)])), (n6, .inl (cI, 5, .inl (aN (fun _ => 0)))), (n13, .inl (cI, 5, .inl (aN (fun _ => 0))))] := hD
  exact W.vret hx hb hr (fun t ht hW => ⟨⟨(n6, n13), rfl, trivial, by rw [ht]; exact hP, va_K.moved hW.alike hK, hD⟩, hS.F ht⟩) hS.2.2 d_WI_init_23
set_option maxHeartbeats 4000000 in
set_option maxRecDepth 100000 in
/-- the constructor -/
theorem c_PS_init (l : Launch) (dC : Nat → ClassId) (dI : Nat → Nat → Nat) (sz : Nat) (o : Nat) (cI : ClassId) : Met l y_PS_init w_PS_init { frames := 1, cells := 4, slots := 21, locals := 12 } (rw_Pc (dC, dI) vwCl [(cI, .int)] sz [.ref o] [(o, .inr (2, [.null, .int (nI 0), .int (nI 0), .int (nI 0), .null, .null, .null, .int (nI 0), .int (nI 0), .int (nI 0)]))]) (va_Qv (fun (u : Nat × Nat × Nat × Nat) => True) (rw_B (dC, dI) vwCl [(cI, .int)] (va_A [(o, .inr (2, [.null, .int (nI 0), .int (nI 0), .int (nI 0), .null, .null, .null, .int (nI 0), .int (nI 0), .int (nI 0)]))] sz) (fun u : Nat × Nat × Nat × Nat => [(o, .inr (2, [.ref u.1, .int (nI 0), .int (nI 0), .int (nI 0), .ref u.2.1, .ref u.2.2.1, .ref u.2.2.2, .int (nI 0), .int (nI 0), .int (nI 0)])), (u.1, .inl (cI, 5, .inl (aN (fun _ => 0)))), (u.2.1, .inl (cI, 5, .inl (aN (fun _ => 0)))), (u.2.2.1, .inl (cI, 6, .inl (aN (fun _ => 0)))), (u.2.2.2, .inl (cI, 5, .inl (aN (fun _ => 0))))])) (va_A [(o, .inr (2, [.null, .int (nI 0), .int (nI 0), .int (nI 0), .null, .null, .null, .int (nI 0), .int (nI 0), .int (nI 0)]))] sz)) 4 21 (va_A [(o, .inr (2, [.null, .int (nI 0), .int (nI 0), .int (nI 0), .null, .null, .null, .int (nI 0), .int (nI 0), .int (nI 0)]))] sz) := by
  refine Met.ofW (cc := b_PS_init) (maxL := 1) (ret := none) (by decide) rfl ?_
  intro p e s m args below meth c s₁ B hml hv
  obtain ⟨rfl, hsz, hP, hK, hD0⟩ := hv
  have hx := B.exec
  have hb := B.bytes
  have hr := B.returns
  have hts := gw_h (atoms_spec (ws := w_PS_init) B.pre)
  have hown : s.vm.findClass R_PS = some m.cls := findClass_of_methodNamed B.named
  have hlocks := B.notSynchronized
  have hin : meth.name = "<init>" := (name_of_methodNamed B.named B.method).1
  subst hsz
  have hD := hD0.self (sz := s.heap.size)
  generalize hAe : va_A [(o, .inr (2, [.null, .int (nI 0), .int (nI 0), .int (nI 0), .null, .null, .null, .int (nI 0), .int (nI 0), .int (nI 0)]))] s.heap.size = A at hD ⊢
  have hA : ∀ q : Nat, s.heap.size ≤ q → A q := fun q h => by rw [← hAe]; exact Or.inr h
  have hS : va_S A s.heap s.heap [] := va_S.rf
  have hP : va_P (dC, dI) vwCl [(o, .inr (2, [.null, .int (nI 0), .int (nI 0), .int (nI 0), .null, .null, .null, .int (nI 0), .int (nI 0), .int (nI 0)]))] s.heap := hP
  have hl := lv_entry ([.ref o]) (n := 1) (Nat.le_of_ble_eq_true rfl)
  rw [lg_entry_eq]
  generalize (lg_sl ([.ref o]) ++ List.replicate (1 - (lg_sl ([.ref o])).length) Slot.unset).toArray = ls at hl ⊢
  have hl : lv_has ls 1 [(0, .ref o)] := hl
  refine lv_aload_n hx hb d_PS_init_0 rfl (lv_at hl 0 rfl) ?_
  refine W.objInit hx hb hown (hts _ m_91) (hts _ m_24) (hts _ m_25) rfl (by rw [hml]; exact hl.1) rfl d_PS_init_1 (Nat.le_of_ble_eq_true rfl) (Nat.le_of_ble_eq_true rfl) ?_
  refine W.eq (g2 := F0 m 4 ls []) rfl ?_
  refine lv_aload_n hx hb d_PS_init_4 rfl (lv_at hl 0 rfl) ?_
  refine lv_iconst (v := nI 5) hx hb d_PS_init_5 (by decide +kernel) ?_
  refine va_newa (atype := .int) (a0 := (5, .inl (aN (fun _ => 0)))) (ty := .int) (N' := 5) hx hb (hts _ m_85) rfl hK hP hD hS hA (fun _ => rfl) (by decide +kernel) (by decide +kernel) (by decide) (Nat.le_of_ble_eq_true rfl) (Nat.le_of_ble_eq_true rfl) d_PS_init_6 (fun n6 cA H hK hP hD hS => ?_)
  obtain rfl := cI_eq hK
  have hK := hK.sub (tys' := [(cI, .int)]) [0] rfl
  refine W.widen (k := 1) (n := 5) (Nat.le_refl _) (Nat.le_refl _) ?_
  have hP : va_P (dC, dI) vwCl [(o, .inr (2, [.null, .int (nI 0), .int (nI 0), .int (nI 0), .null, .null, .null, .int (nI 0), .int (nI 0), .int (nI 0)])), (n6, .inl (cI, 5, .inl (aN (fun _ => 0))))] H := hP
  have hD : va_D A [(o, .inr (2, [.null, .int (nI 0), .int (nI 0), .int (nI 0), .null, .null, .null, .int (nI 0), .int (nI 0), .int (nI 0)])), (n6, .inl (cI, 5, .inl (aN (fun _ => 0))))] := hD
  refine va_putF (D := (dC, dI)) (ci := 2) (v := .ref n6) (ty := .array .int) (C := R_PS) (T := F_PS) (N := 10) hx hb hts in_PS t_PS t_PS_ok n_PS hown hK hP hD hS 0 rfl rfl 0 (by decide) (hts _ m_92) (fun _ h9 => h9) rfl hin rfl (by decide +kernel) rfl rfl (Nat.le_of_ble_eq_true rfl) d_PS_init_8 (fun H locs hP hD hS => ?_)
  have hP : va_P (dC, dI) vwCl [(o, .inr (2, [.ref n6, .int (nI 0), .int (nI 0), .int (nI 0), .null, .null, .null, .int (nI 0), .int (nI 0), .int (nI 0)])), (n6, .inl (cI, 5, .inl (aN (fun _ => 0))))] H := hP
  have hD : va_D A [(o, .inr (2, [.ref n6, .int (nI 0), .int (nI 0), .int (nI 0), .null, .null, .null, .int (nI 0), .int (nI 0), .int (nI 0)])), (n6, .inl (cI, 5, .inl (aN (fun _ => 0))))] := hD
  refine lv_aload_n hx hb d_PS_init_11 rfl (lv_at hl 0 rfl) ?_
  refine lv_iconst (v := nI 0) hx hb d_PS_init_12 (by decide +kernel) ?_
  refine va_put (D := (dC, dI)) (ci := 2) (v := .int (nI 0)) (ty := .int) (C := R_PS) (T := F_PS) (N := 10) hx hb hts in_PS t_PS t_PS_ok n_PS hown hK hP hD hS 0 rfl rfl 1 (by decide) (hts _ m_95) (fun _ h9 => h9) rfl (by decide +kernel) rfl rfl (Nat.le_of_ble_eq_true rfl) d_PS_init_13 (fun H locs hP hD hS => ?_)
  have hP : va_P (dC, dI) vwCl [(o, .inr (2, [.ref n6, .int (nI 0), .int (nI 0), .int (nI 0), .null, .null, .null, .int (nI 0), .int (nI 0), .int (nI 0)])), (n6, .inl (cI, 5, .inl (aN (fun _ => 0))))] H := hP
  have hD : va_D A [(o, .inr (2, [.ref n6, .int (nI 0), .int (nI 0), .int (nI 0), .null, .null, .null, .int (nI 0), .int (nI 0), .int (nI 0)])), (n6, .inl (cI, 5, .inl (aN (fun _ => 0))))] := hD
  refine lv_aload_n hx hb d_PS_init_16 rfl (lv_at hl 0 rfl) ?_
  refine lv_iconst (v := nI 0) hx hb d_PS_init_17 (by decide +kernel) ?_
  refine va_put (D := (dC, dI)) (ci := 2) (v := .int (nI 0)) (ty := .int) (C := R_PS) (T := F_PS) (N := 10) hx hb hts in_PS t_PS t_PS_ok n_PS hown hK hP hD hS 0 rfl rfl 2 (by decide) (hts _ m_97) (fun _ h9 => h9) rfl (by decide +kernel) rfl rfl (Nat.le_of_ble_eq_true rfl) d_PS_init_18 (fun H locs hP hD hS => ?_)
  have hP : va_P (dC, dI) vwCl [(o, .inr (2, [.ref n6, .int (nI 0), .int (nI 0), .int (nI 0), .null, .null, .null, .int (nI 0), .int (nI 0), .int (nI 0)])), (n6, .inl (cI, 5, .inl (aN (fun _ => 0))))] H := hP
  have hD : va_D A [(o, .inr (2, [.ref n6, .int (nI 0), .int (nI 0), .int (nI 0), .null, .null, .null, .int (nI 0), .int (nI 0), .int (nI 0)])), (n6, .inl (cI, 5, .inl (aN (fun _ => 0))))] := hD
  refine lv_aload_n hx hb d_PS_init_21 rfl (lv_at hl 0 rfl) ?_
  refine lv_iconst (v := nI 0) hx hb d_PS_init_22 (by decide +kernel) ?_
  refine va_put (D := (dC, dI)) (ci := 2) (v := .int (nI 0)) (ty := .boolean) (C := R_PS) (T := F_PS) (N := 10) hx hb hts in_PS t_PS t_PS_ok n_PS hown hK hP hD hS 0 rfl rfl 3 (by decide) (hts _ m_100) (fun _ h9 => h9) rfl (by decide +kernel) (by decide +kernel) (by decide +kernel) (Nat.le_of_ble_eq_true rfl) d_PS_init_23 (fun H locs hP hD hS => ?_)
  have hP : va_P (dC, dI) vwCl [(o, .inr (2, [.ref n6, .int (nI 0), .int (nI 0), .int (nI 0), .null, .null, .null, .int (nI 0), .int (nI 0), .int (nI 0)])), (n6, .inl (cI, 5, .inl (aN (fun _ => 0))))] H := hP
  have hD : va_D A [(o, .inr (2, [.ref n6, .int (nI 0), .int (nI 0), .int (nI 0), .null, .null, .null, .int (nI 0), .int (nI 0), .int (nI 0)])), (n6, .inl (cI, 5, .inl (aN (fun _ => 0))))] := hD
  refine lv_aload_n hx hb d_PS_init_26 rfl (lv_at hl 0 rfl) ?_
  refine lv_iconst (v := nI 5) hx hb d_PS_init_27 (by decide +kernel) ?_
  refine va_newa (atype := .int) (a0 := (5, .inl (aN (fun _ => 0)))) (ty := .int) (N' := 5) hx hb (hts _ m_85) rfl hK hP hD hS hA (fun _ => rfl) (by decide +kernel) (by decide +kernel) (by decide) (Nat.le_of_ble_eq_true rfl) (Nat.le_of_ble_eq_true rfl) d_PS_init_28 (fun n28 cA H hK hP hD hS => ?_)
  obtain rfl := cI_eq hK
  have hK := hK.sub (tys' := [(cI, .int)]) [0] rfl
  refine W.widen (k := 2) (n := 10) (Nat.le_refl _) (Nat.le_refl _) ?_
  have hP : va_P (dC, dI) vwCl [(o, .inr (2, [.ref n6, .int (nI 0), .int (nI 0), .int (nI 0), .null, .null, .null, .int (nI 0), .int (nI 0), .int (nI 0)])), (n6, .inl (cI, 5, .inl (aN (fun _ => 0)))), (n28, .inl (cI, 5, .inl (aN (fun _ => 0))))] H := hP
  have hD : va_D A [(o, .inr (2, [.ref n6, .int (nI 0), .int (nI 0), .int (nI 0), .null, .null, .null, .int (nI 0), .int (nI 0), .int (nI 0)])), (n6, .inl (cI, 5, .inl (aN (fun _ => 0)))), (n28, .inl (cI, 5, .inl (aN (fun _ => 0))))] := hD
  refine va_putF (D := (dC, dI)) (ci := 2) (v := .ref n28) (ty := .array .int) (C := R_PS) (T := F_PS) (N := 10) hx hb hts in_PS t_PS t_PS_ok n_PS hown hK hP hD hS 0 rfl rfl 4 (by decide) (hts _ m_102) (fun _ h9 => h9) rfl hin rfl (by decide +kernel) rfl rfl (Nat.le_of_ble_eq_true rfl) d_PS_init_30 (fun H locs hP hD hS => ?_)
  have hP : va_P (dC, dI) vwCl [(o, .inr (2, [.ref n6, .int (nI 0), .int (nI 0), .int (nI 0), .ref n28, .null, .null, .int (nI 0), .int (nI 0), .int (nI 0)])), (n6, .inl (cI, 5, .inl (aN (fun _ => 0)))), (n28, .inl (cI, 5, .inl (aN (fun _ => 0))))] H := hP
  have hD : va_D A [(o, .inr (2, [.ref n6, .int (nI 0), .int (nI 0), .int (nI 0), .ref n28, .null, .null, .int (nI 0), .int (nI 0), .int (nI 0)])), (n6, .inl (cI, 5, .inl (aN (fun _ => 0)))), (n28, .inl (cI, 5, .inl (aN (fun _ => 0))))] := hD
  refine lv_aload_n hx hb d_PS_init_33 rfl (lv_at hl 0 rfl) ?_
  refine lv_bipush (v := nI 6) hx hb d_PS_init_34 (by decide +kernel) ?_
  refine va_newa (atype := .int) (a0 := (6, .inl (aN (fun _ => 0)))) (ty := .int) (N' := 6) hx hb (hts _ m_85) rfl hK hP hD hS hA (fun _ => rfl) (by decide +kernel) (by decide +kernel) (by decide) (Nat.le_of_ble_eq_true rfl) (Nat.le_of_ble_eq_true rfl) d_PS_init_36 (fun n36 cA H hK hP hD hS => ?_)
  obtain rfl := cI_eq hK
  have hK := hK.sub (tys' := [(cI, .int)]) [0] rfl
  refine W.widen (k := 3) (n := 16) (Nat.le_refl _) (Nat.le_refl _) ?_
  have hP : va_P (dC, dI) vwCl [(o, .inr (2, [.ref n6, .int (nI 0), .int (nI 0), .int (nI 0), .ref n28, .null, .null, .int (nI 0), .int (nI 0), .int (nI 0)])), (n6, .inl (cI, 5, .inl (aN (fun _ => 0)))), (n28, .inl (cI, 5, .inl (aN (fun _ => 0)))), (n36, .inl (cI, 6, .inl (aN (fun _ => 0))))] H := hP
  have hD : va_D A [(o, .inr (2, [.ref n6, .int (nI 0), .int (nI 0), .int (nI 0), .ref n28, .null, .null, .int (nI 0), .int (nI 0), .int (nI 0)])), (n6, .inl (cI, 5, .inl (aN (fun _ => 0)))), (n28, .inl (cI, 5, .inl (aN (fun _ => 0)))), (n36, .inl (cI, 6, .inl (aN (fun _ => 0))))] := hD
  refine va_putF (D := (dC, dI)) (ci := 2) (v := .ref n36) (ty := .array .int) (C := R_PS) (T := F_PS) (N := 10) hx hb hts in_PS t_PS t_PS_ok n_PS hown hK hP hD hS 0 rfl rfl 5 (by decide) (hts _ m_103) (fun _ h9 => h9) rfl hin rfl (by decide +kernel) rfl rfl (Nat.le_of_ble_eq_true rfl) d_PS_init_38 (fun H locs hP hD hS => ?_)
  have hP : va_P (dC, dI) vwCl [(o, .inr (2, [.ref n6, .int (nI 0), .int (nI 0), .int (nI 0), .ref n28, .ref n36, .null, .int (nI 0), .int (nI 0), .int (nI 0)])), (n6, .inl (cI, 5, .inl (aN (fun _ => 0)))), (n28, .inl (cI, 5, .inl (aN (fun _ => 0)))), (n36, .inl (cI, 6, .inl (aN (fun _ => 0))))] H := hP
  have hD : va_D A [(o, .inr (2, [.ref n6, .int (nI 0), .int (nI 0), .int (nI 0), .ref n28, .ref n36, .null, .int (nI 0), .int (nI 0), .int (nI 0)])), (n6, .inl (cI, 5, .inl (aN (fun _ => 0)))), (n28, .inl (cI, 5, .inl (aN (fun _ => 0)))), (n36, .inl (cI, 6, .inl (aN (fun _ => 0))))] := hD
  refine lv_aload_n hx hb d_PS_init_41 rfl (lv_at hl 0 rfl) ?_
  refine lv_iconst (v := nI 5) hx hb d_PS_init_42 (by decide +kernel) ?_
  refine va_newa (atype := .int) (a0 := (5, .inl (aN (fun _ => 0)))) (ty := .int) (N' := 5) hx hb (hts _ m_85) rfl hK hP hD hS hA (fun _ => rfl) (by decide +kernel) (by decide +kernel) (by decide) (Nat.le_of_ble_eq_true rfl) (Nat.le_of_ble_eq_true rfl) d_PS_init_43 (fun n43 cA H hK hP hD hS => ?_)
  obtain rfl := cI_eq hK
  have hK := hK.sub (tys' := [(cI, .int)]) [0] rfl
  refine W.widen (k := 4) (n := 21) (Nat.le_refl _) (Nat.le_refl _) ?_
  have hP : va_P (dC, dI) vwCl [(o, .inr (2, [.ref n6, .int (nI 0), .int (nI 0), .int (nI 0), .ref n28, .ref n36, .null, .int (nI 0), .int (nI 0), .int (nI 0)])), (n6, .inl (cI, 5, .inl (aN (fun _ => 0)))), (n28, .inl (cI, 5, .inl (aN (fun _ => 0)))), (n36, .inl (cI, 6, .inl (aN (fun _ => 0)))), (n43, .inl (cI, 5, .inl (aN (fun _ => 0))))] H := hP
  have hD : va_D A [(o, .inr (2, [.ref n6, .int (nI 0), .int (nI 0), .int (nI 0), .ref n28, .ref n36, .null, .int (nI 0), .int (nI 0), .int (nI 0)])), (n6, .inl (cI, 5, .inl (aN (fun _ => 0)))), (n28, .inl (cI, 5, .inl (aN (fun _ => 0)))), (n36, .inl (cI, 6, .inl (aN (fun _ => 0)))), (n43, .inl (cI, 5, .inl (aN (fun _ => 0))))] := hD
  refine va_putF (D := (dC, dI)) (ci := 2) (v := .ref n43) (ty := .array .int) (C := R_PS) (T := F_PS) (N := 10) hx hb hts in_PS t_PS t_PS_ok n_PS hown hK hP hD hS 0 rfl rfl 6 (by decide) (hts _ m_104) (fun _ h9 => h9) rfl hin rfl (by decide +kernel) rfl rfl (Nat.le_of_ble_eq_true rfl) d_PS_init_45 (fun H locs hP hD hS => ?_)
  have hP : va_P (dC, dI) vwCl [(o, .inr (2, [.ref n6, .int (nI 0), .int (nI 0), .int (nI 0), .ref n28, .ref n36, .ref n43, .int (nI 0), .int (nI 0), .int (nI 0)])), (n6, .inl (cI, 5, .inl (aN (fun _ => 0)))), (n28, .inl (cI, 5, .inl (aN (fun _ => 0)))), (n36, .inl (cI, 6, .inl (aN (fun _ => 0)))), (n43, .inl (cI, 5, .inl (aN (fun _ => 0))))] H := hP
  have hD : va_D A [(o, .inr (2, [.ref n6, .int (nI 0), .int (nI 0), .int (nI 0), .ref n28, .ref n36, .ref n43, .int (nI 0), .int (nI 0), .int (nI 0)])), (n6, .inl (cI, 5, .inl (aN (fun _ => 0)))), (n28, .inl (cI, 5, .inl (aN (fun _ => 0)))), (n36, .inl (cI, 6, .inl (aN (fun _ => 0)))), (n43, .inl (cI, 5, .inl (aN (fun _ => 0))))] := hD
  refine lv_aload_n hx hb d_PS_init_48 rfl (lv_at hl 0 rfl) ?_
  refine lv_iconst (v := nI 0) hx hb d_PS_init_49 (by decide +kernel) ?_
  refine va_put (D := (dC, dI)) (ci := 2) (v := .int (nI 0)) (ty := .int) (C := R_PS) (T := F_PS) (N := 10) hx hb hts in_PS t_PS t_PS_ok n_PS hown hK hP hD hS 0 rfl rfl 7 (by decide) (hts _ m_105) (fun _ h9 => h9) rfl (by decide +kernel) rfl rfl (Nat.le_of_ble_eq_true rfl) d_PS_init_50 (fun H locs hP hD hS => ?_)
  have hP : va_P (dC, dI) vwCl [(o, .inr (2, [.ref n6, .int (nI 0), .int (nI 0), .int (nI 0), .ref n28, .ref n36, .ref n43, .int (nI 0), .int (nI 0), .int (nI 0)])), (n6, .inl (cI, 5, .inl (aN (fun _ => 0)))), (n28, .inl (cI, 5, .inl (aN (fun _ => 0)))), (n36, .inl (cI, 6, .inl (aN (fun _ => 0)))), (n43, .inl (cI, 5, .inl (aN (fun _ => 0))))] H := hP
  have hD : va_D A [(o, .inr (2, [.ref n6, .int (nI 0), .int (nI 0), .int (nI 0), .ref n28, .ref n36, .ref n43, .int (nI 0), .int (nI 0), .int (nI 0)])), (n6, .inl (cI, 5, .inl (aN (fun _ => 0)))), (n28, .inl (cI, 5, .inl (aN (fun _ => 0)))), (n36, .inl (cI, 6, .inl (aN (fun _ => 0)))), (n43, .inl (cI, 5, .inl (aN (fun _ => 0))))] := hD
  refine lv_aload_n hx hb d_PS_init_53 rfl (lv_at hl 0 rfl) ?_
  refine lv_iconst (v := nI 0) hx hb d_PS_init_54 (by decide +kernel) ?_
  refine va_put (D := (dC, dI)) (ci := 2) (v := .int (nI 0)) (ty := .int) (C := R_PS) (T := F_PS) (N := 10) hx hb hts in_PS t_PS t_PS_ok n_PS hown hK hP hD hS 0 rfl rfl 8 (by decide) (hts _ m_106) (fun _ h9 => h9) rfl (by decide +kernel) rfl rfl (Nat.le_of_ble_eq_true rfl) d_PS_init_55 (fun H locs hP hD hS => ?_)
  have hP : va_P (dC, dI) vwCl [(o, .inr (2, [.ref n6, .int (nI 0), .int (nI 0), .int (nI 0), .ref n28, .ref n36, .ref n43, .int (nI 0), .int (nI 0), .int (nI 0)])), (n6, .inl (cI, 5, .inl (aN (fun _ => 0)))), (n28, .inl (cI, 5, .inl (aN (fun _ => 0)))), (n36, .inl (cI, 6, .inl (aN (fun _ => 0)))), (n43, .inl (cI, 5, .inl (aN (fun _ => 0))))] H := hP
  have hD : va_D A [(o, .inr (2, [.ref n6, .int (nI 0), .int (nI 0), .int (nI 0), .ref n28, .ref n36, .ref n43, .int (nI 0), .int (nI 0), .int (nI 0)])), (n6, .inl (cI, 5, .inl (aN (fun _ => 0)))), (n28, .inl (cI, 5, .inl (aN (fun _ => 0)))), (n36, .inl (cI, 6, .inl (aN (fun _ => 0)))), (n43, .inl (cI, 5, .inl (aN (fun _ => 0))))] := hD
  refine lv_aload_n hx hb d_PS_init_58 rfl (lv_at hl 0 rfl) ?_
  refine lv_iconst (v := nI 0) hx hb d_PS_init_59 (by decide +kernel) ?_
  refine va_put (D := (dC, dI)) (ci := 2) (v := .int (nI 0)) (ty := .int) (C := R_PS) (T := F_PS) (N := 10) hx hb hts in_PS t_PS t_PS_ok n_PS hown hK hP hD hS 0 rfl rfl 9 (by decide) (hts _ m_107) (fun _ h9 => h9) rfl (by decide +kernel) rfl rfl (Nat.le_of_ble_eq_true rfl) d_PS_init_60 (fun H locs hP hD hS => ?_)
  have hP : va_P (dC, dI) vwCl [(o, .inr (2, [.ref n6, .int (nI 0), .int (nI 0), .int (nI 0), .ref n28, .ref n36, .ref n43, .int (nI 0), .int (nI 0), .int (nI 0)])), (n6, .inl (cI, 5, .inl (aN (fun _ => 0)))), (n28, .inl (cI, 5, .inl (aN (fun _ => 0)))), (n36, .inl (cI, 6, .inl (aN (fun _ => 0)))), (n43, .inl (cI, 5, .inl (aN (fun _ => 0))))] H := hP
  have hD : va_D A [(o, .inr (2, [.ref n6, .int (nI 0), .int (nI 0), .int (nI 0), .ref n28, .ref n36, .ref n43, .int (nI 0), .int (nI 0), .int (nI 0)])), (n6, .inl (cI, 5, .inl (aN (fun _ => 0)))), (n28, .inl (cI, 5, .inl (aN (fun _ => 0)))), (n36, .inl (cI, 6, .inl (aN (fun _ => 0)))), (n43, .inl (cI, 5, .inl (aN (fun _ => 0))))] := hD
  exact W.vret hx hb hr (fun t ht hW => ⟨⟨(n6, n28, n36, n43), rfl, trivial, by rw [ht]; exact hP, va_K.moved hW.alike hK, hD⟩, hS.F ht⟩) hS.2.2 d_PS_init_63
set_option maxHeartbeats 4000000 in
set_option maxRecDepth 100000 in
/-- the constructor -/
theorem c_SQ_init (l : Launch) (dC : Nat → ClassId) (dI : Nat → Nat → Nat) (sz : Nat) (o : Nat) (cI : ClassId) : Met l y_SQ_init w_SQ_init { frames := 1, cells := 3, slots := 4698, locals := 12 } (rw_Pc (dC, dI) vwCl [(cI, .int)] sz [.ref o] [(o, .inr (3, [.null, .int (nI 0), .int (nI 0), .null, .null]))]) (va_Qv (fun (u : Nat × Nat × Nat) => True) (rw_B (dC, dI) vwCl [(cI, .int)] (va_A [(o, .inr (3, [.null, .int (nI 0), .int (nI 0), .null, .null]))] sz) (fun u : Nat × Nat × Nat => [(o, .inr (3, [.ref u.1, .int (nI 0), .int (nI 0), .ref u.2.1, .ref u.2.2])), (u.1, .inl (cI, 9, .inl (aN (fun _ => 0)))), (u.2.1, .inl (cI, 81, .inl (aN (fun _ => 0)))), (u.2.2, .inl (cI, 4608, .inl (aN (fun _ => 0))))])) (va_A [(o, .inr (3, [.null, .int (nI 0), .int (nI 0), .null, .null]))] sz)) 3 4698 (va_A [(o, .inr (3, [.null, .int (nI 0), .int (nI 0), .null, .null]))] sz) := by
  refine Met.ofW (cc := b_SQ_init) (maxL := 1) (ret := none) (by decide) rfl ?_
  intro p e s m args below meth c s₁ B hml hv
  obtain ⟨rfl, hsz, hP, hK, hD0⟩ := hv
  have hx := B.exec
  have hb := B.bytes
  have hr := B.returns
  have hts := gw_h (atoms_spec (ws := w_SQ_init) B.pre)
  have hown : s.vm.findClass R_SQ = some m.cls := findClass_of_methodNamed B.named
  have hlocks := B.notSynchronized
  have hin : meth.name = "<init>" := (name_of_methodNamed B.named B.method).1
  subst hsz
  have hD := hD0.self (sz := s.heap.size)
  generalize hAe : va_A [(o, .inr (3, [.null, .int (nI 0), .int (nI 0), .null, .null]))] s.heap.size = A at hD ⊢
  have hA : ∀ q : Nat, s.heap.size ≤ q → A q := fun q h => by rw [← hAe]; exact Or.inr h
  have hS : va_S A s.heap s.heap [] := va_S.rf
  have hP : va_P (dC, dI) vwCl [(o, .inr (3, [.null, .int (nI 0), .int (nI 0), .null, .null]))] s.heap := hP
  have hl := lv_entry ([.ref o]) (n := 1) (Nat.le_of_ble_eq_true rfl)
  rw [lg_entry_eq]
  generalize (lg_sl ([.ref o]) ++ List.replicate (1 - (lg_sl ([.ref o])).length) Slot.unset).toArray = ls at hl ⊢
  have hl : lv_has ls 1 [(0, .ref o)] := hl
  refine lv_aload_n hx hb d_SQ_init_0 rfl (lv_at hl 0 rfl) ?_
  refine W.objInit hx hb hown (hts _ m_156) (hts _ m_24) (hts _ m_25) rfl (by rw [hml]; exact hl.1) rfl d_SQ_init_1 (Nat.le_of_ble_eq_true rfl) (Nat.le_of_ble_eq_true rfl) ?_
  refine W.eq (g2 := F0 m 4 ls []) rfl ?_
  refine lv_aload_n hx hb d_SQ_init_4 rfl (lv_at hl 0 rfl) ?_
  refine lv_bipush (v := nI 9) hx hb d_SQ_init_5 (by decide +kernel) ?_
  refine va_newa (atype := .int) (a0 := (9, .inl (aN (fun _ => 0)))) (ty := .int) (N' := 9) hx hb (hts _ m_85) rfl hK hP hD hS hA (fun _ => rfl) (by decide +kernel) (by decide +kernel) (by decide) (Nat.le_of_ble_eq_true rfl) (Nat.le_of_ble_eq_true rfl) d_SQ_init_7 (fun n7 cA H hK hP hD hS => ?_)
  obtain rfl := cI_eq hK
  have hK := hK.sub (tys' := [(cI, .int)]) [0] rfl
  refine W.widen (k := 1) (n := 9) (Nat.le_refl _) (Nat.le_refl _) ?_
  have hP : va_P (dC, dI) vwCl [(o, .inr (3, [.null, .int (nI 0), .int (nI 0), .null, .null])), (n7, .inl (cI, 9, .inl (aN (fun _ => 0))))] H := hP
  have hD : va_D A [(o, .inr (3, [.null, .int (nI 0), .int (nI 0), .null, .null])), (n7, .inl (cI, 9, .inl (aN (fun _ => 0))))] := hD
  refine va_putF (D := (dC, dI)) (ci := 3) (v := .ref n7) (ty := .array .int) (C := R_SQ) (T := F_SQ) (N := 5) hx hb hts in_SQ t_SQ t_SQ_ok n_SQ hown hK hP hD hS 0 rfl rfl 0 (by decide) (hts _ m_157) (fun _ h9 => h9) rfl hin rfl (by decide +kernel) rfl rfl (Nat.le_of_ble_eq_true rfl) d_SQ_init_9 (fun H locs hP hD hS => ?_)
  have hP : va_P (dC, dI) vwCl [(o, .inr (3, [.ref n7, .int (nI 0), .int (nI 0), .null, .null])), (n7, .inl (cI, 9, .inl (aN (fun _ => 0))))] H := hP
  have hD : va_D A [(o, .inr (3, [.ref n7, .int (nI 0), .int (nI 0), .null, .null])), (n7, .inl (cI, 9, .inl (aN (fun _ => 0))))] := hD
  refine lv_aload_n hx hb d_SQ_init_12 rfl (lv_at hl 0 rfl) ?_
  refine lv_iconst (v := nI 0) hx hb d_SQ_init_13 (by decide +kernel) ?_
  refine va_put (D := (dC, dI)) (ci := 3) (v := .int (nI 0)) (ty := .int) (C := R_SQ) (T := F_SQ) (N := 5) hx hb hts in_SQ t_SQ t_SQ_ok n_SQ hown hK hP hD hS 0 rfl rfl 1 (by decide) (hts _ m_159) (fun _ h9 => h9) rfl (by decide +kernel) rfl rfl (Nat.le_of_ble_eq_true rfl) d_SQ_init_14 (fun H locs hP hD hS => ?_)
  have hP : va_P (dC, dI) vwCl [(o, .inr (3, [.ref n7, .int (nI 0), .int (nI 0), .null, .null])), (n7, .inl (cI, 9, .inl (aN (fun _ => 0))))] H := hP
  have hD : va_D A [(o, .inr (3, [.ref n7, .int (nI 0), .int (nI 0), .null, .null])), (n7, .inl (cI, 9, .inl (aN (fun _ => 0))))] := hD
  refine lv_aload_n hx hb d_SQ_init_17 rfl (lv_at hl 0 rfl) ?_
  refine lv_iconst (v := nI 0) hx hb d_SQ_init_18 (by decide +kernel) ?_
  refine va_put (D := (dC, dI)) (ci := 3) (v := .int (nI 0)) (ty := .boolean) (C := R_SQ) (T := F_SQ) (N := 5) hx hb hts in_SQ t_SQ t_SQ_ok n_SQ hown hK hP hD hS 0 rfl rfl 2 (by decide) (hts _ m_161) (fun _ h9 => h9) rfl (by decide +kernel) (by decide +kernel) (by decide +kernel) (Nat.le_of_ble_eq_true rfl) d_SQ_init_19 (fun H locs hP hD hS => ?_)
  have hP : va_P (dC, dI) vwCl [(o, .inr (3, [.ref n7, .int (nI 0), .int (nI 0), .null, .null])), (n7, .inl (cI, 9, .inl (aN (fun _ => 0))))] H := hP
  have hD : va_D A [(o, .inr (3, [.ref n7, .int (nI 0), .int (nI 0), .null, .null])), (n7, .inl (cI, 9, .inl (aN (fun _ => 0))))] := hD
  refine lv_aload_n hx hb d_SQ_init_22 rfl (lv_at hl 0 rfl) ?_
  refine lv_bipush (v := nI 81) hx hb d_SQ_init_23 (by decide +kernel) ?_
  refine va_newa (atype := .int) (a0 := (81, .inl (aN (fun _ => 0)))) (ty := .int) (N' := 81) hx hb (hts _ m_85) rfl hK hP hD hS hA (fun _ => rfl) (by decide +kernel) (by decide +kernel) (by decide) (Nat.le_of_ble_eq_true rfl) (Nat.le_of_ble_eq_true rfl) d_SQ_init_25 (fun n25 cA H hK hP hD hS => ?_)
  obtain rfl := cI_eq hK
  have hK := hK.sub (tys' := [(cI, .int)]) [0] rfl
  refine W.widen (k := 2) (n := 90) (Nat.le_refl _) (Nat.le_refl _) ?_
  have hP : va_P (dC, dI) vwCl [(o, .inr (3, [.ref n7, .int (nI 0), .int (nI 0), .null, .null])), (n7, .inl (cI, 9, .inl (aN (fun _ => 0)))), (n25, .inl (cI, 81, .inl (aN (fun _ => 0))))] H := hP
  have hD : va_D A [(o, .inr (3, [.ref n7, .int (nI 0), .int (nI 0), .null, .null])), (n7, .inl (cI, 9, .inl (aN (fun _ => 0)))), (n25, .inl (cI, 81, .inl (aN (fun _ => 0))))] := hD
  refine va_putF (D := (dC, dI)) (ci := 3) (v := .ref n25) (ty := .array .int) (C := R_SQ) (T := F_SQ) (N := 5) hx hb hts in_SQ t_SQ t_SQ_ok n_SQ hown hK hP hD hS 0 rfl rfl 3 (by decide) (hts _ m_163) (fun _ h9 => h9) rfl hin rfl (by decide +kernel) rfl rfl (Nat.le_of_ble_eq_true rfl) d_SQ_init_27 (fun H locs hP hD hS => ?_)
  have hP : va_P (dC, dI) vwCl [(o, .inr (3, [.ref n7, .int (nI 0), .int (nI 0), .ref n25, .null])), (n7, .inl (cI, 9, .inl (aN (fun _ => 0)))), (n25, .inl (cI, 81, .inl (aN (fun _ => 0))))] H := hP
  have hD : va_D A [(o, .inr (3, [.ref n7, .int (nI 0), .int (nI 0), .ref n25, .null])), (n7, .inl (cI, 9, .inl (aN (fun _ => 0)))), (n25, .inl (cI, 81, .inl (aN (fun _ => 0))))] := hD
  refine lv_aload_n hx hb d_SQ_init_30 rfl (lv_at hl 0 rfl) ?_
  refine lv_sipush (v := nI 4608) hx hb d_SQ_init_31 (by decide +kernel) ?_
  refine va_newa (atype := .int) (a0 := (4608, .inl (aN (fun _ => 0)))) (ty := .int) (N' := 4608) hx hb (hts _ m_85) rfl hK hP hD hS hA (fun _ => rfl) (by decide +kernel) (by decide +kernel) (by decide) (Nat.le_of_ble_eq_true rfl) (Nat.le_of_ble_eq_true rfl) d_SQ_init_34 (fun n34 cA H hK hP hD hS => ?_)
  obtain rfl := cI_eq hK
  have hK := hK.sub (tys' := [(cI, .int)]) [0] rfl
  refine W.widen (k := 3) (n := 4698) (Nat.le_refl _) (Nat.le_refl _) ?_
  have hP : va_P (dC, dI) vwCl [(o, .inr (3, [.ref n7, .int (nI 0), .int (nI 0), .ref n25, .null])), (n7, .inl (cI, 9, .inl (aN (fun _ => 0)))), (n25, .inl (cI, 81, .inl (aN (fun _ => 0)))), (n34, .inl (cI, 4608, .inl (aN (fun _ => 0))))] H := hP
  have hD : va_D A [(o, .inr (3, [.ref n7, .int (nI 0), .int (nI 0), .ref n25, .null])), (n7, .inl (cI, 9, .inl (aN (fun _ => 0)))), (n25, .inl (cI, 81, .inl (aN (fun _ => 0)))), (n34, .inl (cI, 4608, .inl (aN (fun _ => 0))))] := hD
  refine va_putF (D := (dC, dI)) (ci := 3) (v := .ref n34) (ty := .array .int) (C := R_SQ) (T := F_SQ) (N := 5) hx hb hts in_SQ t_SQ t_SQ_ok n_SQ hown hK hP hD hS 0 rfl rfl 4 (by decide) (hts _ m_164) (fun _ h9 => h9) rfl hin rfl (by decide +kernel) rfl rfl (Nat.le_of_ble_eq_true rfl) d_SQ_init_36 (fun H locs hP hD hS => ?_)
  have hP : va_P (dC, dI) vwCl [(o, .inr (3, [.ref n7, .int (nI 0), .int (nI 0), .ref n25, .ref n34])), (n7, .inl (cI, 9, .inl (aN (fun _ => 0)))), (n25, .inl (cI, 81, .inl (aN (fun _ => 0)))), (n34, .inl (cI, 4608, .inl (aN (fun _ => 0))))] H := hP
  have hD : va_D A [(o, .inr (3, [.ref n7, .int (nI 0), .int (nI 0), .ref n25, .ref n34])), (n7, .inl (cI, 9, .inl (aN (fun _ => 0)))), (n25, .inl (cI, 81, .inl (aN (fun _ => 0)))), (n34, .inl (cI, 4608, .inl (aN (fun _ => 0))))] := hD
  exact W.vret hx hb hr (fun t ht hW => ⟨⟨(n7, n25, n34), rfl, trivial, by rw [ht]; exact hP, va_K.moved hW.alike hK, hD⟩, hS.F ht⟩) hS.2.2 d_SQ_init_39
set_option maxHeartbeats 4000000 in
set_option maxRecDepth 100000 in
/-- the constructor -/
theorem c_SU_init (l : Launch) (dC : Nat → ClassId) (dI : Nat → Nat → Nat) (sz : Nat) (o : Nat) (cI : ClassId) : Met l y_SU_init w_SU_init { frames := 1, cells := 4, slots := 150, locals := 12 } (rw_Pc (dC, dI) vwCl [(cI, .int)] sz [.ref o] [(o, .inr (4, [.null, .null, .null, .int (nI 0), .int (nI 0), .null, .int (nI 0), .int (nI 0), .int (nI 0), .int (nI 0), .int (nI 0)]))]) (va_Qv (fun (u : Nat × Nat × Nat × Nat) => True) (rw_B (dC, dI) vwCl [(cI, .int)] (va_A [(o, .inr (4, [.null, .null, .null, .int (nI 0), .int (nI 0), .null, .int (nI 0), .int (nI 0), .int (nI 0), .int (nI 0), .int (nI 0)]))] sz) (fun u : Nat × Nat × Nat × Nat => [(o, .inr (4, [.ref u.1, .ref u.2.1, .ref u.2.2.1, .int (nI 0), .int (nI 0), .ref u.2.2.2, .int (nI 0), .int (nI 0), .int (nI 0), .int (nI 0), .int (nI 0)])), (u.1, .inl (cI, 30, .inl (aN (fun _ => 0)))), (u.2.1, .inl (cI, 30, .inl (aN (fun _ => 0)))), (u.2.2.1, .inl (cI, 30, .inl (aN (fun _ => 0)))), (u.2.2.2, .inl (cI, 60, .inl (aN (fun _ => 0))))])) (va_A [(o, .inr (4, [.null, .null, .null, .int (nI 0), .int (nI 0), .null, .int (nI 0), .int (nI 0), .int (nI 0), .int (nI 0), .int (nI 0)]))] sz)) 4 150 (va_A [(o, .inr (4, [.null, .null, .null, .int (nI 0), .int (nI 0), .null, .int (nI 0), .int (nI 0), .int (nI 0), .int (nI 0), .int (nI 0)]))] sz) := by
  refine Met.ofW (cc := b_SU_init) (maxL := 1) (ret := none) (by decide) rfl ?_
  intro p e s m args below meth c s₁ B hml hv
  obtain ⟨rfl, hsz, hP, hK, hD0⟩ := hv
  have hx := B.exec
  have hb := B.bytes
  have hr := B.returns
  have hts := gw_h (atoms_spec (ws := w_SU_init) B.pre)
  have hown : s.vm.findClass R_SU = some m.cls := findClass_of_methodNamed B.named
  have hlocks := B.notSynchronized
  have hin : meth.name = "<init>" := (name_of_methodNamed B.named B.method).1
  subst hsz
  have hD := hD0.self (sz := s.heap.size)
  generalize hAe : va_A [(o, .inr (4, [.null, .null, .null, .int (nI 0), .int (nI 0), .null, .int (nI 0), .int (nI 0), .int (nI 0), .int (nI 0), .int (nI 0)]))] s.heap.size = A at hD ⊢
  have hA : ∀ q : Nat, s.heap.size ≤ q → A q := fun q h => by rw [← hAe]; exact Or.inr h
  have hS : va_S A s.heap s.heap [] := va_S.rf
  have hP : va_P (dC, dI) vwCl [(o, .inr (4, [.null, .null, .null, .int (nI 0), .int (nI 0), .null, .int (nI 0), .int (nI 0), .int (nI 0), .int (nI 0), .int (nI 0)]))] s.heap := hP
  have hl := lv_entry ([.ref o]) (n := 1) (Nat.le_of_ble_eq_true rfl)
  rw [lg_entry_eq]
  generalize (lg_sl ([.ref o]) ++ List.replicate (1 - (lg_sl ([.ref o])).length) Slot.unset).toArray = ls at hl ⊢
  have hl : lv_has ls 1 [(0, .ref o)] := hl
  refine lv_aload_n hx hb d_SU_init_0 rfl (lv_at hl 0 rfl) ?_
  refine W.objInit hx hb hown (hts _ m_182) (hts _ m_24) (hts _ m_25) rfl (by rw [hml]; exact hl.1) rfl d_SU_init_1 (Nat.le_of_ble_eq_true rfl) (Nat.le_of_ble_eq_true rfl) ?_
  refine W.eq (g2 := F0 m 4 ls []) rfl ?_
  refine lv_aload_n hx hb d_SU_init_4 rfl (lv_at hl 0 rfl) ?_
  refine lv_bipush (v := nI 30) hx hb d_SU_init_5 (by decide +kernel) ?_
  refine va_newa (atype := .int) (a0 := (30, .inl (aN (fun _ => 0)))) (ty := .int) (N' := 30) hx hb (hts _ m_85) rfl hK hP hD hS hA (fun _ => rfl) (by decide +kernel) (by decide +kernel) (by decide) (Nat.le_of_ble_eq_true rfl) (Nat.le_of_ble_eq_true rfl) d_SU_init_7 (fun n7 cA H hK hP hD hS => ?_)
  obtain rfl := cI_eq hK
  have hK := hK.sub (tys' := [(cI, .int)]) [0] rfl
  refine W.widen (k := 1) (n := 30) (Nat.le_refl _) (Nat.le_refl _) ?_
  have hP : va_P (dC, dI) vwCl [(o, .inr (4, [.null, .null, .null, .int (nI 0), .int (nI 0), .null, .int (nI 0), .int (nI 0), .int (nI 0), .int (nI 0), .int (nI 0)])), (n7, .inl (cI, 30, .inl (aN (fun _ => 0))))] H := hP
  have hD : va_D A [(o, .inr (4, [.null, .null, .null, .int (nI 0), .int (nI 0), .null, .int (nI 0), .int (nI 0), .int (nI 0), .int (nI 0), .int (nI 0)])), (n7, .inl (cI, 30, .inl (aN (fun _ => 0))))] := hD
  refine va_putF (D := (dC, dI)) (ci := 4) (v := .ref n7) (ty := .array .int) (C := R_SU) (T := F_SU) (N := 11) hx hb hts in_SU t_SU t_SU_ok n_SU hown hK hP hD hS 0 rfl rfl 0 (by decide) (hts _ m_183) (fun _ h9 => h9) rfl hin rfl (by decide +kernel) rfl rfl (Nat.le_of_ble_eq_true rfl) d_SU_init_9 (fun H locs hP hD hS => ?_)
  have hP : va_P (dC, dI) vwCl [(o, .inr (4, [.ref n7, .null, .null, .int (nI 0), .int (nI 0), .null, .int (nI 0), .int (nI 0), .int (nI 0), .int (nI 0), .int (nI 0)])), (n7, .inl (cI, 30, .inl (aN (fun _ => 0))))] H := hP
  have hD : va_D A [(o, .inr (4, [.ref n7, .null, .null, .int (nI 0), .int (nI 0), .null, .int (nI 0), .int (nI 0), .int (nI 0), .int (nI 0), .int (nI 0)])), (n7, .inl (cI, 30, .inl (aN (fun _ => 0))))] := hD
  refine lv_aload_n hx hb d_SU_init_12 rfl (lv_at hl 0 rfl) ?_
  refine lv_bipush (v := nI 30) hx hb d_SU_init_13 (by decide +kernel) ?_
  refine va_newa (atype := .int) (a0 := (30, .inl (aN (fun _ => 0)))) (ty := .int) (N' := 30) hx hb (hts _ m_85) rfl hK hP hD hS hA (fun _ => rfl) (by decide +kernel) (by decide +kernel) (by decide) (Nat.le_of_ble_eq_true rfl) (Nat.le_of_ble_eq_true rfl) d_SU_init_15 (fun n15 cA H hK hP hD hS => ?_)
  obtain rfl := cI_eq hK
  have hK := hK.sub (tys' := [(cI, .int)]) [0] rfl
  refine W.widen (k := 2) (n := 60) (Nat.le_refl _) (Nat.le_refl _) ?_
  have hP : va_P (dC, dI) vwCl [(o, .inr (4, [.ref n7, .null, .null, .int (nI 0), .int (nI 0), .null, .int (nI 0), .int (nI 0), .int (nI 0), .int (nI 0), .int (nI 0)])), (n7, .inl (cI, 30, .inl (aN (fun _ => 0)))), (n15, .inl (cI, 30, .inl (aN (fun _ => 0))))] H := hP
  have hD : va_D A [(o, .inr (4, [.ref n7, .null, .null, .int (nI 0), .int (nI 0), .null, .int (nI 0), .int (nI 0), .int (nI 0), .int (nI 0), .int (nI 0)])), (n7, .inl (cI, 30, .inl (aN (fun _ => 0)))), (n15, .inl (cI, 30, .inl (aN (fun _ => 0))))] := hD
  refine va_putF (D := (dC, dI)) (ci := 4) (v := .ref n15) (ty := .array .int) (C := R_SU) (T := F_SU) (N := 11) hx hb hts in_SU t_SU t_SU_ok n_SU hown hK hP hD hS 0 rfl rfl 1 (by decide) (hts _ m_185) (fun _ h9 => h9) rfl hin rfl (by decide +kernel) rfl rfl (Nat.le_of_ble_eq_true rfl) d_SU_init_17 (fun H locs hP hD hS => ?_)
  have hP : va_P (dC, dI) vwCl [(o, .inr (4, [.ref n7, .ref n15, .null, .int (nI 0), .int (nI 0), .null, .int (nI 0), .int (nI 0), .int (nI 0), .int (nI 0), .int (nI 0)])), (n7, .inl (cI, 30, .inl (aN (fun _ => 0)))), (n15, .inl (cI, 30, .inl (aN (fun _ => 0))))] H := hP
  have hD : va_D A [(o, .inr (4, [.ref n7, .ref n15, .null, .int (nI 0), .int (nI 0), .null, .int (nI 0), .int (nI 0), .int (nI 0), .int (nI 0), .int (nI 0)])), (n7, .inl (cI, 30, .inl (aN (fun _ => 0)))), (n15, .inl (cI, 30, .inl (aN (fun _ => 0))))] := hD
  refine lv_aload_n hx hb d_SU_init_20 rfl (lv_at hl 0 rfl) ?_
  refine lv_bipush (v := nI 30) hx hb d_SU_init_21 (by decide +kernel) ?_
  refine va_newa (atype := .int) (a0 := (30, .inl (aN (fun _ => 0)))) (ty := .int) (N' := 30) hx hb (hts _ m_85) rfl hK hP hD hS hA (fun _ => rfl) (by decide +kernel) (by decide +kernel) (by decide) (Nat.le_of_ble_eq_true rfl) (Nat.le_of_ble_eq_true rfl) d_SU_init_23 (fun n23 cA H hK hP hD hS => ?_)
  obtain rfl := cI_eq hK
  have hK := hK.sub (tys' := [(cI, .int)]) [0] rfl
  refine W.widen (k := 3) (n := 90) (Nat.le_refl _) (Nat.le_refl _) ?_
  have hP : va_P (dC, dI) vwCl [(o, .inr (4, [.ref n7, .ref n15, .null, .int (nI 0), .int (nI 0), .null, .int (nI 0), .int (nI 0), .int (nI 0), .int (nI 0), .int (nI 0)])), (n7, .inl (cI, 30, .inl (aN (fun _ => 0)))), (n15, .inl (cI, 30, .inl (aN (fun _ => 0)))), (n23, .inl (cI, 30, .inl (aN (fun _ => 0))))] H := hP
  have hD : va_D A [(o, .inr (4, [.ref n7, .ref n15, .null, .int (nI 0), .int (nI 0), .null, .int (nI 0), .int (nI 0), .int (nI 0), .int (nI 0), .int (nI 0)])), (n7, .inl (cI, 30, .inl (aN (fun _ => 0)))), (n15, .inl (cI, 30, .inl (aN (fun _ => 0)))), (n23, .inl (cI, 30, .inl (aN (fun _ => 0))))] := hD
  refine va_putF (D := (dC, dI)) (ci := 4) (v := .ref n23) (ty := .array .int) (C := R_SU) (T := F_SU) (N := 11) hx hb hts in_SU t_SU t_SU_ok n_SU hown hK hP hD hS 0 rfl rfl 2 (by decide) (hts _ m_187) (fun _ h9 => h9) rfl hin rfl (by decide +kernel) rfl rfl (Nat.le_of_ble_eq_true rfl) d_SU_init_25 (fun H locs hP hD hS => ?_)
  have hP : va_P (dC, dI) vwCl [(o, .inr (4, [.ref n7, .ref n15, .ref n23, .int (nI 0), .int (nI 0), .null, .int (nI 0), .int (nI 0), .int (nI 0), .int (nI 0), .int (nI 0)])), (n7, .inl (cI, 30, .inl (aN (fun _ => 0)))), (n15, .inl (cI, 30, .inl (aN (fun _ => 0)))), (n23, .inl (cI, 30, .inl (aN (fun _ => 0))))] H := hP
  have hD : va_D A [(o, .inr (4, [.ref n7, .ref n15, .ref n23, .int (nI 0), .int (nI 0), .null, .int (nI 0), .int (nI 0), .int (nI 0), .int (nI 0), .int (nI 0)])), (n7, .inl (cI, 30, .inl (aN (fun _ => 0)))), (n15, .inl (cI, 30, .inl (aN (fun _ => 0)))), (n23, .inl (cI, 30, .inl (aN (fun _ => 0))))] := hD
  refine lv_aload_n hx hb d_SU_init_28 rfl (lv_at hl 0 rfl) ?_
  refine lv_iconst (v := nI 0) hx hb d_SU_init_29 (by decide +kernel) ?_
  refine va_put (D := (dC, dI)) (ci := 4) (v := .int (nI 0)) (ty := .int) (C := R_SU) (T := F_SU) (N := 11) hx hb hts in_SU t_SU t_SU_ok n_SU hown hK hP hD hS 0 rfl rfl 3 (by decide) (hts _ m_189) (fun _ h9 => h9) rfl (by decide +kernel) rfl rfl (Nat.le_of_ble_eq_true rfl) d_SU_init_30 (fun H locs hP hD hS => ?_)
  have hP : va_P (dC, dI) vwCl [(o, .inr (4, [.ref n7, .ref n15, .ref n23, .int (nI 0), .int (nI 0), .null, .int (nI 0), .int (nI 0), .int (nI 0), .int (nI 0), .int (nI 0)])), (n7, .inl (cI, 30, .inl (aN (fun _ => 0)))), (n15, .inl (cI, 30, .inl (aN (fun _ => 0)))), (n23, .inl (cI, 30, .inl (aN (fun _ => 0))))] H := hP
  have hD : va_D A [(o, .inr (4, [.ref n7, .ref n15, .ref n23, .int (nI 0), .int (nI 0), .null, .int (nI 0), .int (nI 0), .int (nI 0), .int (nI 0), .int (nI 0)])), (n7, .inl (cI, 30, .inl (aN (fun _ => 0)))), (n15, .inl (cI, 30, .inl (aN (fun _ => 0)))), (n23, .inl (cI, 30, .inl (aN (fun _ => 0))))] := hD
  refine lv_aload_n hx hb d_SU_init_33 rfl (lv_at hl 0 rfl) ?_
  refine lv_iconst (v := nI 0) hx hb d_SU_init_34 (by decide +kernel) ?_
  refine va_put (D := (dC, dI)) (ci := 4) (v := .int (nI 0)) (ty := .int) (C := R_SU) (T := F_SU) (N := 11) hx hb hts in_SU t_SU t_SU_ok n_SU hown hK hP hD hS 0 rfl rfl 4 (by decide) (hts _ m_191) (fun _ h9 => h9) rfl (by decide +kernel) rfl rfl (Nat.le_of_ble_eq_true rfl) d_SU_init_35 (fun H locs hP hD hS => ?_)
  have hP : va_P (dC, dI) vwCl [(o, .inr (4, [.ref n7, .ref n15, .ref n23, .int (nI 0), .int (nI 0), .null, .int (nI 0), .int (nI 0), .int (nI 0), .int (nI 0), .int (nI 0)])), (n7, .inl (cI, 30, .inl (aN (fun _ => 0)))), (n15, .inl (cI, 30, .inl (aN (fun _ => 0)))), (n23, .inl (cI, 30, .inl (aN (fun _ => 0))))] H := hP
  have hD : va_D A [(o, .inr (4, [.ref n7, .ref n15, .ref n23, .int (nI 0), .int (nI 0), .null, .int (nI 0), .int (nI 0), .int (nI 0), .int (nI 0), .int (nI 0)])), (n7, .inl (cI, 30, .inl (aN (fun _ => 0)))), (n15, .inl (cI, 30, .inl (aN (fun _ => 0)))), (n23, .inl (cI, 30, .inl (aN (fun _ => 0))))] := hD
  refine lv_aload_n hx hb d_SU_init_38 rfl (lv_at hl 0 rfl) ?_
  refine lv_bipush (v := nI 60) hx hb d_SU_init_39 (by decide +kernel) ?_
  refine va_newa (atype := .int) (a0 := (60, .inl (aN (fun _ => 0)))) (ty := .int) (N' := 60) hx hb (hts _ m_85) rfl hK hP hD hS hA (fun _ => rfl) (by decide +kernel) (by decide +kernel) (by decide) (Nat.le_of_ble_eq_true rfl) (Nat.le_of_ble_eq_true rfl) d_SU_init_41 (fun n41 cA H hK hP hD hS => ?_)
  obtain rfl := cI_eq hK
  have hK := hK.sub (tys' := [(cI, .int)]) [0] rfl
  refine W.widen (k := 4) (n := 150) (Nat.le_refl _) (Nat.le_refl _) ?_
  have hP : va_P (dC, dI) vwCl [(o, .inr (4, [.ref n7, .ref n15, .ref n23, .int (nI 0), .int (nI 0), .null, .int (nI 0), .int (nI 0), .int (nI 0), .int (nI 0), .int (nI 0)])), (n7, .inl (cI, 30, .inl (aN (fun _ => 0)))), (n15, .inl (cI, 30, .inl (aN (fun _ => 0)))), (n23, .inl (cI, 30, .inl (aN (fun _ => 0)))), (n41, .inl (cI, 60, .inl (aN (fun _ => 0))))] H := hP
  have hD : va_D A [(o, .inr (4, [.ref n7, .ref n15, .ref n23, .int (nI 0), .int (nI 0), .null, .int (nI 0), .int (nI 0), .int (nI 0), .int (nI 0), .int (nI 0)])), (n7, .inl (cI, 30, .inl (aN (fun _ => 0)))), (n15, .inl (cI, 30, .inl (aN (fun _ => 0)))), (n23, .inl (cI, 30, .inl (aN (fun _ => 0)))), (n41, .inl (cI, 60, .inl (aN (fun _ => 0))))] := hD
  refine va_putF (D := (dC, dI)) (ci := 4) (v := .ref n41) (ty := .array .int) (C := R_SU) (T := F_SU) (N := 11) hx hb hts in_SU t_SU t_SU_ok n_SU hown hK hP hD hS 0 rfl rfl 5 (by decide) (hts _ m_193) (fun _ h9 => h9) rfl hin rfl (by decide +kernel) rfl rfl (Nat.le_of_ble_eq_true rfl) d_SU_init_43 (fun H locs hP hD hS => ?_)
  have hP : va_P (dC, dI) vwCl [(o, .inr (4, [.ref n7, .ref n15, .ref n23, .int (nI 0), .int (nI 0), .ref n41, .int (nI 0), .int (nI 0), .int (nI 0), .int (nI 0), .int (nI 0)])), (n7, .inl (cI, 30, .inl (aN (fun _ => 0)))), (n15, .inl (cI, 30, .inl (aN (fun _ => 0)))), (n23, .inl (cI, 30, .inl (aN (fun _ => 0)))), (n41, .inl (cI, 60, .inl (aN (fun _ => 0))))] H := hP
  have hD : va_D A [(o, .inr (4, [.ref n7, .ref n15, .ref n23, .int (nI 0), .int (nI 0), .ref n41, .int (nI 0), .int (nI 0), .int (nI 0), .int (nI 0), .int (nI 0)])), (n7, .inl (cI, 30, .inl (aN (fun _ => 0)))), (n15, .inl (cI, 30, .inl (aN (fun _ => 0)))), (n23, .inl (cI, 30, .inl (aN (fun _ => 0)))), (n41, .inl (cI, 60, .inl (aN (fun _ => 0))))] := hD
  refine lv_aload_n hx hb d_SU_init_46 rfl (lv_at hl 0 rfl) ?_
  refine lv_iconst (v := nI 0) hx hb d_SU_init_47 (by decide +kernel) ?_
  refine va_put (D := (dC, dI)) (ci := 4) (v := .int (nI 0)) (ty := .int) (C := R_SU) (T := F_SU) (N := 11) hx hb hts in_SU t_SU t_SU_ok n_SU hown hK hP hD hS 0 rfl rfl 6 (by decide) (hts _ m_194) (fun _ h9 => h9) rfl (by decide +kernel) rfl rfl (Nat.le_of_ble_eq_true rfl) d_SU_init_48 (fun H locs hP hD hS => ?_)
  have hP : va_P (dC, dI) vwCl [(o, .inr (4, [.ref n7, .ref n15, .ref n23, .int (nI 0), .int (nI 0), .ref n41, .int (nI 0), .int (nI 0), .int (nI 0), .int (nI 0), .int (nI 0)])), (n7, .inl (cI, 30, .inl (aN (fun _ => 0)))), (n15, .inl (cI, 30, .inl (aN (fun _ => 0)))), (n23, .inl (cI, 30, .inl (aN (fun _ => 0)))), (n41, .inl (cI, 60, .inl (aN (fun _ => 0))))] H := hP
  have hD : va_D A [(o, .inr (4, [.ref n7, .ref n15, .ref n23, .int (nI 0), .int (nI 0), .ref n41, .int (nI 0), .int (nI 0), .int (nI 0), .int (nI 0), .int (nI 0)])), (n7, .inl (cI, 30, .inl (aN (fun _ => 0)))), (n15, .inl (cI, 30, .inl (aN (fun _ => 0)))), (n23, .inl (cI, 30, .inl (aN (fun _ => 0)))), (n41, .inl (cI, 60, .inl (aN (fun _ => 0))))] := hD
  refine lv_aload_n hx hb d_SU_init_51 rfl (lv_at hl 0 rfl) ?_
  refine lv_iconst (v := nI 0) hx hb d_SU_init_52 (by decide +kernel) ?_
  refine va_put (D := (dC, dI)) (ci := 4) (v := .int (nI 0)) (ty := .int) (C := R_SU) (T := F_SU) (N := 11) hx hb hts in_SU t_SU t_SU_ok n_SU hown hK hP hD hS 0 rfl rfl 7 (by decide) (hts _ m_195) (fun _ h9 => h9) rfl (by decide +kernel) rfl rfl (Nat.le_of_ble_eq_true rfl) d_SU_init_53 (fun H locs hP hD hS => ?_)
  have hP : va_P (dC, dI) vwCl [(o, .inr (4, [.ref n7, .ref n15, .ref n23, .int (nI 0), .int (nI 0), .ref n41, .int (nI 0), .int (nI 0), .int (nI 0), .int (nI 0), .int (nI 0)])), (n7, .inl (cI, 30, .inl (aN (fun _ => 0)))), (n15, .inl (cI, 30, .inl (aN (fun _ => 0)))), (n23, .inl (cI, 30, .inl (aN (fun _ => 0)))), (n41, .inl (cI, 60, .inl (aN (fun _ => 0))))] H := hP
  have hD : va_D A [(o, .inr (4, [.ref n7, .ref n15, .ref n23, .int (nI 0), .int (nI 0), .ref n41, .int (nI 0), .int (nI 0), .int (nI 0), .int (nI 0), .int (nI 0)])), (n7, .inl (cI, 30, .inl (aN (fun _ => 0)))), (n15, .inl (cI, 30, .inl (aN (fun _ => 0)))), (n23, .inl (cI, 30, .inl (aN (fun _ => 0)))), (n41, .inl (cI, 60, .inl (aN (fun _ => 0))))] := hD
  refine lv_aload_n hx hb d_SU_init_56 rfl (lv_at hl 0 rfl) ?_
  refine lv_iconst (v := nI 0) hx hb d_SU_init_57 (by decide +kernel) ?_
  refine va_put (D := (dC, dI)) (ci := 4) (v := .int (nI 0)) (ty := .int) (C := R_SU) (T := F_SU) (N := 11) hx hb hts in_SU t_SU t_SU_ok n_SU hown hK hP hD hS 0 rfl rfl 8 (by decide) (hts _ m_196) (fun _ h9 => h9) rfl (by decide +kernel) rfl rfl (Nat.le_of_ble_eq_true rfl) d_SU_init_58 (fun H locs hP hD hS => ?_)
  have hP : va_P (dC, dI) vwCl [(o, .inr (4, [.ref n7, .ref n15, .ref n23, .int (nI 0), .int (nI 0), .ref n41, .int (nI 0), .int (nI 0), .int (nI 0), .int (nI 0), .int (nI 0)])), (n7, .inl (cI, 30, .inl (aN (fun _ => 0)))), (n15, .inl (cI, 30, .inl (aN (fun _ => 0)))), (n23, .inl (cI, 30, .inl (aN (fun _ => 0)))), (n41, .inl (cI, 60, .inl (aN (fun _ => 0))))] H := hP
  have hD : va_D A [(o, .inr (4, [.ref n7, .ref n15, .ref n23, .int (nI 0), .int (nI 0), .ref n41, .int (nI 0), .int (nI 0), .int (nI 0), .int (nI 0), .int (nI 0)])), (n7, .inl (cI, 30, .inl (aN (fun _ => 0)))), (n15, .inl (cI, 30, .inl (aN (fun _ => 0)))), (n23, .inl (cI, 30, .inl (aN (fun _ => 0)))), (n41, .inl (cI, 60, .inl (aN (fun _ => 0))))] := hD
  refine lv_aload_n hx hb d_SU_init_61 rfl (lv_at hl 0 rfl) ?_
  refine lv_iconst (v := nI 0) hx hb d_SU_init_62 (by decide +kernel) ?_
  refine va_put (D := (dC, dI)) (ci := 4) (v := .int (nI 0)) (ty := .int) (C := R_SU) (T := F_SU) (N := 11) hx hb hts in_SU t_SU t_SU_ok n_SU hown hK hP hD hS 0 rfl rfl 9 (by decide) (hts _ m_197) (fun _ h9 => h9) rfl (by decide +kernel) rfl rfl (Nat.le_of_ble_eq_true rfl) d_SU_init_63 (fun H locs hP hD hS => ?_)
  have hP : va_P (dC, dI) vwCl [(o, .inr (4, [.ref n7, .ref n15, .ref n23, .int (nI 0), .int (nI 0), .ref n41, .int (nI 0), .int (nI 0), .int (nI 0), .int (nI 0), .int (nI 0)])), (n7, .inl (cI, 30, .inl (aN (fun _ => 0)))), (n15, .inl (cI, 30, .inl (aN (fun _ => 0)))), (n23, .inl (cI, 30, .inl (aN (fun _ => 0)))), (n41, .inl (cI, 60, .inl (aN (fun _ => 0))))] H := hP
  have hD : va_D A [(o, .inr (4, [.ref n7, .ref n15, .ref n23, .int (nI 0), .int (nI 0), .ref n41, .int (nI 0), .int (nI 0), .int (nI 0), .int (nI 0), .int (nI 0)])), (n7, .inl (cI, 30, .inl (aN (fun _ => 0)))), (n15, .inl (cI, 30, .inl (aN (fun _ => 0)))), (n23, .inl (cI, 30, .inl (aN (fun _ => 0)))), (n41, .inl (cI, 60, .inl (aN (fun _ => 0))))] := hD
  refine lv_aload_n hx hb d_SU_init_66 rfl (lv_at hl 0 rfl) ?_
  refine lv_iconst (v := nI 0) hx hb d_SU_init_67 (by decide +kernel) ?_
  refine va_put (D := (dC, dI)) (ci := 4) (v := .int (nI 0)) (ty := .int) (C := R_SU) (T := F_SU) (N := 11) hx hb hts in_SU t_SU t_SU_ok n_SU hown hK hP hD hS 0 rfl rfl 10 (by decide) (hts _ m_198) (fun _ h9 => h9) rfl (by decide +kernel) rfl rfl (Nat.le_of_ble_eq_true rfl) d_SU_init_68 (fun H locs hP hD hS => ?_)
  have hP : va_P (dC, dI) vwCl [(o, .inr (4, [.ref n7, .ref n15, .ref n23, .int (nI 0), .int (nI 0), .ref n41, .int (nI 0), .int (nI 0), .int (nI 0), .int (nI 0), .int (nI 0)])), (n7, .inl (cI, 30, .inl (aN (fun _ => 0)))), (n15, .inl (cI, 30, .inl (aN (fun _ => 0)))), (n23, .inl (cI, 30, .inl (aN (fun _ => 0)))), (n41, .inl (cI, 60, .inl (aN (fun _ => 0))))] H := hP
  have hD : va_D A [(o, .inr (4, [.ref n7, .ref n15, .ref n23, .int (nI 0), .int (nI 0), .ref n41, .int (nI 0), .int (nI 0), .int (nI 0), .int (nI 0), .int (nI 0)])), (n7, .inl (cI, 30, .inl (aN (fun _ => 0)))), (n15, .inl (cI, 30, .inl (aN (fun _ => 0)))), (n23, .inl (cI, 30, .inl (aN (fun _ => 0)))), (n41, .inl (cI, 60, .inl (aN (fun _ => 0))))] := hD
  exact W.vret hx hb hr (fun t ht hW => ⟨⟨(n7, n15, n23, n41), rfl, trivial, by rw [ht]; exact hP, va_K.moved hW.alike hK, hD⟩, hS.F ht⟩) hS.2.2 d_SU_init_71
