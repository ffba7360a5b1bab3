set_option maxHeartbeats 4000000 in
set_option maxRecDepth 100000 in
/-- Arrays.fill over a row of five -/
theorem c_AR_fill (l : Launch) (dC : Nat → ClassId) (dI : Nat → Nat → Nat) (sz : Nat) (ab : Nat) (cI : ClassId) (bc : Nat → Nat) (v9 : Nat) : Met l y_AR_fill w_AR_fill { frames := 0, cells := 0, slots := 0, locals := 0 } (rw_Pc (dC, dI) vwCl [(cI, .int)] sz [.ref ab, .int (nI v9)] [(ab, .inl (cI, 5, .inl (aN bc)))]) (va_Qv (fun (u : (Nat → Nat)) => ∀ j, j < 5 → u j = v9) (rw_B (dC, dI) vwCl [(cI, .int)] (va_A [(ab, .inl (cI, 5, .inl (aN bc)))] sz) (fun u : (Nat → Nat) => [(ab, .inl (cI, 5, .inl (aN u)))])) (va_A [(ab, .inl (cI, 5, .inl (aN bc)))] sz)) 0 0 (va_A [(ab, .inl (cI, 5, .inl (aN bc)))] sz) := by
  refine Met.ofW (cc := b_AR_fill) (maxL := 4) (ret := none) (by decide) rfl ?_
  intro p e s m args below meth c s₁ B hml hv
  obtain ⟨rfl, hsz, hP, hK, hD0⟩ := hv
  have hx := B.exec
  have hb := B.bytes
  have hr := B.returns
  have hts := gw_h (atoms_spec (ws := w_AR_fill) B.pre)
  have hown : s.vm.findClass R_AR = some m.cls := findClass_of_methodNamed B.named
  have hlocks := B.notSynchronized
  subst hsz
  have hD := hD0.self (sz := s.heap.size)
  generalize hAe : va_A [(ab, .inl (cI, 5, .inl (aN bc)))] s.heap.size = A at hD ⊢
  have hA : ∀ q : Nat, s.heap.size ≤ q → A q := fun q h => by rw [← hAe]; exact Or.inr h
  have hS : va_S A s.heap s.heap [] := va_S.rf
  have hP : va_P (dC, dI) vwCl [(ab, .inl (cI, 5, .inl (aN bc)))] s.heap := hP
  have hl := lv_entry ([.ref ab, .int (nI v9)]) (n := 4) (Nat.le_of_ble_eq_true rfl)
  rw [lg_entry_eq]
  generalize (lg_sl ([.ref ab, .int (nI v9)]) ++ List.replicate (4 - (lg_sl ([.ref ab, .int (nI v9)])).length) Slot.unset).toArray = ls at hl ⊢
  have hl : lv_has ls 4 [(0, .ref ab), (1, .int (nI v9))] := hl
  refine lv_iconst (v := nI 0) hx hb d_AR_fill_0 (by decide +kernel) ?_
  refine lv_istore_n (lv' := [(2, .int (nI 0)), (0, .ref ab), (1, .int (nI v9))]) hx hb d_AR_fill_1 rfl hl (by decide) rfl (fun ls hl => ?_)
  refine lv_aload_n hx hb d_AR_fill_2 rfl (lv_at hl 1 rfl) ?_
  refine va_alen (v := nI 5) hx hb hK hP 0 0 rfl rfl rfl d_AR_fill_3 ?_
  refine lv_istore_n (lv' := [(3, .int (nI 5)), (2, .int (nI 0)), (0, .ref ab), (1, .int (nI v9))]) hx hb d_AR_fill_4 rfl hl (by decide) rfl (fun ls hl => ?_)
  have lp : ∀ (n_lp : Nat) (i9 : Nat) (bc : Nat → Nat), (6 ≤ i9 + n_lp) → (i9 ≤ 5) → (∀ j, j < i9 → bc j = v9) → ∀ (H : Heap) (locs : List Loc) (ls : Array Slot), va_P (dC, dI) vwCl [(ab, .inl (cI, 5, .inl (aN bc)))] H → va_D A [(ab, .inl (cI, 5, .inl (aN bc)))] → va_S A s.heap H locs → lv_has ls 4 [(0, .ref ab), (1, .int (nI v9)), (2, .int (nI i9)), (3, .int (nI 5))] → W p l e (headSpec w_AR_fill { frames := 0, cells := 0, slots := 0, locals := 0 }).room s m [.ref ab, .int (nI v9)].toArray below meth c H locs 0 0 (MQ below (va_Qv (fun (u : (Nat → Nat)) => ∀ j, j < 5 → u j = v9) (rw_B (dC, dI) vwCl [(cI, .int)] A (fun u : (Nat → Nat) => [(ab, .inl (cI, 5, .inl (aN u)))])) A) [.ref ab, .int (nI v9)].toArray s 0 0 A) (F0 m 5 ls []) := by
    intro n_lp
    induction n_lp with
    | zero =>
      intro i9 bc hm hi hI
      exact absurd hm (by omega)
    | succ n_lp ih_lp =>
      intro i9 bc hm hi hI H locs ls hP hD hS hl
      refine lv_iload_n hx hb d_AR_fill_5 rfl (lv_at hl 2 rfl) ?_
      refine lv_iload_n hx hb d_AR_fill_6 rfl (lv_at hl 3 rfl) ?_
      refine ix_icmp_ge (tgt := 20) hx hb (nI_tI (n := i9) (by omega)) (nI_tI (n := 5) (by omega)) d_AR_fill_7 (by decide) (fun c_7 => ?_) (fun c_7 => ?_)
      · exact W.vret hx hb hr (fun t ht hW => ⟨⟨bc, rfl, fun j hj => hI j (by omega), by rw [ht]; exact hP, va_K.moved hW.alike hK, hD⟩, hS.F ht⟩) hS.2.2 d_AR_fill_20
      refine lv_aload_n hx hb d_AR_fill_10 rfl (lv_at hl 0 rfl) ?_
      refine lv_iload_n hx hb d_AR_fill_11 rfl (lv_at hl 2 rfl) ?_
      refine lv_iload_n hx hb d_AR_fill_12 rfl (lv_at hl 1 rfl) ?_
      refine ix_iast (i := i9) hx hb hK hP hD hS 0 0 rfl rfl (by omega) (by decide) d_AR_fill_13 (fun H locs hP hD hS => ?_)
      have hP : va_P (dC, dI) vwCl [(ab, .inl (cI, 5, .inl (aN (up bc i9 v9))))] H := hP
      have hD : va_D A [(ab, .inl (cI, 5, .inl (aN (up bc i9 v9))))] := hD
      refine lv_iinc (v := nI (i9 + 1)) (lv' := [(2, .int (nI (i9 + 1))), (0, .ref ab), (1, .int (nI v9)), (3, .int (nI 5))]) hx hb d_AR_fill_14 hl (k := 2) rfl (n_incN i9 1) (by decide) rfl (fun ls hl => ?_)
      refine lv_goto (tgt := 5) hx hb d_AR_fill_17 (by decide) ?_
      exact ih_lp (i9 + 1) (up bc i9 v9) (by omega) (by omega) (lt_s (fun j hj => by rw [up_n _ _ (by omega)]; exact hI j hj) (up_s _ _ _)) _ _ _ hP hD hS (lv_sub hl [1, 2, 0, 3] rfl)
  exact lp 6 0 bc (by omega) (by omega) (fun _ h => absurd h (Nat.not_lt_zero _)) _ _ _ hP hD hS (lv_sub hl [2, 3, 1, 0] rfl)
set_option maxHeartbeats 4000000 in
set_option maxRecDepth 100000 in
/-- keepIfBetter(sum, strips) -/
theorem c_PS_keep (l : Launch) (dC : Nat → ClassId) (dI : Nat → Nat → Nat) (sz : Nat) (a0 ab ap aq ac : Nat) (cI : ClassId) (bc ct : Nat → Nat) (bn bf kn most bs s9 n9 : Nat) (room : Int) (h1 : s9 < 2147483648) (h2 : n9 < 2147483648) (h3 : bs < 2147483648) (h4 : bn < 2147483648) : Met l y_PS_keepIfBetter w_PS_keepIfBetter { frames := 1, cells := 0, slots := 0, locals := 80 } (rw_Pc (dC, dI) vwCl [(cI, .int)] sz [.ref a0, .int (nI s9), .int (nI n9)] [(a0, .inr (2, [.ref ab, .int (nI bn), .int (nI bf), .int (nI kn), .ref ap, .ref aq, .ref ac, .int (zI room), .int (nI most), .int (nI bs)])), (ab, .inl (cI, 5, .inl (aN bc))), (ac, .inl (cI, 5, .inl (aN ct)))]) (va_Qv (fun (u : Nat × Nat × (Nat → Nat)) => (u.1, u.2.1, u.2.2, ct) = keepP s9 n9 (bs, bn, bc, ct)) (rw_B (dC, dI) vwCl [(cI, .int)] (va_A [(a0, .inr (2, [.ref ab, .int (nI bn), .int (nI bf), .int (nI kn), .ref ap, .ref aq, .ref ac, .int (zI room), .int (nI most), .int (nI bs)])), (ab, .inl (cI, 5, .inl (aN bc))), (ac, .inl (cI, 5, .inl (aN ct)))] sz) (fun u : Nat × Nat × (Nat → Nat) => [(a0, .inr (2, [.ref ab, .int (nI u.2.1), .int (nI bf), .int (nI kn), .ref ap, .ref aq, .ref ac, .int (zI room), .int (nI most), .int (nI u.1)])), (ab, .inl (cI, 5, .inl (aN u.2.2))), (ac, .inl (cI, 5, .inl (aN ct)))])) (va_A [(a0, .inr (2, [.ref ab, .int (nI bn), .int (nI bf), .int (nI kn), .ref ap, .ref aq, .ref ac, .int (zI room), .int (nI most), .int (nI bs)])), (ab, .inl (cI, 5, .inl (aN bc))), (ac, .inl (cI, 5, .inl (aN ct)))] sz)) 0 0 (va_A [(a0, .inr (2, [.ref ab, .int (nI bn), .int (nI bf), .int (nI kn), .ref ap, .ref aq, .ref ac, .int (zI room), .int (nI most), .int (nI bs)])), (ab, .inl (cI, 5, .inl (aN bc))), (ac, .inl (cI, 5, .inl (aN ct)))] sz) := by
  refine Met.ofW (cc := b_PS_keepIfBetter) (maxL := 3) (ret := none) (by decide) rfl ?_
  intro p e s m args below meth c s₁ B hml hv
  obtain ⟨rfl, hsz, hP, hK, hD0⟩ := hv
  have hx := B.exec
  have hb := B.bytes
  have hr := B.returns
  have hts := gw_h (atoms_spec (ws := w_PS_keepIfBetter) B.pre)
  have hown : s.vm.findClass R_PS = some m.cls := findClass_of_methodNamed B.named
  have hlocks := B.notSynchronized
  subst hsz
  have hD := hD0.self (sz := s.heap.size)
  generalize hAe : va_A [(a0, .inr (2, [.ref ab, .int (nI bn), .int (nI bf), .int (nI kn), .ref ap, .ref aq, .ref ac, .int (zI room), .int (nI most), .int (nI bs)])), (ab, .inl (cI, 5, .inl (aN bc))), (ac, .inl (cI, 5, .inl (aN ct)))] s.heap.size = A at hD ⊢
  have hA : ∀ q : Nat, s.heap.size ≤ q → A q := fun q h => by rw [← hAe]; exact Or.inr h
  have hS : va_S A s.heap s.heap [] := va_S.rf
  have hP : va_P (dC, dI) vwCl [(a0, .inr (2, [.ref ab, .int (nI bn), .int (nI bf), .int (nI kn), .ref ap, .ref aq, .ref ac, .int (zI room), .int (nI most), .int (nI bs)])), (ab, .inl (cI, 5, .inl (aN bc))), (ac, .inl (cI, 5, .inl (aN ct)))] s.heap := hP
  have hl := lv_entry ([.ref a0, .int (nI s9), .int (nI n9)]) (n := 3) (Nat.le_of_ble_eq_true rfl)
  rw [lg_entry_eq]
  generalize (lg_sl ([.ref a0, .int (nI s9), .int (nI n9)]) ++ List.replicate (3 - (lg_sl ([.ref a0, .int (nI s9), .int (nI n9)])).length) Slot.unset).toArray = ls at hl ⊢
  have hl : lv_has ls 3 [(0, .ref a0), (1, .int (nI s9)), (2, .int (nI n9))] := hl
  refine lv_iload_n hx hb d_PS_keepIfBetter_0 rfl (lv_at hl 1 rfl) ?_
  refine lv_aload_n hx hb d_PS_keepIfBetter_1 rfl (lv_at hl 0 rfl) ?_
  refine va_get (D := (dC, dI)) (ci := 2) (v := .int (nI bs)) (C := R_PS) (T := F_PS) (N := 10) hx hb hts in_PS hown hK hP 0 rfl rfl 9 (by decide) (hts _ m_107) (fun _ h9 => h9) rfl d_PS_keepIfBetter_2 ?_
  refine ix_icmp_gt (tgt := 24) hx hb (nI_tI (n := s9) (by omega)) (nI_tI (n := bs) (by omega)) d_PS_keepIfBetter_5 (by decide) (fun c_5 => ?_) (fun c_5 => ?_)
  · refine lv_aload_n hx hb d_PS_keepIfBetter_24 rfl (lv_at hl 0 rfl) ?_
    refine lv_iload_n hx hb d_PS_keepIfBetter_25 rfl (lv_at hl 1 rfl) ?_
    refine va_put (D := (dC, dI)) (ci := 2) (v := .int (nI s9)) (ty := .int) (C := R_PS) (T := F_PS) (N := 10) hx hb hts in_PS t_PS t_PS_ok n_PS hown hK hP hD hS 0 rfl rfl 9 (by decide) (hts _ m_107) (fun _ h9 => h9) rfl (by decide +kernel) rfl rfl (Nat.le_of_ble_eq_true rfl) d_PS_keepIfBetter_26 (fun H locs hP hD hS => ?_)
    have hP : va_P (dC, dI) vwCl [(a0, .inr (2, [.ref ab, .int (nI bn), .int (nI bf), .int (nI kn), .ref ap, .ref aq, .ref ac, .int (zI room), .int (nI most), .int (nI s9)])), (ab, .inl (cI, 5, .inl (aN bc))), (ac, .inl (cI, 5, .inl (aN ct)))] H := hP
    have hD : va_D A [(a0, .inr (2, [.ref ab, .int (nI bn), .int (nI bf), .int (nI kn), .ref ap, .ref aq, .ref ac, .int (zI room), .int (nI most), .int (nI s9)])), (ab, .inl (cI, 5, .inl (aN bc))), (ac, .inl (cI, 5, .inl (aN ct)))] := hD
    refine lv_aload_n hx hb d_PS_keepIfBetter_29 rfl (lv_at hl 0 rfl) ?_
    refine lv_iload_n hx hb d_PS_keepIfBetter_30 rfl (lv_at hl 2 rfl) ?_
    refine va_put (D := (dC, dI)) (ci := 2) (v := .int (nI n9)) (ty := .int) (C := R_PS) (T := F_PS) (N := 10) hx hb hts in_PS t_PS t_PS_ok n_PS hown hK hP hD hS 0 rfl rfl 1 (by decide) (hts _ m_95) (fun _ h9 => h9) rfl (by decide +kernel) rfl rfl (Nat.le_of_ble_eq_true rfl) d_PS_keepIfBetter_31 (fun H locs hP hD hS => ?_)
    have hP : va_P (dC, dI) vwCl [(a0, .inr (2, [.ref ab, .int (nI n9), .int (nI bf), .int (nI kn), .ref ap, .ref aq, .ref ac, .int (zI room), .int (nI most), .int (nI s9)])), (ab, .inl (cI, 5, .inl (aN bc))), (ac, .inl (cI, 5, .inl (aN ct)))] H := hP
    have hD : va_D A [(a0, .inr (2, [.ref ab, .int (nI n9), .int (nI bf), .int (nI kn), .ref ap, .ref aq, .ref ac, .int (zI room), .int (nI most), .int (nI s9)])), (ab, .inl (cI, 5, .inl (aN bc))), (ac, .inl (cI, 5, .inl (aN ct)))] := hD
    refine lv_aload_n hx hb d_PS_keepIfBetter_34 rfl (lv_at hl 0 rfl) ?_
    refine va_get (D := (dC, dI)) (ci := 2) (v := .ref ac) (C := R_PS) (T := F_PS) (N := 10) hx hb hts in_PS hown hK hP 0 rfl rfl 6 (by decide) (hts _ m_104) (fun _ h9 => h9) rfl d_PS_keepIfBetter_35 ?_
    refine lv_iconst (v := nI 0) hx hb d_PS_keepIfBetter_38 (by decide +kernel) ?_
    refine lv_aload_n hx hb d_PS_keepIfBetter_39 rfl (lv_at hl 0 rfl) ?_
    refine va_get (D := (dC, dI)) (ci := 2) (v := .ref ab) (C := R_PS) (T := F_PS) (N := 10) hx hb hts in_PS hown hK hP 0 rfl rfl 0 (by decide) (hts _ m_92) (fun _ h9 => h9) rfl d_PS_keepIfBetter_40 ?_
    refine lv_iconst (v := nI 0) hx hb d_PS_keepIfBetter_43 (by decide +kernel) ?_
    refine lv_iconst (v := nI 5) hx hb d_PS_keepIfBetter_44 (by decide +kernel) ?_
    refine va_copyi hx hb (hml.trans hl.1.symm) hown (hts _ m_267) (hts _ m_269) (hts _ m_268) (hts _ m_16) hK hP hD hS 2 1 0 0 rfl rfl rfl rfl rfl (by decide +kernel) (by decide +kernel) (by decide +kernel) (by decide +kernel) (by decide +kernel) (fun _ _ => rfl) (Nat.le_of_ble_eq_true rfl) (Nat.le_of_ble_eq_true rfl) d_PS_keepIfBetter_45 (fun H locs hP hD hS => ?_)
    rw [cpy5_eq] at hP hD
    have hP : va_P (dC, dI) vwCl [(a0, .inr (2, [.ref ab, .int (nI n9), .int (nI bf), .int (nI kn), .ref ap, .ref aq, .ref ac, .int (zI room), .int (nI most), .int (nI s9)])), (ab, .inl (cI, 5, .inl (aN (cpy5 ct bc)))), (ac, .inl (cI, 5, .inl (aN ct)))] H := hP
    have hD : va_D A [(a0, .inr (2, [.ref ab, .int (nI n9), .int (nI bf), .int (nI kn), .ref ap, .ref aq, .ref ac, .int (zI room), .int (nI most), .int (nI s9)])), (ab, .inl (cI, 5, .inl (aN (cpy5 ct bc)))), (ac, .inl (cI, 5, .inl (aN ct)))] := hD
    exact W.vret hx hb hr (fun t ht hW => ⟨⟨(s9, n9, cpy5 ct bc), rfl, (keepP_eq (s := s9) (n := n9) (q := (bs, bn, bc, ct)) (show bs < s9 ∨ (s9 = bs ∧ n9 < bn) by omega)).symm, by rw [ht]; exact hP, va_K.moved hW.alike hK, hD⟩, hS.F ht⟩) hS.2.2 d_PS_keepIfBetter_48
  refine lv_iload_n hx hb d_PS_keepIfBetter_8 rfl (lv_at hl 1 rfl) ?_
  refine lv_aload_n hx hb d_PS_keepIfBetter_9 rfl (lv_at hl 0 rfl) ?_
  refine va_get (D := (dC, dI)) (ci := 2) (v := .int (nI bs)) (C := R_PS) (T := F_PS) (N := 10) hx hb hts in_PS hown hK hP 0 rfl rfl 9 (by decide) (hts _ m_107) (fun _ h9 => h9) rfl d_PS_keepIfBetter_10 ?_
  refine ix_icmp_ne (tgt := 48) hx hb (nI_tI (n := s9) (by omega)) (nI_tI (n := bs) (by omega)) d_PS_keepIfBetter_13 (by decide) (fun c_13 => ?_) (fun c_13 => ?_)
  · exact W.vret hx hb hr (fun t ht hW => ⟨⟨(bs, bn, bc), rfl, (keepP_ne (s := s9) (n := n9) (q := (bs, bn, bc, ct)) (show ¬ (bs < s9 ∨ (s9 = bs ∧ n9 < bn)) by omega)).symm, by rw [ht]; exact hP, va_K.moved hW.alike hK, hD⟩, hS.F ht⟩) hS.2.2 d_PS_keepIfBetter_48
  refine lv_iload_n hx hb d_PS_keepIfBetter_16 rfl (lv_at hl 2 rfl) ?_
  refine lv_aload_n hx hb d_PS_keepIfBetter_17 rfl (lv_at hl 0 rfl) ?_
  refine va_get (D := (dC, dI)) (ci := 2) (v := .int (nI bn)) (C := R_PS) (T := F_PS) (N := 10) hx hb hts in_PS hown hK hP 0 rfl rfl 1 (by decide) (hts _ m_95) (fun _ h9 => h9) rfl d_PS_keepIfBetter_18 ?_
  refine ix_icmp_ge (tgt := 48) hx hb (nI_tI (n := n9) (by omega)) (nI_tI (n := bn) (by omega)) d_PS_keepIfBetter_21 (by decide) (fun c_21 => ?_) (fun c_21 => ?_)
  · exact W.vret hx hb hr (fun t ht hW => ⟨⟨(bs, bn, bc), rfl, (keepP_ne (s := s9) (n := n9) (q := (bs, bn, bc, ct)) (show ¬ (bs < s9 ∨ (s9 = bs ∧ n9 < bn)) by omega)).symm, by rw [ht]; exact hP, va_K.moved hW.alike hK, hD⟩, hS.F ht⟩) hS.2.2 d_PS_keepIfBetter_48
  refine lv_aload_n hx hb d_PS_keepIfBetter_24 rfl (lv_at hl 0 rfl) ?_
  refine lv_iload_n hx hb d_PS_keepIfBetter_25 rfl (lv_at hl 1 rfl) ?_
  refine va_put (D := (dC, dI)) (ci := 2) (v := .int (nI s9)) (ty := .int) (C := R_PS) (T := F_PS) (N := 10) hx hb hts in_PS t_PS t_PS_ok n_PS hown hK hP hD hS 0 rfl rfl 9 (by decide) (hts _ m_107) (fun _ h9 => h9) rfl (by decide +kernel) rfl rfl (Nat.le_of_ble_eq_true rfl) d_PS_keepIfBetter_26 (fun H locs hP hD hS => ?_)
  have hP : va_P (dC, dI) vwCl [(a0, .inr (2, [.ref ab, .int (nI bn), .int (nI bf), .int (nI kn), .ref ap, .ref aq, .ref ac, .int (zI room), .int (nI most), .int (nI s9)])), (ab, .inl (cI, 5, .inl (aN bc))), (ac, .inl (cI, 5, .inl (aN ct)))] H := hP
  have hD : va_D A [(a0, .inr (2, [.ref ab, .int (nI bn), .int (nI bf), .int (nI kn), .ref ap, .ref aq, .ref ac, .int (zI room), .int (nI most), .int (nI s9)])), (ab, .inl (cI, 5, .inl (aN bc))), (ac, .inl (cI, 5, .inl (aN ct)))] := hD
  refine lv_aload_n hx hb d_PS_keepIfBetter_29 rfl (lv_at hl 0 rfl) ?_
  refine lv_iload_n hx hb d_PS_keepIfBetter_30 rfl (lv_at hl 2 rfl) ?_
  refine va_put (D := (dC, dI)) (ci := 2) (v := .int (nI n9)) (ty := .int) (C := R_PS) (T := F_PS) (N := 10) hx hb hts in_PS t_PS t_PS_ok n_PS hown hK hP hD hS 0 rfl rfl 1 (by decide) (hts _ m_95) (fun _ h9 => h9) rfl (by decide +kernel) rfl rfl (Nat.le_of_ble_eq_true rfl) d_PS_keepIfBetter_31 (fun H locs hP hD hS => ?_)
  have hP : va_P (dC, dI) vwCl [(a0, .inr (2, [.ref ab, .int (nI n9), .int (nI bf), .int (nI kn), .ref ap, .ref aq, .ref ac, .int (zI room), .int (nI most), .int (nI s9)])), (ab, .inl (cI, 5, .inl (aN bc))), (ac, .inl (cI, 5, .inl (aN ct)))] H := hP
  have hD : va_D A [(a0, .inr (2, [.ref ab, .int (nI n9), .int (nI bf), .int (nI kn), .ref ap, .ref aq, .ref ac, .int (zI room), .int (nI most), .int (nI s9)])), (ab, .inl (cI, 5, .inl (aN bc))), (ac, .inl (cI, 5, .inl (aN ct)))] := hD
  refine lv_aload_n hx hb d_PS_keepIfBetter_34 rfl (lv_at hl 0 rfl) ?_
  refine va_get (D := (dC, dI)) (ci := 2) (v := .ref ac) (C := R_PS) (T := F_PS) (N := 10) hx hb hts in_PS hown hK hP 0 rfl rfl 6 (by decide) (hts _ m_104) (fun _ h9 => h9) rfl d_PS_keepIfBetter_35 ?_
  refine lv_iconst (v := nI 0) hx hb d_PS_keepIfBetter_38 (by decide +kernel) ?_
  refine lv_aload_n hx hb d_PS_keepIfBetter_39 rfl (lv_at hl 0 rfl) ?_
  refine va_get (D := (dC, dI)) (ci := 2) (v := .ref ab) (C := R_PS) (T := F_PS) (N := 10) hx hb hts in_PS hown hK hP 0 rfl rfl 0 (by decide) (hts _ m_92) (fun _ h9 => h9) rfl d_PS_keepIfBetter_40 ?_
  refine lv_iconst (v := nI 0) hx hb d_PS_keepIfBetter_43 (by decide +kernel) ?_
  refine lv_iconst (v := nI 5) hx hb d_PS_keepIfBetter_44 (by decide +kernel) ?_
  refine va_copyi hx hb (hml.trans hl.1.symm) hown (hts _ m_267) (hts _ m_269) (hts _ m_268) (hts _ m_16) hK hP hD hS 2 1 0 0 rfl rfl rfl rfl rfl (by decide +kernel) (by decide +kernel) (by decide +kernel) (by decide +kernel) (by decide +kernel) (fun _ _ => rfl) (Nat.le_of_ble_eq_true rfl) (Nat.le_of_ble_eq_true rfl) d_PS_keepIfBetter_45 (fun H locs hP hD hS => ?_)
  rw [cpy5_eq] at hP hD
  have hP : va_P (dC, dI) vwCl [(a0, .inr (2, [.ref ab, .int (nI n9), .int (nI bf), .int (nI kn), .ref ap, .ref aq, .ref ac, .int (zI room), .int (nI most), .int (nI s9)])), (ab, .inl (cI, 5, .inl (aN (cpy5 ct bc)))), (ac, .inl (cI, 5, .inl (aN ct)))] H := hP
  have hD : va_D A [(a0, .inr (2, [.ref ab, .int (nI n9), .int (nI bf), .int (nI kn), .ref ap, .ref aq, .ref ac, .int (zI room), .int (nI most), .int (nI s9)])), (ab, .inl (cI, 5, .inl (aN (cpy5 ct bc)))), (ac, .inl (cI, 5, .inl (aN ct)))] := hD
  exact W.vret hx hb hr (fun t ht hW => ⟨⟨(s9, n9, cpy5 ct bc), rfl, (keepP_eq (s := s9) (n := n9) (q := (bs, bn, bc, ct)) (show bs < s9 ∨ (s9 = bs ∧ n9 < bn) by omega)).symm, by rw [ht]; exact hP, va_K.moved hW.alike hK, hD⟩, hS.F ht⟩) hS.2.2 d_PS_keepIfBetter_48
set_option maxHeartbeats 4000000 in
set_option maxRecDepth 100000 in
/-- tryCounts behind the last width -/
theorem c_PS_try0 (l : Launch) (dC : Nat → ClassId) (dI : Nat → Nat → Nat) (sz : Nat) (a0 ab ap aq ac : Nat) (cI : ClassId) (v0 vw vs : Nat) (pi pf wd st : Nat → Nat) (bf kn most cnt : Nat) (room : Int) (hc5 : cnt ≤ 5) (hst : ∀ i, i < cnt → st i ≤ 6) (hpi : ∀ i, i < cnt → pi i ≤ 20100) (hpf : ∀ i, i < cnt → pf i ≤ 700000) (hr1 : -2000 ≤ room) (hr2 : room ≤ 20100) (hmo : most ≤ 39) (w9 s9 n9 bs bn : Nat) (bc ct : Nat → Nat) (hw : w9 + 0 = cnt) (hs : s9 ≤ 20100) (hn : n9 ≤ 39) (hbs : bs ≤ 20100) (hbn : bn ≤ 39) : Met l y_PS_tryCounts w_PS_tryCounts { frames := 0 + 2, cells := 0, slots := 0, locals := 102 + 26 * 0 } (rw_Pc (dC, dI) vwCl [(cI, .int)] sz [.ref a0, .ref v0, .int (nI w9), .int (nI s9), .int (nI n9)] [(a0, .inr (2, [.ref ab, .int (nI bn), .int (nI bf), .int (nI kn), .ref ap, .ref aq, .ref ac, .int (zI room), .int (nI most), .int (nI bs)])), (ab, .inl (cI, 5, .inl (aN bc))), (ap, .inl (cI, 5, .inl (aN pi))), (aq, .inl (cI, 6, .inl (aN pf))), (ac, .inl (cI, 5, .inl (aN ct))), (v0, .inr (5, [.ref vw, .ref vs, .int (nI cnt)])), (vw, .inl (cI, 5, .inl (aN wd))), (vs, .inl (cI, 5, .inl (aN st)))]) (va_Qv (fun (u : Nat × Nat × (Nat → Nat) × (Nat → Nat)) => (u.1, u.2.1, u.2.2.1, u.2.2.2) = tcP pi st pf room most 0 w9 s9 n9 (bs, bn, bc, ct)) (rw_B (dC, dI) vwCl [(cI, .int)] (va_A [(a0, .inr (2, [.ref ab, .int (nI bn), .int (nI bf), .int (nI kn), .ref ap, .ref aq, .ref ac, .int (zI room), .int (nI most), .int (nI bs)])), (ab, .inl (cI, 5, .inl (aN bc))), (ap, .inl (cI, 5, .inl (aN pi))), (aq, .inl (cI, 6, .inl (aN pf))), (ac, .inl (cI, 5, .inl (aN ct))), (v0, .inr (5, [.ref vw, .ref vs, .int (nI cnt)])), (vw, .inl (cI, 5, .inl (aN wd))), (vs, .inl (cI, 5, .inl (aN st)))] sz) (fun u : Nat × Nat × (Nat → Nat) × (Nat → Nat) => [(a0, .inr (2, [.ref ab, .int (nI u.2.1), .int (nI bf), .int (nI kn), .ref ap, .ref aq, .ref ac, .int (zI room), .int (nI most), .int (nI u.1)])), (ab, .inl (cI, 5, .inl (aN u.2.2.1))), (ap, .inl (cI, 5, .inl (aN pi))), (aq, .inl (cI, 6, .inl (aN pf))), (ac, .inl (cI, 5, .inl (aN u.2.2.2))), (v0, .inr (5, [.ref vw, .ref vs, .int (nI cnt)])), (vw, .inl (cI, 5, .inl (aN wd))), (vs, .inl (cI, 5, .inl (aN st)))])) (va_A [(a0, .inr (2, [.ref ab, .int (nI bn), .int (nI bf), .int (nI kn), .ref ap, .ref aq, .ref ac, .int (zI room), .int (nI most), .int (nI bs)])), (ab, .inl (cI, 5, .inl (aN bc))), (ap, .inl (cI, 5, .inl (aN pi))), (aq, .inl (cI, 6, .inl (aN pf))), (ac, .inl (cI, 5, .inl (aN ct))), (v0, .inr (5, [.ref vw, .ref vs, .int (nI cnt)])), (vw, .inl (cI, 5, .inl (aN wd))), (vs, .inl (cI, 5, .inl (aN st)))] sz)) 0 0 (va_A [(a0, .inr (2, [.ref ab, .int (nI bn), .int (nI bf), .int (nI kn), .ref ap, .ref aq, .ref ac, .int (zI room), .int (nI most), .int (nI bs)])), (ab, .inl (cI, 5, .inl (aN bc))), (ap, .inl (cI, 5, .inl (aN pi))), (aq, .inl (cI, 6, .inl (aN pf))), (ac, .inl (cI, 5, .inl (aN ct))), (v0, .inr (5, [.ref vw, .ref vs, .int (nI cnt)])), (vw, .inl (cI, 5, .inl (aN wd))), (vs, .inl (cI, 5, .inl (aN st)))] sz) := by
  refine Met.ofW (cc := b_PS_tryCounts) (maxL := 7) (ret := none) (by decide) rfl ?_
  intro p e s m args below meth c s₁ B hml hv
  obtain ⟨rfl, hsz, hP, hK, hD0⟩ := hv
  have hx := B.exec
  have hb := B.bytes
  have hr := B.returns
  have hts := gw_h (atoms_spec (ws := w_PS_tryCounts) B.pre)
  have hown : s.vm.findClass R_PS = some m.cls := findClass_of_methodNamed B.named
  have hlocks := B.notSynchronized
  subst hsz
  have hD := hD0.self (sz := s.heap.size)
  generalize hAe : va_A [(a0, .inr (2, [.ref ab, .int (nI bn), .int (nI bf), .int (nI kn), .ref ap, .ref aq, .ref ac, .int (zI room), .int (nI most), .int (nI bs)])), (ab, .inl (cI, 5, .inl (aN bc))), (ap, .inl (cI, 5, .inl (aN pi))), (aq, .inl (cI, 6, .inl (aN pf))), (ac, .inl (cI, 5, .inl (aN ct))), (v0, .inr (5, [.ref vw, .ref vs, .int (nI cnt)])), (vw, .inl (cI, 5, .inl (aN wd))), (vs, .inl (cI, 5, .inl (aN st)))] s.heap.size = A at hD ⊢
  have hA : ∀ q : Nat, s.heap.size ≤ q → A q := fun q h => by rw [← hAe]; exact Or.inr h
  have hS : va_S A s.heap s.heap [] := va_S.rf
  have hP : va_P (dC, dI) vwCl [(a0, .inr (2, [.ref ab, .int (nI bn), .int (nI bf), .int (nI kn), .ref ap, .ref aq, .ref ac, .int (zI room), .int (nI most), .int (nI bs)])), (ab, .inl (cI, 5, .inl (aN bc))), (ap, .inl (cI, 5, .inl (aN pi))), (aq, .inl (cI, 6, .inl (aN pf))), (ac, .inl (cI, 5, .inl (aN ct))), (v0, .inr (5, [.ref vw, .ref vs, .int (nI cnt)])), (vw, .inl (cI, 5, .inl (aN wd))), (vs, .inl (cI, 5, .inl (aN st)))] s.heap := hP
  have hl := lv_entry ([.ref a0, .ref v0, .int (nI w9), .int (nI s9), .int (nI n9)]) (n := 7) (Nat.le_of_ble_eq_true rfl)
  rw [lg_entry_eq]
  generalize (lg_sl ([.ref a0, .ref v0, .int (nI w9), .int (nI s9), .int (nI n9)]) ++ List.replicate (7 - (lg_sl ([.ref a0, .ref v0, .int (nI w9), .int (nI s9), .int (nI n9)])).length) Slot.unset).toArray = ls at hl ⊢
  have hl : lv_has ls 7 [(0, .ref a0), (1, .ref v0), (2, .int (nI w9)), (3, .int (nI s9)), (4, .int (nI n9))] := hl
  have hw0 : w9 = cnt := by omega
  refine lv_iload_n hx hb d_PS_tryCounts_0 rfl (lv_at hl 2 rfl) ?_
  refine lv_aload_n hx hb d_PS_tryCounts_1 rfl (lv_at hl 1 rfl) ?_
  refine va_get (D := (dC, dI)) (ci := 5) (v := .int (nI cnt)) (C := R_WI) (T := F_WI) (N := 3) hx hb hts in_WI hown hK hP 5 rfl rfl 2 (by decide) (hts _ m_77) (fun _ h9 => h9) rfl d_PS_tryCounts_2 ?_
  refine ix_icmp_lt (tgt := 16) hx hb (nI_tI (n := w9) (by omega)) (nI_tI (n := cnt) (by omega)) d_PS_tryCounts_5 (by decide) (fun c_5 => absurd c_5 (by omega)) (fun c_5 => ?_)
  refine lv_aload_n hx hb d_PS_tryCounts_8 rfl (lv_at hl 0 rfl) ?_
  refine lv_iload_n hx hb d_PS_tryCounts_9 rfl (lv_at hl 3 rfl) ?_
  refine lv_iload hx hb d_PS_tryCounts_10 (lv_at hl 4 rfl) ?_
  have hPc := hP.sub (ws' := [(a0, .inr (2, [.ref ab, .int (nI bn), .int (nI bf), .int (nI kn), .ref ap, .ref aq, .ref ac, .int (zI room), .int (nI most), .int (nI bs)])), (ab, .inl (cI, 5, .inl (aN bc))), (ac, .inl (cI, 5, .inl (aN ct)))]) [0, 1, 4] rfl
  have hDc := hD.sub (ws' := [(a0, .inr (2, [.ref ab, .int (nI bn), .int (nI bf), .int (nI kn), .ref ap, .ref aq, .ref ac, .int (zI room), .int (nI most), .int (nI bs)])), (ab, .inl (cI, 5, .inl (aN bc))), (ac, .inl (cI, 5, .inl (aN ct)))]) [0, 1, 4] (by decide) rfl
  have hFc := va_free (wc := [(a0, .inr (2, [.ref ab, .int (nI bn), .int (nI bf), .int (nI kn), .ref ap, .ref aq, .ref ac, .int (zI room), .int (nI most), .int (nI bs)])), (ab, .inl (cI, 5, .inl (aN bc))), (ac, .inl (cI, 5, .inl (aN ct)))]) hD hS hA [0, 1, 4] rfl
  refine va_callv (va_runV (As := [.int (nI s9), .int (nI n9)]) (rest := []) ⟨hx, hb, hml, hown, hts⟩ (c_PS_keep l dC dI s.heap.size a0 ab ap aq ac cI bc ct bn bf kn most bs s9 n9 room (by omega) (by omega) (by omega) (by omega)) (cwV 2 hts (gw_V m_263 m_265 s_2 m_4 m_266) rfl rfl rfl (by decide +kernel) ⟨Nat.le_of_ble_eq_true rfl, Nat.le_of_ble_eq_true rfl⟩) ⟨rw_blind, va_recv hK hPc (ci := 2) (q0 := 0) rfl rfl, fun U hU hW => ⟨rfl, by rw [hU], by rw [hU]; exact hPc, va_K.moved hW.alike hK, hDc.weaken (fun _ _ _ _ => trivial)⟩⟩ rfl rfl hl.1 rfl (lv_room (Nat.le_of_ble_eq_true rfl)) d_PS_tryCounts_12 ⟨Nat.le_of_ble_eq_true rfl, Nat.le_of_ble_eq_true rfl⟩) hS (fun q _ h => hFc q h) hFc (fun u t H1 locs ht hvm hw hB hz1 hk1 hS => ?_)
  obtain ⟨bs9, bn9, bc9⟩ := u
  obtain ⟨hP1, hK1, hD1⟩ := hB
  rw [ht] at hP1
  try dsimp only at hw
  obtain ⟨hP, hD⟩ := va_join (wr := [(ap, .inl (cI, 5, .inl (aN pi))), (aq, .inl (cI, 6, .inl (aN pf))), (v0, .inr (5, [.ref vw, .ref vs, .int (nI cnt)])), (vw, .inl (cI, 5, .inl (aN wd))), (vs, .inl (cI, 5, .inl (aN st)))]) (w1 := [(a0, .inr (2, [.ref ab, .int (nI bn9), .int (nI bf), .int (nI kn), .ref ap, .ref aq, .ref ac, .int (zI room), .int (nI most), .int (nI bs9)])), (ab, .inl (cI, 5, .inl (aN bc9))), (ac, .inl (cI, 5, .inl (aN ct)))]) hP hD [0, 1, 4] [2, 3, 5, 6, 7] rfl rfl (by decide) (by decide) hk1 hFc hP1 hD1
  generalize H1 = H at hP hS ⊢
  have hP : va_P (dC, dI) vwCl [(a0, .inr (2, [.ref ab, .int (nI bn9), .int (nI bf), .int (nI kn), .ref ap, .ref aq, .ref ac, .int (zI room), .int (nI most), .int (nI bs9)])), (ab, .inl (cI, 5, .inl (aN bc9))), (ap, .inl (cI, 5, .inl (aN pi))), (aq, .inl (cI, 6, .inl (aN pf))), (ac, .inl (cI, 5, .inl (aN ct))), (v0, .inr (5, [.ref vw, .ref vs, .int (nI cnt)])), (vw, .inl (cI, 5, .inl (aN wd))), (vs, .inl (cI, 5, .inl (aN st)))] H := hP.sub [5, 6, 0, 1, 7, 2, 3, 4] rfl
  have hD : va_D A [(a0, .inr (2, [.ref ab, .int (nI bn9), .int (nI bf), .int (nI kn), .ref ap, .ref aq, .ref ac, .int (zI room), .int (nI most), .int (nI bs9)])), (ab, .inl (cI, 5, .inl (aN bc9))), (ap, .inl (cI, 5, .inl (aN pi))), (aq, .inl (cI, 6, .inl (aN pf))), (ac, .inl (cI, 5, .inl (aN ct))), (v0, .inr (5, [.ref vw, .ref vs, .int (nI cnt)])), (vw, .inl (cI, 5, .inl (aN wd))), (vs, .inl (cI, 5, .inl (aN st)))] := hD.sub [5, 6, 0, 1, 7, 2, 3, 4] (by decide) rfl
  exact W.vret hx hb hr (fun t ht hW => ⟨⟨(bs9, bn9, bc9, ct), rfl, by rw [hw, tcP_0], by rw [ht]; exact hP, va_K.moved hW.alike hK, hD⟩, hS.F ht⟩) hS.2.2 d_PS_tryCounts_15
set_option maxHeartbeats 4000000 in
set_option maxRecDepth 100000 in
/-- tryCounts with a width more -/
theorem c_PS_tryS (l : Launch) (dC : Nat → ClassId) (dI : Nat → Nat → Nat) (sz : Nat) (a0 ab ap aq ac : Nat) (cI : ClassId) (v0 vw vs : Nat) (pi pf wd st : Nat → Nat) (bf kn most cnt : Nat) (room : Int) (hc5 : cnt ≤ 5) (hst : ∀ i, i < cnt → st i ≤ 6) (hpi : ∀ i, i < cnt → pi i ≤ 20100) (hpf : ∀ i, i < cnt → pf i ≤ 700000) (hr1 : -2000 ≤ room) (hr2 : room ≤ 20100) (hmo : most ≤ 39) (k : Nat) (ih : ∀ (sz w9 s9 n9 bs bn : Nat) (bc ct : Nat → Nat), w9 + k = cnt → s9 ≤ 20100 → n9 ≤ 39 → bs ≤ 20100 → bn ≤ 39 → Met l y_PS_tryCounts w_PS_tryCounts { frames := k + 2, cells := 0, slots := 0, locals := 102 + 26 * k } (rw_Pc (dC, dI) vwCl [(cI, .int)] sz [.ref a0, .ref v0, .int (nI w9), .int (nI s9), .int (nI n9)] [(a0, .inr (2, [.ref ab, .int (nI bn), .int (nI bf), .int (nI kn), .ref ap, .ref aq, .ref ac, .int (zI room), .int (nI most), .int (nI bs)])), (ab, .inl (cI, 5, .inl (aN bc))), (ap, .inl (cI, 5, .inl (aN pi))), (aq, .inl (cI, 6, .inl (aN pf))), (ac, .inl (cI, 5, .inl (aN ct))), (v0, .inr (5, [.ref vw, .ref vs, .int (nI cnt)])), (vw, .inl (cI, 5, .inl (aN wd))), (vs, .inl (cI, 5, .inl (aN st)))]) (va_Qv (fun (u : Nat × Nat × (Nat → Nat) × (Nat → Nat)) => (u.1, u.2.1, u.2.2.1, u.2.2.2) = tcP pi st pf room most k w9 s9 n9 (bs, bn, bc, ct)) (rw_B (dC, dI) vwCl [(cI, .int)] (va_A [(a0, .inr (2, [.ref ab, .int (nI bn), .int (nI bf), .int (nI kn), .ref ap, .ref aq, .ref ac, .int (zI room), .int (nI most), .int (nI bs)])), (ab, .inl (cI, 5, .inl (aN bc))), (ap, .inl (cI, 5, .inl (aN pi))), (aq, .inl (cI, 6, .inl (aN pf))), (ac, .inl (cI, 5, .inl (aN ct))), (v0, .inr (5, [.ref vw, .ref vs, .int (nI cnt)])), (vw, .inl (cI, 5, .inl (aN wd))), (vs, .inl (cI, 5, .inl (aN st)))] sz) (fun u : Nat × Nat × (Nat → Nat) × (Nat → Nat) => [(a0, .inr (2, [.ref ab, .int (nI u.2.1), .int (nI bf), .int (nI kn), .ref ap, .ref aq, .ref ac, .int (zI room), .int (nI most), .int (nI u.1)])), (ab, .inl (cI, 5, .inl (aN u.2.2.1))), (ap, .inl (cI, 5, .inl (aN pi))), (aq, .inl (cI, 6, .inl (aN pf))), (ac, .inl (cI, 5, .inl (aN u.2.2.2))), (v0, .inr (5, [.ref vw, .ref vs, .int (nI cnt)])), (vw, .inl (cI, 5, .inl (aN wd))), (vs, .inl (cI, 5, .inl (aN st)))])) (va_A [(a0, .inr (2, [.ref ab, .int (nI bn), .int (nI bf), .int (nI kn), .ref ap, .ref aq, .ref ac, .int (zI room), .int (nI most), .int (nI bs)])), (ab, .inl (cI, 5, .inl (aN bc))), (ap, .inl (cI, 5, .inl (aN pi))), (aq, .inl (cI, 6, .inl (aN pf))), (ac, .inl (cI, 5, .inl (aN ct))), (v0, .inr (5, [.ref vw, .ref vs, .int (nI cnt)])), (vw, .inl (cI, 5, .inl (aN wd))), (vs, .inl (cI, 5, .inl (aN st)))] sz)) 0 0 (va_A [(a0, .inr (2, [.ref ab, .int (nI bn), .int (nI bf), .int (nI kn), .ref ap, .ref aq, .ref ac, .int (zI room), .int (nI most), .int (nI bs)])), (ab, .inl (cI, 5, .inl (aN bc))), (ap, .inl (cI, 5, .inl (aN pi))), (aq, .inl (cI, 6, .inl (aN pf))), (ac, .inl (cI, 5, .inl (aN ct))), (v0, .inr (5, [.ref vw, .ref vs, .int (nI cnt)])), (vw, .inl (cI, 5, .inl (aN wd))), (vs, .inl (cI, 5, .inl (aN st)))] sz)) (w9 s9 n9 bs bn : Nat) (bc ct : Nat → Nat) (hw : w9 + (k + 1) = cnt) (hs : s9 ≤ 20100) (hn : n9 ≤ 39) (hbs : bs ≤ 20100) (hbn : bn ≤ 39) : Met l y_PS_tryCounts w_PS_tryCounts { frames := (k + 1) + 2, cells := 0, slots := 0, locals := 102 + 26 * (k + 1) } (rw_Pc (dC, dI) vwCl [(cI, .int)] sz [.ref a0, .ref v0, .int (nI w9), .int (nI s9), .int (nI n9)] [(a0, .inr (2, [.ref ab, .int (nI bn), .int (nI bf), .int (nI kn), .ref ap, .ref aq, .ref ac, .int (zI room), .int (nI most), .int (nI bs)])), (ab, .inl (cI, 5, .inl (aN bc))), (ap, .inl (cI, 5, .inl (aN pi))), (aq, .inl (cI, 6, .inl (aN pf))), (ac, .inl (cI, 5, .inl (aN ct))), (v0, .inr (5, [.ref vw, .ref vs, .int (nI cnt)])), (vw, .inl (cI, 5, .inl (aN wd))), (vs, .inl (cI, 5, .inl (aN st)))]) (va_Qv (fun (u : Nat × Nat × (Nat → Nat) × (Nat → Nat)) => (u.1, u.2.1, u.2.2.1, u.2.2.2) = tcP pi st pf room most (k + 1) w9 s9 n9 (bs, bn, bc, ct)) (rw_B (dC, dI) vwCl [(cI, .int)] (va_A [(a0, .inr (2, [.ref ab, .int (nI bn), .int (nI bf), .int (nI kn), .ref ap, .ref aq, .ref ac, .int (zI room), .int (nI most), .int (nI bs)])), (ab, .inl (cI, 5, .inl (aN bc))), (ap, .inl (cI, 5, .inl (aN pi))), (aq, .inl (cI, 6, .inl (aN pf))), (ac, .inl (cI, 5, .inl (aN ct))), (v0, .inr (5, [.ref vw, .ref vs, .int (nI cnt)])), (vw, .inl (cI, 5, .inl (aN wd))), (vs, .inl (cI, 5, .inl (aN st)))] sz) (fun u : Nat × Nat × (Nat → Nat) × (Nat → Nat) => [(a0, .inr (2, [.ref ab, .int (nI u.2.1), .int (nI bf), .int (nI kn), .ref ap, .ref aq, .ref ac, .int (zI room), .int (nI most), .int (nI u.1)])), (ab, .inl (cI, 5, .inl (aN u.2.2.1))), (ap, .inl (cI, 5, .inl (aN pi))), (aq, .inl (cI, 6, .inl (aN pf))), (ac, .inl (cI, 5, .inl (aN u.2.2.2))), (v0, .inr (5, [.ref vw, .ref vs, .int (nI cnt)])), (vw, .inl (cI, 5, .inl (aN wd))), (vs, .inl (cI, 5, .inl (aN st)))])) (va_A [(a0, .inr (2, [.ref ab, .int (nI bn), .int (nI bf), .int (nI kn), .ref ap, .ref aq, .ref ac, .int (zI room), .int (nI most), .int (nI bs)])), (ab, .inl (cI, 5, .inl (aN bc))), (ap, .inl (cI, 5, .inl (aN pi))), (aq, .inl (cI, 6, .inl (aN pf))), (ac, .inl (cI, 5, .inl (aN ct))), (v0, .inr (5, [.ref vw, .ref vs, .int (nI cnt)])), (vw, .inl (cI, 5, .inl (aN wd))), (vs, .inl (cI, 5, .inl (aN st)))] sz)) 0 0 (va_A [(a0, .inr (2, [.ref ab, .int (nI bn), .int (nI bf), .int (nI kn), .ref ap, .ref aq, .ref ac, .int (zI room), .int (nI most), .int (nI bs)])), (ab, .inl (cI, 5, .inl (aN bc))), (ap, .inl (cI, 5, .inl (aN pi))), (aq, .inl (cI, 6, .inl (aN pf))), (ac, .inl (cI, 5, .inl (aN ct))), (v0, .inr (5, [.ref vw, .ref vs, .int (nI cnt)])), (vw, .inl (cI, 5, .inl (aN wd))), (vs, .inl (cI, 5, .inl (aN st)))] sz) := by
  refine Met.ofW (cc := b_PS_tryCounts) (maxL := 7) (ret := none) (by decide) rfl ?_
  intro p e s m args below meth c s₁ B hml hv
  obtain ⟨rfl, hsz, hP, hK, hD0⟩ := hv
  have hx := B.exec
  have hb := B.bytes
  have hr := B.returns
  have hts := gw_h (atoms_spec (ws := w_PS_tryCounts) B.pre)
  have hown : s.vm.findClass R_PS = some m.cls := findClass_of_methodNamed B.named
  have hlocks := B.notSynchronized
  subst hsz
  have hD := hD0.self (sz := s.heap.size)
  generalize hAe : va_A [(a0, .inr (2, [.ref ab, .int (nI bn), .int (nI bf), .int (nI kn), .ref ap, .ref aq, .ref ac, .int (zI room), .int (nI most), .int (nI bs)])), (ab, .inl (cI, 5, .inl (aN bc))), (ap, .inl (cI, 5, .inl (aN pi))), (aq, .inl (cI, 6, .inl (aN pf))), (ac, .inl (cI, 5, .inl (aN ct))), (v0, .inr (5, [.ref vw, .ref vs, .int (nI cnt)])), (vw, .inl (cI, 5, .inl (aN wd))), (vs, .inl (cI, 5, .inl (aN st)))] s.heap.size = A at hD ⊢
  have hA : ∀ q : Nat, s.heap.size ≤ q → A q := fun q h => by rw [← hAe]; exact Or.inr h
  have hS : va_S A s.heap s.heap [] := va_S.rf
  have hP : va_P (dC, dI) vwCl [(a0, .inr (2, [.ref ab, .int (nI bn), .int (nI bf), .int (nI kn), .ref ap, .ref aq, .ref ac, .int (zI room), .int (nI most), .int (nI bs)])), (ab, .inl (cI, 5, .inl (aN bc))), (ap, .inl (cI, 5, .inl (aN pi))), (aq, .inl (cI, 6, .inl (aN pf))), (ac, .inl (cI, 5, .inl (aN ct))), (v0, .inr (5, [.ref vw, .ref vs, .int (nI cnt)])), (vw, .inl (cI, 5, .inl (aN wd))), (vs, .inl (cI, 5, .inl (aN st)))] s.heap := hP
  have hl := lv_entry ([.ref a0, .ref v0, .int (nI w9), .int (nI s9), .int (nI n9)]) (n := 7) (Nat.le_of_ble_eq_true rfl)
  rw [lg_entry_eq]
  generalize (lg_sl ([.ref a0, .ref v0, .int (nI w9), .int (nI s9), .int (nI n9)]) ++ List.replicate (7 - (lg_sl ([.ref a0, .ref v0, .int (nI w9), .int (nI s9), .int (nI n9)])).length) Slot.unset).toArray = ls at hl ⊢
  have hl : lv_has ls 7 [(0, .ref a0), (1, .ref v0), (2, .int (nI w9)), (3, .int (nI s9)), (4, .int (nI n9))] := hl
  have hwc : w9 < cnt := by omega
  have hpw := hpi w9 hwc
  have hfw := hpf w9 hwc
  have hsw := hst w9 hwc
  refine lv_iload_n hx hb d_PS_tryCounts_0 rfl (lv_at hl 2 rfl) ?_
  refine lv_aload_n hx hb d_PS_tryCounts_1 rfl (lv_at hl 1 rfl) ?_
  refine va_get (D := (dC, dI)) (ci := 5) (v := .int (nI cnt)) (C := R_WI) (T := F_WI) (N := 3) hx hb hts in_WI hown hK hP 5 rfl rfl 2 (by decide) (hts _ m_77) (fun _ h9 => h9) rfl d_PS_tryCounts_2 ?_
  refine ix_icmp_lt (tgt := 16) hx hb (nI_tI (n := w9) (by omega)) (nI_tI (n := cnt) (by omega)) d_PS_tryCounts_5 (by decide) (fun c_5 => ?_) (fun c_5 => absurd c_5 (by omega))
  refine lv_iload_n hx hb d_PS_tryCounts_16 rfl (lv_at hl 3 rfl) ?_
  refine lv_aload_n hx hb d_PS_tryCounts_17 rfl (lv_at hl 0 rfl) ?_
  refine va_get (D := (dC, dI)) (ci := 2) (v := .ref aq) (C := R_PS) (T := F_PS) (N := 10) hx hb hts in_PS hown hK hP 0 rfl rfl 5 (by decide) (hts _ m_103) (fun _ h9 => h9) rfl d_PS_tryCounts_18 ?_
  refine lv_iload_n hx hb d_PS_tryCounts_21 rfl (lv_at hl 2 rfl) ?_
  refine ix_ialdN (i := w9) hx hb hK hP 3 0 rfl rfl (by omega) (by decide) d_PS_tryCounts_22 ?_
  refine lv_iadd hx hb d_PS_tryCounts_23 ?_
  refine lv_topr (show _ = nI (s9 + (pf w9)) from nn_add _ _) ?_
  refine lv_aload_n hx hb d_PS_tryCounts_24 rfl (lv_at hl 0 rfl) ?_
  refine va_get (D := (dC, dI)) (ci := 2) (v := .int (nI bs)) (C := R_PS) (T := F_PS) (N := 10) hx hb hts in_PS hown hK hP 0 rfl rfl 9 (by decide) (hts _ m_107) (fun _ h9 => h9) rfl d_PS_tryCounts_25 ?_
  refine ix_icmp_ge (tgt := 32) hx hb (nI_tI (n := s9 + (pf w9)) (by omega)) (nI_tI (n := bs) (by omega)) d_PS_tryCounts_28 (by decide) (fun c_28 => ?_) (fun c_28 => ?_)
  · refine lv_aload_n hx hb d_PS_tryCounts_32 rfl (lv_at hl 1 rfl) ?_
    refine va_get (D := (dC, dI)) (ci := 5) (v := .ref vs) (C := R_WI) (T := F_WI) (N := 3) hx hb hts in_WI hown hK hP 5 rfl rfl 1 (by decide) (hts _ m_72) (fun _ h9 => h9) rfl d_PS_tryCounts_33 ?_
    refine lv_iload_n hx hb d_PS_tryCounts_36 rfl (lv_at hl 2 rfl) ?_
    refine ix_ialdN (i := w9) hx hb hK hP 7 0 rfl rfl (by omega) (by decide) d_PS_tryCounts_37 ?_
    refine lv_istore (lv' := [(5, .int (nI (st w9))), (0, .ref a0), (1, .ref v0), (2, .int (nI w9)), (3, .int (nI s9)), (4, .int (nI n9))]) hx hb d_PS_tryCounts_38 hl (by decide) rfl (fun ls hl => ?_)
    have hnc : ¬ s9 + pf w9 < (bs, bn, bc, ct).1 := (show ¬ s9 + pf w9 < bs by omega)
    have lp : ∀ (n_lp : Nat) (z : Int) (bS : Nat) (bN : Nat) (bC : Nat → Nat) (cT : Nat → Nat), (z + 2 ≤ (n_lp : Int)) → (-1 ≤ z) → (z ≤ 6) → (dn (tcB pi st pf room most k w9 s9 n9) z (bS, bN, bC, cT) = dn (tcB pi st pf room most k w9 s9 n9) (st w9 : Int) (bs, bn, bc, ct)) → (bS ≤ 20100) → (bN ≤ 39) → ∀ (H : Heap) (locs : List Loc) (ls : Array Slot), va_P (dC, dI) vwCl [(a0, .inr (2, [.ref ab, .int (nI bN), .int (nI bf), .int (nI kn), .ref ap, .ref aq, .ref ac, .int (zI room), .int (nI most), .int (nI bS)])), (ab, .inl (cI, 5, .inl (aN bC))), (ap, .inl (cI, 5, .inl (aN pi))), (aq, .inl (cI, 6, .inl (aN pf))), (ac, .inl (cI, 5, .inl (aN cT))), (v0, .inr (5, [.ref vw, .ref vs, .int (nI cnt)])), (vw, .inl (cI, 5, .inl (aN wd))), (vs, .inl (cI, 5, .inl (aN st)))] H → va_D A [(a0, .inr (2, [.ref ab, .int (nI bN), .int (nI bf), .int (nI kn), .ref ap, .ref aq, .ref ac, .int (zI room), .int (nI most), .int (nI bS)])), (ab, .inl (cI, 5, .inl (aN bC))), (ap, .inl (cI, 5, .inl (aN pi))), (aq, .inl (cI, 6, .inl (aN pf))), (ac, .inl (cI, 5, .inl (aN cT))), (v0, .inr (5, [.ref vw, .ref vs, .int (nI cnt)])), (vw, .inl (cI, 5, .inl (aN wd))), (vs, .inl (cI, 5, .inl (aN st)))] → va_S A s.heap H locs → lv_has ls 7 [(0, .ref a0), (1, .ref v0), (2, .int (nI w9)), (3, .int (nI s9)), (4, .int (nI n9)), (5, .int (zI z))] → W p l e (headSpec w_PS_tryCounts { frames := (k + 1) + 2, cells := 0, slots := 0, locals := 102 + 26 * (k + 1) }).room s m [.ref a0, .ref v0, .int (nI w9), .int (nI s9), .int (nI n9)].toArray below meth c H locs 0 0 (MQ below (va_Qv (fun (u : Nat × Nat × (Nat → Nat) × (Nat → Nat)) => (u.1, u.2.1, u.2.2.1, u.2.2.2) = tcP pi st pf room most (k + 1) w9 s9 n9 (bs, bn, bc, ct)) (rw_B (dC, dI) vwCl [(cI, .int)] A (fun u : Nat × Nat × (Nat → Nat) × (Nat → Nat) => [(a0, .inr (2, [.ref ab, .int (nI u.2.1), .int (nI bf), .int (nI kn), .ref ap, .ref aq, .ref ac, .int (zI room), .int (nI most), .int (nI u.1)])), (ab, .inl (cI, 5, .inl (aN u.2.2.1))), (ap, .inl (cI, 5, .inl (aN pi))), (aq, .inl (cI, 6, .inl (aN pf))), (ac, .inl (cI, 5, .inl (aN u.2.2.2))), (v0, .inr (5, [.ref vw, .ref vs, .int (nI cnt)])), (vw, .inl (cI, 5, .inl (aN wd))), (vs, .inl (cI, 5, .inl (aN st)))])) A) [.ref a0, .ref v0, .int (nI w9), .int (nI s9), .int (nI n9)].toArray s 0 0 A) (F0 m 40 ls []) := by
      intro n_lp
      induction n_lp with
      | zero =>
        intro z bS bN bC cT hm hz1 hz2 hR hb1 hb2
        exact absurd hm (by omega)
      | succ n_lp ih_lp =>
        intro z bS bN bC cT hm hz1 hz2 hR hb1 hb2 H locs ls hP hD hS hl
        refine lv_iload hx hb d_PS_tryCounts_40 (lv_at hl 5 rfl) ?_
        refine ix_if_lt (tgt := 108) hx hb (zI_toInt (z := z) (by omega) (by omega)) d_PS_tryCounts_42 (by decide) (fun c_42 => ?_) (fun c_42 => ?_)
        · exact W.vret hx hb hr (fun t ht hW => ⟨⟨(bS, bN, bC, cT), rfl, by rw [tcP_S hnc, ← hR, dn_neg (by omega)], by rw [ht]; exact hP, va_K.moved hW.alike hK, hD⟩, hS.F ht⟩) hS.2.2 d_PS_tryCounts_108
        have hzp : z.toNat * pi w9 ≤ 6 * 20100 := Nat.mul_le_mul (by omega) hpw
        refine lv_iload_n hx hb d_PS_tryCounts_45 rfl (lv_at hl 3 rfl) ?_
        refine lv_iload hx hb d_PS_tryCounts_46 (lv_at hl 5 rfl) ?_
        refine lv_topr (show _ = nI z.toNat from z_toN (by omega)) ?_
        refine lv_aload_n hx hb d_PS_tryCounts_48 rfl (lv_at hl 0 rfl) ?_
        refine va_get (D := (dC, dI)) (ci := 2) (v := .ref ap) (C := R_PS) (T := F_PS) (N := 10) hx hb hts in_PS hown hK hP 0 rfl rfl 4 (by decide) (hts _ m_102) (fun _ h9 => h9) rfl d_PS_tryCounts_49 ?_
        refine lv_iload_n hx hb d_PS_tryCounts_52 rfl (lv_at hl 2 rfl) ?_
        refine ix_ialdN (i := w9) hx hb hK hP 2 0 rfl rfl (by omega) (by decide) d_PS_tryCounts_53 ?_
        refine lv_imul hx hb d_PS_tryCounts_54 ?_
        refine lv_topr (show _ = nI (z.toNat * (pi w9)) from nn_mul _ _) ?_
        refine lv_iadd hx hb d_PS_tryCounts_55 ?_
        refine lv_topr (show _ = nI (s9 + (z.toNat * (pi w9))) from nn_add _ _) ?_
        refine lv_istore (lv' := [(6, .int (nI (s9 + (z.toNat * (pi w9))))), (0, .ref a0), (1, .ref v0), (2, .int (nI w9)), (3, .int (nI s9)), (4, .int (nI n9)), (5, .int (zI z))]) hx hb d_PS_tryCounts_56 hl (by decide) rfl (fun ls hl => ?_)
        refine lv_iload hx hb d_PS_tryCounts_58 (lv_at hl 0 rfl) ?_
        refine lv_aload_n hx hb d_PS_tryCounts_60 rfl (lv_at hl 1 rfl) ?_
        refine va_get (D := (dC, dI)) (ci := 2) (v := .int (zI room)) (C := R_PS) (T := F_PS) (N := 10) hx hb hts in_PS hown hK hP 0 rfl rfl 7 (by decide) (hts _ m_105) (fun _ h9 => h9) rfl d_PS_tryCounts_61 ?_
        refine ix_icmp_gt (tgt := 102) hx hb (nI_tI (n := s9 + (z.toNat * (pi w9))) (by omega)) (zI_toInt (z := room) (by omega) (by omega)) d_PS_tryCounts_64 (by decide) (fun c_64 => ?_) (fun c_64 => ?_)
        · refine lv_iinc (v := zI (z - 1)) (lv' := [(5, .int (zI (z - 1))), (6, .int (nI (s9 + (z.toNat * (pi w9))))), (0, .ref a0), (1, .ref v0), (2, .int (nI w9)), (3, .int (nI s9)), (4, .int (nI n9))]) hx hb d_PS_tryCounts_102 hl (k := 6) rfl ((n_incZ z (-1))) (by decide) rfl (fun ls hl => ?_)
          refine lv_goto (tgt := 40) hx hb d_PS_tryCounts_105 (by decide) ?_
          exact ih_lp (z - 1) bS bN bC cT (by omega) (by omega) (by omega) (by rw [← hR, dn_step (show 0 ≤ z by omega)]; congr 1; unfold tcB; rw [if_neg (by omega)]) hb1 hb2 _ _ _ hP hD hS (lv_sub hl [2, 3, 4, 5, 6, 0] rfl)
        refine lv_iload hx hb d_PS_tryCounts_67 (lv_at hl 5 rfl) ?_
        refine lv_iload hx hb d_PS_tryCounts_69 (lv_at hl 6 rfl) ?_
        refine lv_topr (show _ = nI z.toNat from z_toN (by omega)) ?_
        refine lv_iadd hx hb d_PS_tryCounts_71 ?_
        refine lv_topr (show _ = nI (n9 + z.toNat) from nn_add _ _) ?_
        refine lv_aload_n hx hb d_PS_tryCounts_72 rfl (lv_at hl 1 rfl) ?_
        refine va_get (D := (dC, dI)) (ci := 2) (v := .int (nI most)) (C := R_PS) (T := F_PS) (N := 10) hx hb hts in_PS hown hK hP 0 rfl rfl 8 (by decide) (hts _ m_106) (fun _ h9 => h9) rfl d_PS_tryCounts_73 ?_
        refine ix_icmp_gt (tgt := 102) hx hb (nI_tI (n := n9 + z.toNat) (by omega)) (nI_tI (n := most) (by omega)) d_PS_tryCounts_76 (by decide) (fun c_76 => ?_) (fun c_76 => ?_)
        · refine lv_iinc (v := zI (z - 1)) (lv' := [(5, .int (zI (z - 1))), (6, .int (nI (s9 + (z.toNat * (pi w9))))), (0, .ref a0), (1, .ref v0), (2, .int (nI w9)), (3, .int (nI s9)), (4, .int (nI n9))]) hx hb d_PS_tryCounts_102 hl (k := 6) rfl ((n_incZ z (-1))) (by decide) rfl (fun ls hl => ?_)
          refine lv_goto (tgt := 40) hx hb d_PS_tryCounts_105 (by decide) ?_
          exact ih_lp (z - 1) bS bN bC cT (by omega) (by omega) (by omega) (by rw [← hR, dn_step (show 0 ≤ z by omega)]; congr 1; unfold tcB; rw [if_neg (by omega)]) hb1 hb2 _ _ _ hP hD hS (lv_sub hl [2, 3, 4, 5, 6, 0] rfl)
        refine lv_aload_n hx hb d_PS_tryCounts_79 rfl (lv_at hl 1 rfl) ?_
        refine va_get (D := (dC, dI)) (ci := 2) (v := .ref ac) (C := R_PS) (T := F_PS) (N := 10) hx hb hts in_PS hown hK hP 0 rfl rfl 6 (by decide) (hts _ m_104) (fun _ h9 => h9) rfl d_PS_tryCounts_80 ?_
        refine lv_iload_n hx hb d_PS_tryCounts_83 rfl (lv_at hl 3 rfl) ?_
        refine lv_iload hx hb d_PS_tryCounts_84 (lv_at hl 6 rfl) ?_
        refine lv_topr (show _ = nI z.toNat from z_toN (by omega)) ?_
        refine ix_iast (i := w9) hx hb hK hP hD hS 4 0 rfl rfl (by omega) (by decide) d_PS_tryCounts_86 (fun H locs hP hD hS => ?_)
        have hP : va_P (dC, dI) vwCl [(a0, .inr (2, [.ref ab, .int (nI bN), .int (nI bf), .int (nI kn), .ref ap, .ref aq, .ref ac, .int (zI room), .int (nI most), .int (nI bS)])), (ab, .inl (cI, 5, .inl (aN bC))), (ap, .inl (cI, 5, .inl (aN pi))), (aq, .inl (cI, 6, .inl (aN pf))), (ac, .inl (cI, 5, .inl (aN (up cT w9 z.toNat)))), (v0, .inr (5, [.ref vw, .ref vs, .int (nI cnt)])), (vw, .inl (cI, 5, .inl (aN wd))), (vs, .inl (cI, 5, .inl (aN st)))] H := hP
        have hD : va_D A [(a0, .inr (2, [.ref ab, .int (nI bN), .int (nI bf), .int (nI kn), .ref ap, .ref aq, .ref ac, .int (zI room), .int (nI most), .int (nI bS)])), (ab, .inl (cI, 5, .inl (aN bC))), (ap, .inl (cI, 5, .inl (aN pi))), (aq, .inl (cI, 6, .inl (aN pf))), (ac, .inl (cI, 5, .inl (aN (up cT w9 z.toNat)))), (v0, .inr (5, [.ref vw, .ref vs, .int (nI cnt)])), (vw, .inl (cI, 5, .inl (aN wd))), (vs, .inl (cI, 5, .inl (aN st)))] := hD
        refine lv_aload_n hx hb d_PS_tryCounts_87 rfl (lv_at hl 1 rfl) ?_
        refine lv_aload_n hx hb d_PS_tryCounts_88 rfl (lv_at hl 2 rfl) ?_
        refine lv_iload_n hx hb d_PS_tryCounts_89 rfl (lv_at hl 3 rfl) ?_
        refine lv_iconst (v := nI 1) hx hb d_PS_tryCounts_90 (by decide +kernel) ?_
        refine lv_iadd hx hb d_PS_tryCounts_91 ?_
        refine lv_topr (show _ = nI (w9 + 1) from nn_add _ _) ?_
        refine lv_iload hx hb d_PS_tryCounts_92 (lv_at hl 0 rfl) ?_
        refine lv_iload hx hb d_PS_tryCounts_94 (lv_at hl 5 rfl) ?_
        refine lv_iload hx hb d_PS_tryCounts_96 (lv_at hl 6 rfl) ?_
        refine lv_topr (show _ = nI z.toNat from z_toN (by omega)) ?_
        refine lv_iadd hx hb d_PS_tryCounts_98 ?_
        refine lv_topr (show _ = nI (n9 + z.toNat) from nn_add _ _) ?_
        have hPc := hP.sub (ws' := [(a0, .inr (2, [.ref ab, .int (nI bN), .int (nI bf), .int (nI kn), .ref ap, .ref aq, .ref ac, .int (zI room), .int (nI most), .int (nI bS)])), (ab, .inl (cI, 5, .inl (aN bC))), (ap, .inl (cI, 5, .inl (aN pi))), (aq, .inl (cI, 6, .inl (aN pf))), (ac, .inl (cI, 5, .inl (aN (up cT w9 z.toNat)))), (v0, .inr (5, [.ref vw, .ref vs, .int (nI cnt)])), (vw, .inl (cI, 5, .inl (aN wd))), (vs, .inl (cI, 5, .inl (aN st)))]) [0, 1, 2, 3, 4, 5, 6, 7] rfl
        have hDc := hD.sub (ws' := [(a0, .inr (2, [.ref ab, .int (nI bN), .int (nI bf), .int (nI kn), .ref ap, .ref aq, .ref ac, .int (zI room), .int (nI most), .int (nI bS)])), (ab, .inl (cI, 5, .inl (aN bC))), (ap, .inl (cI, 5, .inl (aN pi))), (aq, .inl (cI, 6, .inl (aN pf))), (ac, .inl (cI, 5, .inl (aN (up cT w9 z.toNat)))), (v0, .inr (5, [.ref vw, .ref vs, .int (nI cnt)])), (vw, .inl (cI, 5, .inl (aN wd))), (vs, .inl (cI, 5, .inl (aN st)))]) [0, 1, 2, 3, 4, 5, 6, 7] (by decide) rfl
        have hFc := va_free (wc := [(a0, .inr (2, [.ref ab, .int (nI bN), .int (nI bf), .int (nI kn), .ref ap, .ref aq, .ref ac, .int (zI room), .int (nI most), .int (nI bS)])), (ab, .inl (cI, 5, .inl (aN bC))), (ap, .inl (cI, 5, .inl (aN pi))), (aq, .inl (cI, 6, .inl (aN pf))), (ac, .inl (cI, 5, .inl (aN (up cT w9 z.toNat)))), (v0, .inr (5, [.ref vw, .ref vs, .int (nI cnt)])), (vw, .inl (cI, 5, .inl (aN wd))), (vs, .inl (cI, 5, .inl (aN st)))]) hD hS hA [0, 1, 2, 3, 4, 5, 6, 7] rfl
        refine va_callv (va_runV (As := [.ref v0, .int (nI (w9 + 1)), .int (nI (s9 + (z.toNat * (pi w9)))), .int (nI (n9 + z.toNat))]) (rest := []) ⟨hx, hb, hml, hown, hts⟩ (ih H.size (w9 + 1) (s9 + z.toNat * pi w9) (n9 + z.toNat) bS bN bC (up cT w9 z.toNat) (by omega) (by omega) (by omega) hb1 hb2) (cwV 4 hts (gw_V m_259 m_261 s_1 m_4 m_262) rfl rfl rfl (by decide +kernel) ⟨(by show k + 2 + 1 ≤ k + 1 + 2; omega), (by show 8 + (7 + 11) + (102 + 26 * k) ≤ 102 + 26 * (k + 1); omega)⟩) ⟨rw_blind, va_recv hK hPc (ci := 2) (q0 := 0) rfl rfl, fun U hU hW => ⟨rfl, by rw [hU], by rw [hU]; exact hPc, va_K.moved hW.alike hK, hDc.weaken (fun _ _ _ _ => trivial)⟩⟩ rfl rfl hl.1 rfl (lv_room (Nat.le_of_ble_eq_true rfl)) d_PS_tryCounts_99 ⟨Nat.le_of_ble_eq_true rfl, Nat.le_of_ble_eq_true rfl⟩) hS (fun q _ h => hFc q h) hFc (fun u t H1 locs ht hvm hw hB hz1 hk1 hS => ?_)
        obtain ⟨bs9, bn9, bc9, ct9⟩ := u
        obtain ⟨hP1, hK1, hD1⟩ := hB
        rw [ht] at hP1
        try dsimp only at hw
        obtain ⟨hP, hD⟩ := va_join (wr := []) (w1 := [(a0, .inr (2, [.ref ab, .int (nI bn9), .int (nI bf), .int (nI kn), .ref ap, .ref aq, .ref ac, .int (zI room), .int (nI most), .int (nI bs9)])), (ab, .inl (cI, 5, .inl (aN bc9))), (ap, .inl (cI, 5, .inl (aN pi))), (aq, .inl (cI, 6, .inl (aN pf))), (ac, .inl (cI, 5, .inl (aN ct9))), (v0, .inr (5, [.ref vw, .ref vs, .int (nI cnt)])), (vw, .inl (cI, 5, .inl (aN wd))), (vs, .inl (cI, 5, .inl (aN st)))]) hP hD [0, 1, 2, 3, 4, 5, 6, 7] [] rfl rfl (by decide) (by decide) hk1 hFc hP1 hD1
        generalize H1 = H at hP hS ⊢
        have hP : va_P (dC, dI) vwCl [(a0, .inr (2, [.ref ab, .int (nI bn9), .int (nI bf), .int (nI kn), .ref ap, .ref aq, .ref ac, .int (zI room), .int (nI most), .int (nI bs9)])), (ab, .inl (cI, 5, .inl (aN bc9))), (ap, .inl (cI, 5, .inl (aN pi))), (aq, .inl (cI, 6, .inl (aN pf))), (ac, .inl (cI, 5, .inl (aN ct9))), (v0, .inr (5, [.ref vw, .ref vs, .int (nI cnt)])), (vw, .inl (cI, 5, .inl (aN wd))), (vs, .inl (cI, 5, .inl (aN st)))] H := hP.sub [0, 1, 2, 3, 4, 5, 6, 7] rfl
        have hD : va_D A [(a0, .inr (2, [.ref ab, .int (nI bn9), .int (nI bf), .int (nI kn), .ref ap, .ref aq, .ref ac, .int (zI room), .int (nI most), .int (nI bs9)])), (ab, .inl (cI, 5, .inl (aN bc9))), (ap, .inl (cI, 5, .inl (aN pi))), (aq, .inl (cI, 6, .inl (aN pf))), (ac, .inl (cI, 5, .inl (aN ct9))), (v0, .inr (5, [.ref vw, .ref vs, .int (nI cnt)])), (vw, .inl (cI, 5, .inl (aN wd))), (vs, .inl (cI, 5, .inl (aN st)))] := hD.sub [0, 1, 2, 3, 4, 5, 6, 7] (by decide) rfl
        have hle := tcP_le (pi := pi) (st := st) (pf := pf) (room := room) (most := most) (B := 20100) (M := 39) (by omega) (by omega) k (w9 + 1) (s9 + z.toNat * pi w9) (n9 + z.toNat) (bS, bN, bC, up cT w9 z.toNat) (by omega) (by omega) hb1 hb2
        rw [← hw] at hle
        refine lv_iinc (v := zI (z - 1)) (lv' := [(5, .int (zI (z - 1))), (6, .int (nI (s9 + (z.toNat * (pi w9))))), (0, .ref a0), (1, .ref v0), (2, .int (nI w9)), (3, .int (nI s9)), (4, .int (nI n9))]) hx hb d_PS_tryCounts_102 hl (k := 6) rfl ((n_incZ z (-1))) (by decide) rfl (fun ls hl => ?_)
        refine lv_goto (tgt := 40) hx hb d_PS_tryCounts_105 (by decide) ?_
        exact ih_lp (z - 1) bs9 bn9 bc9 ct9 (by omega) (by omega) (by omega) (by rw [← hR, dn_step (show 0 ≤ z by omega)]; congr 1; unfold tcB; rw [if_pos (by omega)]; exact hw) hle.1 hle.2 _ _ _ hP hD hS (lv_sub hl [2, 3, 4, 5, 6, 0] rfl)
    exact lp (st w9 + 2) (st w9 : Int) bs bn bc ct (by omega) (by omega) (by omega) rfl hbs hbn _ _ _ hP hD hS (lv_sub hl [1, 2, 3, 4, 5, 0] rfl)
  exact W.vret hx hb hr (fun t ht hW => ⟨⟨(bs, bn, bc, ct), rfl, (tcP_cut (show s9 + pf w9 < bs by omega)).symm, by rw [ht]; exact hP, va_K.moved hW.alike hK, hD⟩, hS.F ht⟩) hS.2.2 d_PS_tryCounts_31
theorem c_PS_tryCounts (l : Launch) (dC : Nat → ClassId) (dI : Nat → Nat → Nat) (a0 ab ap aq ac : Nat) (cI : ClassId) (v0 vw vs : Nat) (pi pf wd st : Nat → Nat) (bf kn most cnt : Nat) (room : Int) (hc5 : cnt ≤ 5) (hst : ∀ i, i < cnt → st i ≤ 6) (hpi : ∀ i, i < cnt → pi i ≤ 20100) (hpf : ∀ i, i < cnt → pf i ≤ 700000) (hr1 : -2000 ≤ room) (hr2 : room ≤ 20100) (hmo : most ≤ 39) : ∀ (k sz w9 s9 n9 bs bn : Nat) (bc ct : Nat → Nat), w9 + k = cnt → s9 ≤ 20100 → n9 ≤ 39 → bs ≤ 20100 → bn ≤ 39 → Met l y_PS_tryCounts w_PS_tryCounts { frames := k + 2, cells := 0, slots := 0, locals := 102 + 26 * k } (rw_Pc (dC, dI) vwCl [(cI, .int)] sz [.ref a0, .ref v0, .int (nI w9), .int (nI s9), .int (nI n9)] [(a0, .inr (2, [.ref ab, .int (nI bn), .int (nI bf), .int (nI kn), .ref ap, .ref aq, .ref ac, .int (zI room), .int (nI most), .int (nI bs)])), (ab, .inl (cI, 5, .inl (aN bc))), (ap, .inl (cI, 5, .inl (aN pi))), (aq, .inl (cI, 6, .inl (aN pf))), (ac, .inl (cI, 5, .inl (aN ct))), (v0, .inr (5, [.ref vw, .ref vs, .int (nI cnt)])), (vw, .inl (cI, 5, .inl (aN wd))), (vs, .inl (cI, 5, .inl (aN st)))]) (va_Qv (fun (u : Nat × Nat × (Nat → Nat) × (Nat → Nat)) => (u.1, u.2.1, u.2.2.1, u.2.2.2) = tcP pi st pf room most k w9 s9 n9 (bs, bn, bc, ct)) (rw_B (dC, dI) vwCl [(cI, .int)] (va_A [(a0, .inr (2, [.ref ab, .int (nI bn), .int (nI bf), .int (nI kn), .ref ap, .ref aq, .ref ac, .int (zI room), .int (nI most), .int (nI bs)])), (ab, .inl (cI, 5, .inl (aN bc))), (ap, .inl (cI, 5, .inl (aN pi))), (aq, .inl (cI, 6, .inl (aN pf))), (ac, .inl (cI, 5, .inl (aN ct))), (v0, .inr (5, [.ref vw, .ref vs, .int (nI cnt)])), (vw, .inl (cI, 5, .inl (aN wd))), (vs, .inl (cI, 5, .inl (aN st)))] sz) (fun u : Nat × Nat × (Nat → Nat) × (Nat → Nat) => [(a0, .inr (2, [.ref ab, .int (nI u.2.1), .int (nI bf), .int (nI kn), .ref ap, .ref aq, .ref ac, .int (zI room), .int (nI most), .int (nI u.1)])), (ab, .inl (cI, 5, .inl (aN u.2.2.1))), (ap, .inl (cI, 5, .inl (aN pi))), (aq, .inl (cI, 6, .inl (aN pf))), (ac, .inl (cI, 5, .inl (aN u.2.2.2))), (v0, .inr (5, [.ref vw, .ref vs, .int (nI cnt)])), (vw, .inl (cI, 5, .inl (aN wd))), (vs, .inl (cI, 5, .inl (aN st)))])) (va_A [(a0, .inr (2, [.ref ab, .int (nI bn), .int (nI bf), .int (nI kn), .ref ap, .ref aq, .ref ac, .int (zI room), .int (nI most), .int (nI bs)])), (ab, .inl (cI, 5, .inl (aN bc))), (ap, .inl (cI, 5, .inl (aN pi))), (aq, .inl (cI, 6, .inl (aN pf))), (ac, .inl (cI, 5, .inl (aN ct))), (v0, .inr (5, [.ref vw, .ref vs, .int (nI cnt)])), (vw, .inl (cI, 5, .inl (aN wd))), (vs, .inl (cI, 5, .inl (aN st)))] sz)) 0 0 (va_A [(a0, .inr (2, [.ref ab, .int (nI bn), .int (nI bf), .int (nI kn), .ref ap, .ref aq, .ref ac, .int (zI room), .int (nI most), .int (nI bs)])), (ab, .inl (cI, 5, .inl (aN bc))), (ap, .inl (cI, 5, .inl (aN pi))), (aq, .inl (cI, 6, .inl (aN pf))), (ac, .inl (cI, 5, .inl (aN ct))), (v0, .inr (5, [.ref vw, .ref vs, .int (nI cnt)])), (vw, .inl (cI, 5, .inl (aN wd))), (vs, .inl (cI, 5, .inl (aN st)))] sz) := by
  intro k
  induction k with
  | zero => exact fun sz w9 s9 n9 bs bn bc ct h1 h2 h3 h4 h5 => c_PS_try0 l dC dI sz a0 ab ap aq ac cI v0 vw vs pi pf wd st bf kn most cnt room hc5 hst hpi hpf hr1 hr2 hmo w9 s9 n9 bs bn bc ct h1 h2 h3 h4 h5
  | succ k ih => exact fun sz w9 s9 n9 bs bn bc ct h1 h2 h3 h4 h5 => c_PS_tryS l dC dI sz a0 ab ap aq ac cI v0 vw vs pi pf wd st bf kn most cnt room hc5 hst hpi hpf hr1 hr2 hmo k ih w9 s9 n9 bs bn bc ct h1 h2 h3 h4 h5
