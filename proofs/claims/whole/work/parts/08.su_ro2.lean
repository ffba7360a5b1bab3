set_option maxHeartbeats 4000000 in
set_option maxRecDepth 100000 in
/-- leftPast(defects, least) -/
theorem c_SU_leftPast (l : Launch) (dC : Nat → ClassId) (dI : Nat → Nat → Nat) (o on ob oe ok : Nat) (cI : ClassId) (bg en : Nat → Nat) (sc lf kc wd kg tr sp : Nat) (h hf ht : Nat) (fr to : Nat → Nat) (dc : Nat) (le : Nat) (hsc : sc ≤ 30) (hdc : dc ≤ 10) (hle : le < 1000000) (hb1 : ∀ k, k < sc → bg k < 1000000) (he1 : ∀ k, k < sc → en k < 1000000) (ht1 : ∀ d, d < dc → to d ≤ 20000) (hf1 : ∀ d, d < dc → fr d ≤ 20000) : Met l y_SU_leftPast w_SU_leftPast { frames := 0, cells := 0, slots := 0, locals := 0 } (ro_Pc (dC, dI) vwCl [(cI, .int)] [.ref o, .ref h, .int (nI le)] [(o, .inr (4, [.ref on, .ref ob, .ref oe, .int (nI sc), .int (nI lf), .ref ok, .int (nI kc), .int (nI wd), .int (nI kg), .int (nI tr), .int (nI sp)])), (ob, .inl (cI, 30, .inl (aN bg))), (oe, .inl (cI, 30, .inl (aN en))), (h, .inr (1, [.ref hf, .ref ht, .int (nI dc)])), (hf, .inl (cI, 10, .inl (aN fr))), (ht, .inl (cI, 10, .inl (aN to)))]) (ro_Qi (fun r => ∃ x, r = nI x ∧ LPa bg en fr to sc dc le x)) 0 0 ro_no := by
  refine Met.ofW (cc := b_SU_leftPast) (maxL := 6) (ret := (some .int)) (by decide) rfl ?_
  intro p e s m args below meth c s₁ B hml hv
  obtain ⟨rfl, hP, hK⟩ := hv
  have hx := B.exec
  have hb := B.bytes
  have hr := B.returns
  have hts := gw_h (atoms_spec (ws := w_SU_leftPast) B.pre)
  have hown : s.vm.findClass R_SU = some m.cls := findClass_of_methodNamed B.named
  have hlocks := B.notSynchronized
  have hS : va_S ro_no s.heap s.heap [] := va_S.rf
  have hP : va_P (dC, dI) vwCl [(o, .inr (4, [.ref on, .ref ob, .ref oe, .int (nI sc), .int (nI lf), .ref ok, .int (nI kc), .int (nI wd), .int (nI kg), .int (nI tr), .int (nI sp)])), (ob, .inl (cI, 30, .inl (aN bg))), (oe, .inl (cI, 30, .inl (aN en))), (h, .inr (1, [.ref hf, .ref ht, .int (nI dc)])), (hf, .inl (cI, 10, .inl (aN fr))), (ht, .inl (cI, 10, .inl (aN to)))] s.heap := hP
  have hl := lv_entry ([.ref o, .ref h, .int (nI le)]) (n := 6) (Nat.le_of_ble_eq_true rfl)
  rw [lg_entry_eq]
  generalize (lg_sl ([.ref o, .ref h, .int (nI le)]) ++ List.replicate (6 - (lg_sl ([.ref o, .ref h, .int (nI le)])).length) Slot.unset).toArray = ls at hl ⊢
  have hl : lv_has ls 6 [(0, .ref o), (1, .ref h), (2, .int (nI le))] := hl
  refine lv_iload_n hx hb d_SU_leftPast_0 rfl (lv_at hl 2 rfl) ?_
  refine lv_istore_n (lv' := [(3, .int (nI le)), (0, .ref o), (1, .ref h), (2, .int (nI le))]) hx hb d_SU_leftPast_1 rfl hl (by decide) rfl (fun ls hl => ?_)
  refine lv_iconst (v := nI 0) hx hb d_SU_leftPast_2 (by decide +kernel) ?_
  refine lv_istore (lv' := [(4, .int (nI 0)), (3, .int (nI le)), (0, .ref o), (1, .ref h), (2, .int (nI le))]) hx hb d_SU_leftPast_3 hl (by decide) rfl (fun ls hl => ?_)
  have out : ∀ (n_out : Nat) (k : Nat) (q : Nat), (sc + 1 ≤ k + n_out) → (k ≤ sc) → (LPI bg en fr to sc dc le k 0 q) → ∀ (H : Heap) (locs : List Loc) (ls : Array Slot), va_P (dC, dI) vwCl [(o, .inr (4, [.ref on, .ref ob, .ref oe, .int (nI sc), .int (nI lf), .ref ok, .int (nI kc), .int (nI wd), .int (nI kg), .int (nI tr), .int (nI sp)])), (ob, .inl (cI, 30, .inl (aN bg))), (oe, .inl (cI, 30, .inl (aN en))), (h, .inr (1, [.ref hf, .ref ht, .int (nI dc)])), (hf, .inl (cI, 10, .inl (aN fr))), (ht, .inl (cI, 10, .inl (aN to)))] H → va_S ro_no s.heap H locs → lv_has ls 6 [(0, .ref o), (1, .ref h), (2, .int (nI le)), (3, .int (nI q)), (4, .int (nI k))] → W p l e (headSpec w_SU_leftPast { frames := 0, cells := 0, slots := 0, locals := 0 }).room s m [.ref o, .ref h, .int (nI le)].toArray below meth c H locs 0 0 (MQ below (ro_Qi (fun r => ∃ x, r = nI x ∧ LPa bg en fr to sc dc le x)) [.ref o, .ref h, .int (nI le)].toArray s 0 0 ro_no) (F0 m 5 ls []) := by
    intro n_out
    induction n_out with
    | zero =>
      intro k q hm hk hI
      exact absurd hm (by omega)
    | succ n_out ih_out =>
      intro k q hm hk hI H locs ls hP hS hl
      refine lv_iload hx hb d_SU_leftPast_5 (lv_at hl 4 rfl) ?_
      refine lv_aload_n hx hb d_SU_leftPast_7 rfl (lv_at hl 0 rfl) ?_
      refine va_get (D := (dC, dI)) (ci := 4) (v := .int (nI sc)) (C := R_SU) (T := F_SU) (N := 11) hx hb hts in_SU hown hK hP 0 rfl rfl 3 (by decide) (hts _ m_189) (fun _ h9 => h9) rfl d_SU_leftPast_8 ?_
      refine ix_icmp_ge (tgt := 92) hx hb (nI_tI (n := k) (by omega)) (nI_tI (n := sc) (by omega)) d_SU_leftPast_11 (by decide) (fun c_11 => ?_) (fun c_11 => ?_)
      · refine lv_iload_n hx hb d_SU_leftPast_92 rfl (lv_at hl 3 rfl) ?_
        exact W.iret (v := nI q) hx hb hr (fun t ht hW => ⟨⟨nI q, (), rfl, ⟨_, rfl, hI.done (by omega)⟩, trivial⟩, hS.F ht⟩) hS.2.2 d_SU_leftPast_93
      refine lv_iconst (v := nI 0) hx hb d_SU_leftPast_14 (by decide +kernel) ?_
      refine lv_istore (lv' := [(5, .int (nI 0)), (0, .ref o), (1, .ref h), (2, .int (nI le)), (3, .int (nI q)), (4, .int (nI k))]) hx hb d_SU_leftPast_15 hl (by decide) rfl (fun ls hl => ?_)
      have hks : k < sc := by omega
      have hbk := hb1 k hks
      have hek := he1 k hks
      have inn : ∀ (n_inn : Nat) (d : Nat) (q : Nat), (dc + 1 ≤ d + n_inn) → (d ≤ dc) → (LPI bg en fr to sc dc le k d q) → ∀ (H : Heap) (locs : List Loc) (ls : Array Slot), va_P (dC, dI) vwCl [(o, .inr (4, [.ref on, .ref ob, .ref oe, .int (nI sc), .int (nI lf), .ref ok, .int (nI kc), .int (nI wd), .int (nI kg), .int (nI tr), .int (nI sp)])), (ob, .inl (cI, 30, .inl (aN bg))), (oe, .inl (cI, 30, .inl (aN en))), (h, .inr (1, [.ref hf, .ref ht, .int (nI dc)])), (hf, .inl (cI, 10, .inl (aN fr))), (ht, .inl (cI, 10, .inl (aN to)))] H → va_S ro_no s.heap H locs → lv_has ls 6 [(0, .ref o), (1, .ref h), (2, .int (nI le)), (3, .int (nI q)), (4, .int (nI k)), (5, .int (nI d))] → W p l e (headSpec w_SU_leftPast { frames := 0, cells := 0, slots := 0, locals := 0 }).room s m [.ref o, .ref h, .int (nI le)].toArray below meth c H locs 0 0 (MQ below (ro_Qi (fun r => ∃ x, r = nI x ∧ LPa bg en fr to sc dc le x)) [.ref o, .ref h, .int (nI le)].toArray s 0 0 ro_no) (F0 m 17 ls []) := by
        intro n_inn
        induction n_inn with
        | zero =>
          intro d q hm2 hd hI
          exact absurd hm2 (by omega)
        | succ n_inn ih_inn =>
          intro d q hm2 hd hI H locs ls hP hS hl
          refine lv_iload hx hb d_SU_leftPast_17 (lv_at hl 5 rfl) ?_
          refine lv_aload_n hx hb d_SU_leftPast_19 rfl (lv_at hl 1 rfl) ?_
          refine va_get (D := (dC, dI)) (ci := 1) (v := .int (nI dc)) (C := R_DE) (T := F_DE) (N := 3) hx hb hts in_DE hown hK hP 3 rfl rfl 2 (by decide) (hts _ m_142) (fun _ h9 => h9) rfl d_SU_leftPast_20 ?_
          refine ix_icmp_ge (tgt := 86) hx hb (nI_tI (n := d) (by omega)) (nI_tI (n := dc) (by omega)) d_SU_leftPast_23 (by decide) (fun c_23 => ?_) (fun c_23 => ?_)
          · refine lv_iinc (v := nI (k + 1)) (lv' := [(4, .int (nI (k + 1))), (0, .ref o), (1, .ref h), (2, .int (nI le)), (3, .int (nI q)), (5, .int (nI d))]) hx hb d_SU_leftPast_86 hl (k := 4) rfl (n_incN k 1) (by decide) rfl (fun ls hl => ?_)
            refine lv_goto (tgt := 5) hx hb d_SU_leftPast_89 (by decide) ?_
            exact ih_out (k + 1) q (by omega) (by omega) (hI.next (by omega)) _ _ _ hP hS (lv_sub hl [1, 2, 3, 4, 0] rfl)
          have hds : d < dc := by omega
          have htd := ht1 d hds
          have hfd := hf1 d hds
          have hq2 := hI.2.1
          refine lv_iload_n hx hb d_SU_leftPast_26 rfl (lv_at hl 3 rfl) ?_
          refine lv_aload_n hx hb d_SU_leftPast_27 rfl (lv_at hl 0 rfl) ?_
          refine va_get (D := (dC, dI)) (ci := 4) (v := .ref ob) (C := R_SU) (T := F_SU) (N := 11) hx hb hts in_SU hown hK hP 0 rfl rfl 1 (by decide) (hts _ m_185) (fun _ h9 => h9) rfl d_SU_leftPast_28 ?_
          refine lv_iload hx hb d_SU_leftPast_31 (lv_at hl 4 rfl) ?_
          refine ix_ialdN (i := k) hx hb hK hP 1 0 rfl rfl (by omega) (by decide) d_SU_leftPast_33 ?_
          refine lv_iadd hx hb d_SU_leftPast_34 ?_
          refine lv_topr (show _ = nI (q + (bg k)) from nn_add _ _) ?_
          refine lv_aload_n hx hb d_SU_leftPast_35 rfl (lv_at hl 1 rfl) ?_
          refine va_get (D := (dC, dI)) (ci := 1) (v := .ref ht) (C := R_DE) (T := F_DE) (N := 3) hx hb hts in_DE hown hK hP 3 rfl rfl 1 (by decide) (hts _ m_139) (fun _ h9 => h9) rfl d_SU_leftPast_36 ?_
          refine lv_iload hx hb d_SU_leftPast_39 (lv_at hl 5 rfl) ?_
          refine ix_ialdN (i := d) hx hb hK hP 5 0 rfl rfl (by omega) (by decide) d_SU_leftPast_41 ?_
          refine ix_icmp_ge (tgt := 80) hx hb (nI_tI (n := q + (bg k)) (by omega)) (nI_tI (n := to d) (by omega)) d_SU_leftPast_42 (by decide) (fun c_42 => ?_) (fun c_42 => ?_)
          · refine lv_iinc (v := nI (d + 1)) (lv' := [(5, .int (nI (d + 1))), (0, .ref o), (1, .ref h), (2, .int (nI le)), (3, .int (nI q)), (4, .int (nI k))]) hx hb d_SU_leftPast_80 hl (k := 5) rfl (n_incN d 1) (by decide) rfl (fun ls hl => ?_)
            refine lv_goto (tgt := 17) hx hb d_SU_leftPast_83 (by decide) ?_
            exact ih_inn (d + 1) q (by omega) (by omega) (hI.skip (by unfold hit; omega)) _ _ _ hP hS (lv_sub hl [1, 2, 3, 4, 5, 0] rfl)
          refine lv_aload_n hx hb d_SU_leftPast_45 rfl (lv_at hl 1 rfl) ?_
          refine va_get (D := (dC, dI)) (ci := 1) (v := .ref hf) (C := R_DE) (T := F_DE) (N := 3) hx hb hts in_DE hown hK hP 3 rfl rfl 0 (by decide) (hts _ m_136) (fun _ h9 => h9) rfl d_SU_leftPast_46 ?_
          refine lv_iload hx hb d_SU_leftPast_49 (lv_at hl 5 rfl) ?_
          refine ix_ialdN (i := d) hx hb hK hP 4 0 rfl rfl (by omega) (by decide) d_SU_leftPast_51 ?_
          refine lv_iload_n hx hb d_SU_leftPast_52 rfl (lv_at hl 3 rfl) ?_
          refine lv_aload_n hx hb d_SU_leftPast_53 rfl (lv_at hl 0 rfl) ?_
          refine va_get (D := (dC, dI)) (ci := 4) (v := .ref oe) (C := R_SU) (T := F_SU) (N := 11) hx hb hts in_SU hown hK hP 0 rfl rfl 2 (by decide) (hts _ m_187) (fun _ h9 => h9) rfl d_SU_leftPast_54 ?_
          refine lv_iload hx hb d_SU_leftPast_57 (lv_at hl 4 rfl) ?_
          refine ix_ialdN (i := k) hx hb hK hP 2 0 rfl rfl (by omega) (by decide) d_SU_leftPast_59 ?_
          refine lv_iadd hx hb d_SU_leftPast_60 ?_
          refine lv_topr (show _ = nI (q + (en k)) from nn_add _ _) ?_
          refine ix_icmp_ge (tgt := 80) hx hb (nI_tI (n := fr d) (by omega)) (nI_tI (n := q + (en k)) (by omega)) d_SU_leftPast_61 (by decide) (fun c_61 => ?_) (fun c_61 => ?_)
          · refine lv_iinc (v := nI (d + 1)) (lv' := [(5, .int (nI (d + 1))), (0, .ref o), (1, .ref h), (2, .int (nI le)), (3, .int (nI q)), (4, .int (nI k))]) hx hb d_SU_leftPast_80 hl (k := 5) rfl (n_incN d 1) (by decide) rfl (fun ls hl => ?_)
            refine lv_goto (tgt := 17) hx hb d_SU_leftPast_83 (by decide) ?_
            exact ih_inn (d + 1) q (by omega) (by omega) (hI.skip (by unfold hit; omega)) _ _ _ hP hS (lv_sub hl [1, 2, 3, 4, 5, 0] rfl)
          refine lv_aload_n hx hb d_SU_leftPast_64 rfl (lv_at hl 1 rfl) ?_
          refine va_get (D := (dC, dI)) (ci := 1) (v := .ref ht) (C := R_DE) (T := F_DE) (N := 3) hx hb hts in_DE hown hK hP 3 rfl rfl 1 (by decide) (hts _ m_139) (fun _ h9 => h9) rfl d_SU_leftPast_65 ?_
          refine lv_iload hx hb d_SU_leftPast_68 (lv_at hl 5 rfl) ?_
          refine ix_ialdN (i := d) hx hb hK hP 5 0 rfl rfl (by omega) (by decide) d_SU_leftPast_70 ?_
          refine lv_aload_n hx hb d_SU_leftPast_71 rfl (lv_at hl 0 rfl) ?_
          refine va_get (D := (dC, dI)) (ci := 4) (v := .ref ob) (C := R_SU) (T := F_SU) (N := 11) hx hb hts in_SU hown hK hP 0 rfl rfl 1 (by decide) (hts _ m_185) (fun _ h9 => h9) rfl d_SU_leftPast_72 ?_
          refine lv_iload hx hb d_SU_leftPast_75 (lv_at hl 4 rfl) ?_
          refine ix_ialdN (i := k) hx hb hK hP 1 0 rfl rfl (by omega) (by decide) d_SU_leftPast_77 ?_
          refine lv_isub hx hb d_SU_leftPast_78 ?_
          refine lv_topr (show _ = nI ((to d) - (bg k)) from nn_subN (by omega)) ?_
          refine lv_istore_n (lv' := [(3, .int (nI ((to d) - (bg k)))), (0, .ref o), (1, .ref h), (2, .int (nI le)), (4, .int (nI k)), (5, .int (nI d))]) hx hb d_SU_leftPast_79 rfl hl (by decide) rfl (fun ls hl => ?_)
          refine lv_iinc (v := nI (d + 1)) (lv' := [(5, .int (nI (d + 1))), (3, .int (nI ((to d) - (bg k)))), (0, .ref o), (1, .ref h), (2, .int (nI le)), (4, .int (nI k))]) hx hb d_SU_leftPast_80 hl (k := 5) rfl (n_incN d 1) (by decide) rfl (fun ls hl => ?_)
          refine lv_goto (tgt := 17) hx hb d_SU_leftPast_83 (by decide) ?_
          exact ih_inn (d + 1) ((to d) - (bg k)) (by omega) (by omega) (hI.jump hks hds htd (by unfold hit; omega)) _ _ _ hP hS (lv_sub hl [2, 3, 4, 1, 5, 0] rfl)
      exact inn (dc + 1) 0 q (by omega) (by omega) hI _ _ _ hP hS (lv_sub hl [1, 2, 3, 4, 5, 0] rfl)
  exact out (sc + 1) 0 le (by omega) (by omega) (LPI.init bg en fr to sc dc le) _ _ _ hP hS (lv_sub hl [2, 3, 4, 1, 0] rfl)
set_option maxHeartbeats 4000000 in
set_option maxRecDepth 100000 in
/-- leastSoundLeft(defects): the least left without a defect, or -1 -/
theorem c_SU_leastSoundLeft (l : Launch) (dC : Nat → ClassId) (dI : Nat → Nat → Nat) (o on ob oe ok : Nat) (cI : ClassId) (bg en : Nat → Nat) (sc lf kc wd kg tr sp : Nat) (h hf ht : Nat) (fr to : Nat → Nat) (dc : Nat) (hsc : sc ≤ 30) (hdc : dc ≤ 10) (hb1 : ∀ k, k < sc → bg k < 1000000) (he1 : ∀ k, k < sc → en k < 1000000) (ht1 : ∀ d, d < dc → to d ≤ 20000) (hf1 : ∀ d, d < dc → fr d ≤ 20000) (hw : tr + sp ≤ wd) (hw2 : wd ≤ 20000) : Met l y_SU_leastSoundLeft w_SU_leastSoundLeft { frames := 1, cells := 0, slots := 0, locals := 25 } (ro_Pc (dC, dI) vwCl [(cI, .int)] [.ref o, .ref h] [(o, .inr (4, [.ref on, .ref ob, .ref oe, .int (nI sc), .int (nI lf), .ref ok, .int (nI kc), .int (nI wd), .int (nI kg), .int (nI tr), .int (nI sp)])), (ob, .inl (cI, 30, .inl (aN bg))), (oe, .inl (cI, 30, .inl (aN en))), (h, .inr (1, [.ref hf, .ref ht, .int (nI dc)])), (hf, .inl (cI, 10, .inl (aN fr))), (ht, .inl (cI, 10, .inl (aN to)))]) (ro_Qi (fun r => ∃ z, r = zI z ∧ SS bg en fr to sc dc tr (wd - tr - sp) z)) 0 0 ro_no := by
  refine Met.ofW (cc := b_SU_leastSoundLeft) (maxL := 7) (ret := (some .int)) (by decide) rfl ?_
  intro p e s m args below meth c s₁ B hml hv
  obtain ⟨rfl, hP, hK⟩ := hv
  have hx := B.exec
  have hb := B.bytes
  have hr := B.returns
  have hts := gw_h (atoms_spec (ws := w_SU_leastSoundLeft) B.pre)
  have hown : s.vm.findClass R_SU = some m.cls := findClass_of_methodNamed B.named
  have hlocks := B.notSynchronized
  have hS : va_S ro_no s.heap s.heap [] := va_S.rf
  have hP : va_P (dC, dI) vwCl [(o, .inr (4, [.ref on, .ref ob, .ref oe, .int (nI sc), .int (nI lf), .ref ok, .int (nI kc), .int (nI wd), .int (nI kg), .int (nI tr), .int (nI sp)])), (ob, .inl (cI, 30, .inl (aN bg))), (oe, .inl (cI, 30, .inl (aN en))), (h, .inr (1, [.ref hf, .ref ht, .int (nI dc)])), (hf, .inl (cI, 10, .inl (aN fr))), (ht, .inl (cI, 10, .inl (aN to)))] s.heap := hP
  have hl := lv_entry ([.ref o, .ref h]) (n := 7) (Nat.le_of_ble_eq_true rfl)
  rw [lg_entry_eq]
  generalize (lg_sl ([.ref o, .ref h]) ++ List.replicate (7 - (lg_sl ([.ref o, .ref h])).length) Slot.unset).toArray = ls at hl ⊢
  have hl : lv_has ls 7 [(0, .ref o), (1, .ref h)] := hl
  have hpr : sc * dc ≤ 300 := Nat.le_trans (Nat.mul_le_mul hsc hdc) (by decide)
  refine lv_aload_n hx hb d_SU_leastSoundLeft_0 rfl (lv_at hl 0 rfl) ?_
  refine va_get (D := (dC, dI)) (ci := 4) (v := .int (nI wd)) (C := R_SU) (T := F_SU) (N := 11) hx hb hts in_SU hown hK hP 0 rfl rfl 7 (by decide) (hts _ m_195) (fun _ h9 => h9) rfl d_SU_leastSoundLeft_1 ?_
  refine lv_aload_n hx hb d_SU_leastSoundLeft_4 rfl (lv_at hl 0 rfl) ?_
  refine va_get (D := (dC, dI)) (ci := 4) (v := .int (nI tr)) (C := R_SU) (T := F_SU) (N := 11) hx hb hts in_SU hown hK hP 0 rfl rfl 9 (by decide) (hts _ m_197) (fun _ h9 => h9) rfl d_SU_leastSoundLeft_5 ?_
  refine lv_isub hx hb d_SU_leastSoundLeft_8 ?_
  refine lv_topr (show _ = nI (wd - tr) from nn_subN (by omega)) ?_
  refine lv_aload_n hx hb d_SU_leastSoundLeft_9 rfl (lv_at hl 0 rfl) ?_
  refine va_get (D := (dC, dI)) (ci := 4) (v := .int (nI sp)) (C := R_SU) (T := F_SU) (N := 11) hx hb hts in_SU hown hK hP 0 rfl rfl 10 (by decide) (hts _ m_198) (fun _ h9 => h9) rfl d_SU_leastSoundLeft_10 ?_
  refine lv_isub hx hb d_SU_leastSoundLeft_13 ?_
  refine lv_topr (show _ = nI ((wd - tr) - sp) from nn_subN (by omega)) ?_
  refine lv_istore_n (lv' := [(2, .int (nI ((wd - tr) - sp))), (0, .ref o), (1, .ref h)]) hx hb d_SU_leastSoundLeft_14 rfl hl (by decide) rfl (fun ls hl => ?_)
  refine lv_aload_n hx hb d_SU_leastSoundLeft_15 rfl (lv_at hl 1 rfl) ?_
  refine va_get (D := (dC, dI)) (ci := 4) (v := .int (nI sc)) (C := R_SU) (T := F_SU) (N := 11) hx hb hts in_SU hown hK hP 0 rfl rfl 3 (by decide) (hts _ m_189) (fun _ h9 => h9) rfl d_SU_leastSoundLeft_16 ?_
  refine lv_aload_n hx hb d_SU_leastSoundLeft_19 rfl (lv_at hl 2 rfl) ?_
  refine va_get (D := (dC, dI)) (ci := 1) (v := .int (nI dc)) (C := R_DE) (T := F_DE) (N := 3) hx hb hts in_DE hown hK hP 3 rfl rfl 2 (by decide) (hts _ m_142) (fun _ h9 => h9) rfl d_SU_leastSoundLeft_20 ?_
  refine lv_imul hx hb d_SU_leastSoundLeft_23 ?_
  refine lv_topr (show _ = nI (sc * dc) from nn_mul _ _) ?_
  refine lv_istore_n (lv' := [(3, .int (nI (sc * dc))), (2, .int (nI ((wd - tr) - sp))), (0, .ref o), (1, .ref h)]) hx hb d_SU_leastSoundLeft_24 rfl hl (by decide) rfl (fun ls hl => ?_)
  refine lv_aload_n hx hb d_SU_leastSoundLeft_25 rfl (lv_at hl 2 rfl) ?_
  refine va_get (D := (dC, dI)) (ci := 4) (v := .int (nI tr)) (C := R_SU) (T := F_SU) (N := 11) hx hb hts in_SU hown hK hP 0 rfl rfl 9 (by decide) (hts _ m_197) (fun _ h9 => h9) rfl d_SU_leastSoundLeft_26 ?_
  refine lv_istore (lv' := [(4, .int (nI tr)), (3, .int (nI (sc * dc))), (2, .int (nI ((wd - tr) - sp))), (0, .ref o), (1, .ref h)]) hx hb d_SU_leastSoundLeft_29 hl (by decide) rfl (fun ls hl => ?_)
  refine lv_iconst (v := nI 0) hx hb d_SU_leastSoundLeft_31 (by decide +kernel) ?_
  refine lv_istore (lv' := [(5, .int (nI 0)), (4, .int (nI tr)), (3, .int (nI (sc * dc))), (2, .int (nI ((wd - tr) - sp))), (0, .ref o), (1, .ref h)]) hx hb d_SU_leastSoundLeft_32 hl (by decide) rfl (fun ls hl => ?_)
  have out : ∀ (n_out : Nat) (cn : Nat) (q : Nat), (sc * dc + 2 ≤ cn + n_out) → (npas bg to sc dc q + cn ≤ sc * dc) → (tr ≤ q) → (q = tr ∨ q ≤ 20000) → (∀ L', tr ≤ L' → okL bg en fr to sc dc L' → q ≤ L') → ∀ (H : Heap) (locs : List Loc) (ls : Array Slot), va_P (dC, dI) vwCl [(o, .inr (4, [.ref on, .ref ob, .ref oe, .int (nI sc), .int (nI lf), .ref ok, .int (nI kc), .int (nI wd), .int (nI kg), .int (nI tr), .int (nI sp)])), (ob, .inl (cI, 30, .inl (aN bg))), (oe, .inl (cI, 30, .inl (aN en))), (h, .inr (1, [.ref hf, .ref ht, .int (nI dc)])), (hf, .inl (cI, 10, .inl (aN fr))), (ht, .inl (cI, 10, .inl (aN to)))] H → va_S ro_no s.heap H locs → lv_has ls 7 [(0, .ref o), (1, .ref h), (2, .int (nI (wd - tr - sp))), (3, .int (nI (sc * dc))), (4, .int (nI q)), (5, .int (nI cn))] → W p l e (headSpec w_SU_leastSoundLeft { frames := 1, cells := 0, slots := 0, locals := 25 }).room s m [.ref o, .ref h].toArray below meth c H locs 0 0 (MQ below (ro_Qi (fun r => ∃ z, r = zI z ∧ SS bg en fr to sc dc tr (wd - tr - sp) z)) [.ref o, .ref h].toArray s 0 0 ro_no) (F0 m 34 ls []) := by
    intro n_out
    induction n_out with
    | zero =>
      intro cn q hm hN hq hq2 hmin
      exact absurd hm (by omega)
    | succ n_out ih_out =>
      intro cn q hm hN hq hq2 hmin H locs ls hP hS hl
      refine lv_iload hx hb d_SU_leastSoundLeft_34 (lv_at hl 5 rfl) ?_
      refine lv_iload_n hx hb d_SU_leastSoundLeft_36 rfl (lv_at hl 3 rfl) ?_
      refine ix_icmp_gt (tgt := 75) hx hb (nI_tI (n := cn) (by omega)) (nI_tI (n := sc * dc) (by omega)) d_SU_leastSoundLeft_37 (by decide) (fun c_37 => absurd c_37 (by have := hN; omega)) (fun c_37 => ?_)
      refine lv_iload hx hb d_SU_leastSoundLeft_40 (lv_at hl 4 rfl) ?_
      refine lv_iload_n hx hb d_SU_leastSoundLeft_42 rfl (lv_at hl 2 rfl) ?_
      refine ix_icmp_gt (tgt := 75) hx hb (nI_tI (n := q) (by omega)) (nI_tI (n := wd - tr - sp) (by omega)) d_SU_leastSoundLeft_43 (by decide) (fun c_43 => ?_) (fun c_43 => ?_)
      · refine lv_iconst (v := zI (-1)) hx hb d_SU_leastSoundLeft_75 (by decide +kernel) ?_
        exact W.iret (v := zI (-1)) hx hb hr (fun t ht hW => ⟨⟨zI (-1), (), rfl, ⟨_, rfl, Or.inr ⟨rfl, fun L h1 h2 ok => by have := hmin L h1 ok; omega⟩⟩, trivial⟩, hS.F ht⟩) hS.2.2 d_SU_leastSoundLeft_76
      refine lv_aload_n hx hb d_SU_leastSoundLeft_46 rfl (lv_at hl 0 rfl) ?_
      refine lv_aload_n hx hb d_SU_leastSoundLeft_47 rfl (lv_at hl 1 rfl) ?_
      refine lv_iload hx hb d_SU_leastSoundLeft_48 (lv_at hl 4 rfl) ?_
      have hPc := hP.sub (ws' := [(o, .inr (4, [.ref on, .ref ob, .ref oe, .int (nI sc), .int (nI lf), .ref ok, .int (nI kc), .int (nI wd), .int (nI kg), .int (nI tr), .int (nI sp)])), (ob, .inl (cI, 30, .inl (aN bg))), (oe, .inl (cI, 30, .inl (aN en))), (h, .inr (1, [.ref hf, .ref ht, .int (nI dc)])), (hf, .inl (cI, 10, .inl (aN fr))), (ht, .inl (cI, 10, .inl (aN to)))]) [0, 1, 2, 3, 4, 5] rfl
      refine ro_calli (va_runV (As := [.ref h, .int (nI q)]) (rest := []) ⟨hx, hb, hml, hown, hts⟩ (c_SU_leftPast l dC dI o on ob oe ok cI bg en sc lf kc wd kg tr sp h hf ht fr to dc q hsc hdc (by omega) hb1 he1 ht1 hf1) (cwV 2 hts (gw_V m_561 m_563 s_15 m_7 m_564) rfl rfl rfl (by decide +kernel) ⟨Nat.le_of_ble_eq_true rfl, Nat.le_of_ble_eq_true rfl⟩) ⟨ro_blind, va_recv hK hPc (ci := 4) (q0 := 0) rfl rfl, fun U hU hW => ⟨rfl, by rw [hU]; exact hPc, va_K.moved hW.alike hK⟩⟩ rfl rfl hl.1 rfl (lv_room (Nat.le_of_ble_eq_true rfl)) d_SU_leastSoundLeft_50 ⟨Nat.le_of_ble_eq_true rfl, Nat.le_of_ble_eq_true rfl⟩) hS hP (fun r H locs er hP hS => ?_)
      obtain ⟨x, rfl, hLP⟩ := er
      have hx1 := hLP.1
      have hx2 := hLP.2.1
      refine lv_istore (lv' := [(6, .int (nI x)), (0, .ref o), (1, .ref h), (2, .int (nI (wd - tr - sp))), (3, .int (nI (sc * dc))), (4, .int (nI q)), (5, .int (nI cn))]) hx hb d_SU_leastSoundLeft_53 hl (by decide) rfl (fun ls hl => ?_)
      refine lv_iload hx hb d_SU_leastSoundLeft_55 (lv_at hl 0 rfl) ?_
      refine lv_iload hx hb d_SU_leastSoundLeft_57 (lv_at hl 5 rfl) ?_
      refine ix_icmp_ne (tgt := 65) hx hb (nI_tI (n := x) (by omega)) (nI_tI (n := q) (by omega)) d_SU_leastSoundLeft_59 (by decide) (fun c_59 => ?_) (fun c_59 => ?_)
      · refine lv_iload hx hb d_SU_leastSoundLeft_65 (lv_at hl 0 rfl) ?_
        refine lv_istore (lv' := [(4, .int (nI x)), (6, .int (nI x)), (0, .ref o), (1, .ref h), (2, .int (nI (wd - tr - sp))), (3, .int (nI (sc * dc))), (5, .int (nI cn))]) hx hb d_SU_leastSoundLeft_67 hl (by decide) rfl (fun ls hl => ?_)
        refine lv_iinc (v := nI (cn + 1)) (lv' := [(5, .int (nI (cn + 1))), (4, .int (nI x)), (6, .int (nI x)), (0, .ref o), (1, .ref h), (2, .int (nI (wd - tr - sp))), (3, .int (nI (sc * dc)))]) hx hb d_SU_leastSoundLeft_69 hl (k := 6) rfl (n_incN cn 1) (by decide) rfl (fun ls hl => ?_)
        refine lv_goto (tgt := 34) hx hb d_SU_leastSoundLeft_72 (by decide) ?_
        exact ih_out (cn + 1) x (by omega) (by have := hLP.2.2.2.2 (by omega); omega) (by omega) (by omega) (fun L' h1 h2 => hLP.2.2.1 L' (hmin L' h1 h2) h2) _ _ _ hP hS (lv_sub hl [3, 4, 5, 6, 1, 0] rfl)
      refine lv_iload hx hb d_SU_leastSoundLeft_62 (lv_at hl 5 rfl) ?_
      refine lv_topr (zI_n q) ?_
      exact W.iret (v := zI q) hx hb hr (fun t ht hW => ⟨⟨zI q, (), rfl, ⟨_, rfl, Or.inl ⟨q, rfl, hq, by omega, hLP.2.2.2.1 (by omega), hmin⟩⟩, trivial⟩, hS.F ht⟩) hS.2.2 d_SU_leastSoundLeft_64
  exact out (sc * dc + 2) 0 tr (by omega) (by rw [Nat.add_zero]; exact npas_le) (Nat.le_refl _) (Or.inl rfl) (fun _ h _ => h) _ _ _ hP hS (lv_sub hl [4, 5, 3, 2, 1, 0] rfl)
